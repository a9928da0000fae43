/-! the reference's reading against the machine: types, constructors, functions -/
theorem up_e {f : Nat → Int} {j k : Nat} {z : Int} (h : k = j) : up f j z k = z := by
  rw [h, up_eq]
theorem TA_typ {ob ar : List Nat} {m x : Int} {H K : hp} {X : rx} (h : TA m H X) (f : fr ob ar H K) (h1 : ∀ c ∈ [1828, 1829, 1830, 1831, 1832, 1833, 1834, 1835, 1841], c ∉ ar) (h2 : ∀ j ∈ [3, 8, 13, 19], j ∉ ob) (h0 : 0 ≤ (H.1 1826 1)) (e1 : (K.1 1827) = up (H.1 1827) ((H.1 1826 1)).toNat x) (e2 : (K.1 1826 1) = (H.1 1826 1) + 1) : TA m K (xtyp X x) := by
  obtain ⟨a1, a2, a3, a4, a5⟩ := h
  obtain ⟨-, s3, s1⟩ := xtyp_s X x
  have r : ∀ {c : Nat}, c ≠ 0 → c ≠ 1 → xtyp X x c = X c := fun h0 h1 => xtyp_r X x h0 h1
  have r0 : ∀ {j : Nat}, j ≠ 0 → j ≠ 3 → xtyp X x 0 j = X 0 j := fun h0 h1 => xtyp_0 X x h0 h1
  have e0 := a1.1
  refine ⟨⟨by omega, fun k hk => ?_⟩, A2_cg a2 f (fun c hc => h1 c (by simp only [List.mem_cons, List.not_mem_nil, or_false] at hc ⊢; omega)) (h2 _ (by decide)) (r0 (by decide) (by decide)) (fun c c1 c2 => r (by omega) (by omega)), A3_cg a3 f (fun c hc => h1 c (by simp only [List.mem_cons, List.not_mem_nil, or_false] at hc ⊢; omega)) (h2 _ (by decide)) (r0 (by decide) (by decide)) (r (by decide) (by decide)) (r (by decide) (by decide)) (r (by decide) (by decide)), A4_cg a4 f (h1 _ (by decide)) (h2 _ (by decide)) (h2 _ (by decide)) (r0 (by decide) (by decide)) (r0 (by decide) (by decide)) (r (by decide) (by decide)), TF_cg a5 f (h1 _ (by decide)) (fun k _ => congrFun (r (by decide) (by decide)) k)⟩
  rw [e1, s1, ← e0]
  by_cases e : k = ((H.1 1826 1)).toNat
  · rw [e, up_eq, up_eq]
  · rw [up_ne _ _ e, up_ne _ _ e]
    exact a1.2 k (by omega)
theorem TA_con {ob ar : List Nat} {m x ty : Int} {H K : hp} {X : rx} (h : TA m H X) (f : fr ob ar H K) (h1 : ∀ c ∈ [1827, 1831, 1832, 1833, 1834, 1835, 1841], c ∉ ar) (h2 : ∀ j ∈ [1, 8, 13, 19], j ∉ ob) (h0 : 0 ≤ (H.1 1826 3)) (e1 : (K.1 1828) = up (H.1 1828) ((H.1 1826 3)).toNat x) (e2 : (K.1 1829) = up (H.1 1829) ((H.1 1826 3)).toNat ty) (e3 : (K.1 1830) = up (H.1 1830) ((H.1 1826 3)).toNat 0) (e4 : (K.1 1826 3) = (H.1 1826 3) + 1) : TA m K (xcon X x ty) := by
  obtain ⟨a1, a2, a3, a4, a5⟩ := h
  obtain ⟨-, s4, s2, s3, s5⟩ := xcon_s X x ty
  have r : ∀ {c : Nat}, c ≠ 0 → c ≠ 2 → c ≠ 3 → c ≠ 4 → xcon X x ty c = X c := fun h0 h1 h2 h3 => xcon_r X x ty h0 h1 h2 h3
  have r0 : ∀ {j : Nat}, j ≠ 0 → j ≠ 4 → xcon X x ty 0 j = X 0 j := fun h0 h1 => xcon_0 X x ty h0 h1
  have e0 := a2.1
  refine ⟨A1_cg a1 f (h1 _ (by decide)) (h2 _ (by decide)) (r0 (by decide) (by decide)) (r (by decide) (by decide) (by decide) (by decide)), ⟨by omega, fun k hk => ?_⟩, A3_cg a3 f (fun c hc => h1 c (by simp only [List.mem_cons, List.not_mem_nil, or_false] at hc ⊢; omega)) (h2 _ (by decide)) (r0 (by decide) (by decide)) (r (by decide) (by decide) (by decide) (by decide)) (r (by decide) (by decide) (by decide) (by decide)) (r (by decide) (by decide) (by decide) (by decide)), A4_cg a4 f (h1 _ (by decide)) (h2 _ (by decide)) (h2 _ (by decide)) (r0 (by decide) (by decide)) (r0 (by decide) (by decide)) (r (by decide) (by decide) (by decide) (by decide)), TF_cg a5 f (h1 _ (by decide)) (fun k _ => congrFun (r (by decide) (by decide) (by decide) (by decide)) k)⟩
  rw [e1, e2, e3, s2, s3, s5, ← e0, f.2.1 1831 (by decide) (h1 _ (by decide)), r (c := 5) (by decide) (by decide) (by decide) (by decide)]
  by_cases e : k = ((H.1 1826 3)).toNat
  · rw [e, up_eq, up_eq, up_eq, up_eq, up_eq, up_eq]
    exact ⟨rfl, rfl, rfl, fun a ha => absurd ha (by omega)⟩
  · rw [up_ne _ _ e, up_ne _ _ e, up_ne _ _ e, up_ne _ _ e, up_ne _ _ e, up_ne _ _ e]
    exact a2.2 k (by omega)
theorem TA_car {ob ar : List Nat} {m t : Int} {H K : hp} {X : rx} {c j : Nat} (h : TA m H X) (f : fr ob ar H K) (h1 : ∀ c ∈ [1827, 1828, 1829, 1832, 1833, 1834, 1835, 1841], c ∉ ar) (h2 : ∀ j ∈ [1, 3, 8, 13, 19], j ∉ ob) (hc : (c : Int) < X 0 4) (hl : ∀ k : Nat, (k : Int) < (H.1 1826 3) → 0 ≤ (H.1 1830) k ∧ (H.1 1830) k ≤ 3) (h3 : (H.1 1830) c ≠ 3) (hj : (j : Int) = 3 * c + (H.1 1830) c) (e1 : (K.1 1831) = up (H.1 1831) j t) (e2 : (K.1 1830) = up (H.1 1830) c ((H.1 1830) c + 1)) : TA m K (xcar X c t) := by
  obtain ⟨a1, a2, a3, a4, a5⟩ := h
  obtain ⟨-, s5, s4⟩ := xcar_s X c t
  have r : ∀ {i : Nat}, i ≠ 0 → i ≠ 5 → i ≠ 4 → xcar X c t i = X i := fun h0 h1 h2 => xcar_r X c t h0 h1 h2
  have r0 : ∀ {i : Nat}, i ≠ 0 → xcar X c t 0 i = X 0 i := fun h0 => xcar_0 X c t h0
  have e0 := a2.1
  have hcc := (a2.2 c hc).2.2.1
  have hcl := hl c (by omega)
  rw [Int.toNat_natCast] at s5 s4
  refine ⟨A1_cg a1 f (h1 _ (by decide)) (h2 _ (by decide)) (r0 (by decide)) (r (by decide) (by decide) (by decide)), ⟨by rw [f.2.2 3 (h2 _ (by decide)), r0 (by decide)]; exact e0, fun k hk => ?_⟩, A3_cg a3 f (fun c hc => h1 c (by simp only [List.mem_cons, List.not_mem_nil, or_false] at hc ⊢; omega)) (h2 _ (by decide)) (r0 (by decide)) (r (by decide) (by decide) (by decide)) (r (by decide) (by decide) (by decide)) (r (by decide) (by decide) (by decide)), A4_cg a4 f (h1 _ (by decide)) (h2 _ (by decide)) (h2 _ (by decide)) (r0 (by decide)) (r0 (by decide)) (r (by decide) (by decide) (by decide)), TF_cg a5 f (h1 _ (by decide)) (fun k _ => congrFun (r (by decide) (by decide) (by decide)) k)⟩
  rw [r0 (by decide)] at hk
  obtain ⟨b1, b2, b3, b4⟩ := a2.2 k hk
  have hkl := hl k (by omega)
  rw [e1, e2, s4, s5, f.2.1 1828 (by decide) (h1 _ (by decide)), f.2.1 1829 (by decide) (h1 _ (by decide)), r (i := 2) (by decide) (by decide) (by decide), r (i := 3) (by decide) (by decide) (by decide), ← hcc]
  by_cases e : k = c
  · subst e
    rw [up_eq, up_eq]
    refine ⟨b1, b2, rfl, fun a ha => ?_⟩
    by_cases ea : (a : Int) = (H.1 1830) k
    · rw [up_e (by omega), up_e (by omega)]
    · rw [up_ne _ _ (by omega), up_ne _ _ (by omega)]
      exact b4 a (by omega)
  · rw [up_ne _ _ e, up_ne _ _ e]
    refine ⟨b1, b2, b3, fun a ha => ?_⟩
    rw [up_ne _ _ (by omega), up_ne _ _ (by omega)]
    exact b4 a ha
theorem TA_fun {ob ar : List Nat} {m x : Int} {H K : hp} {X : rx} {c : Nat} (h : TA m H X) (f : fr ob ar H K) (h1 : ∀ c ∈ [1827, 1828, 1829, 1830, 1831, 1834, 1835, 1841], c ∉ ar) (h2 : ∀ j ∈ [1, 3, 13, 19], j ∉ ob) (h0 : (c : Int) = (H.1 1826 8)) (hm : m ≤ (H.1 1826 8)) (e1 : (K.1 1832) = up (H.1 1832) c x) (e3 : (K.1 1833) = up (H.1 1833) c 0) (e4 : (K.1 1826 8) = (H.1 1826 8) + 1) : TA m K (xfun X x) := by
  obtain ⟨a1, a2, a3, a4, a5⟩ := h
  obtain ⟨-, s5, s6, s7, s8⟩ := xfun_s X x
  have r : ∀ {c : Nat}, c ≠ 0 → c ≠ 6 → c ≠ 7 → c ≠ 8 → xfun X x c = X c := fun h0 h1 h2 h3 => xfun_r X x h0 h1 h2 h3
  have r0 : ∀ {j : Nat}, j ≠ 0 → j ≠ 5 → xfun X x 0 j = X 0 j := fun h0 h1 => xfun_0 X x h0 h1
  have e0 := a3.1
  have ec : (X 0 5).toNat = c := by omega
  rw [ec] at s6 s7 s8
  refine ⟨A1_cg a1 f (h1 _ (by decide)) (h2 _ (by decide)) (r0 (by decide) (by decide)) (r (by decide) (by decide) (by decide) (by decide)), A2_cg a2 f (fun c hc => h1 c (by simp only [List.mem_cons, List.not_mem_nil, or_false] at hc ⊢; omega)) (h2 _ (by decide)) (r0 (by decide) (by decide)) (fun c c1 c2 => r (by omega) (by omega) (by omega) (by omega)), ⟨by omega, fun k hk => ?_⟩, A4_cg a4 f (h1 _ (by decide)) (h2 _ (by decide)) (h2 _ (by decide)) (r0 (by decide) (by decide)) (r0 (by decide) (by decide)) (r (by decide) (by decide) (by decide) (by decide)), TF_cg a5 f (h1 _ (by decide)) (fun k hk => by rw [s7, up_ne _ _ (by omega)])⟩
  rw [e1, e3, s6, s8, f.2.1 1834 (by decide) (h1 _ (by decide)), r (c := 9) (by decide) (by decide) (by decide) (by decide)]
  by_cases e : k = c
  · rw [e, up_eq, up_eq, up_eq, up_eq]
    exact ⟨rfl, rfl, fun a ha => absurd ha (by omega)⟩
  · rw [up_ne _ _ e, up_ne _ _ e, up_ne _ _ e, up_ne _ _ e]
    exact a3.2 k (by omega)
theorem TA_far {ob ar : List Nat} {m t : Int} {H K : hp} {X : rx} {c j : Nat} (h : TA m H X) (f : fr ob ar H K) (h1 : ∀ c ∈ [1827, 1828, 1829, 1830, 1831, 1832, 1835, 1841], c ∉ ar) (h2 : ∀ j ∈ [1, 3, 8, 13, 19], j ∉ ob) (hc : (c : Int) < X 0 5) (hl : ∀ k : Nat, (k : Int) < (H.1 1826 8) → 0 ≤ (H.1 1833) k ∧ (H.1 1833) k ≤ 4) (h3 : (H.1 1833) c ≠ 4) (hj : (j : Int) = 4 * c + (H.1 1833) c) (ht : X 7 c = t) (e1 : (K.1 1834) = up (H.1 1834) j t) (e2 : (K.1 1833) = up (H.1 1833) c ((H.1 1833) c + 1)) : TA m K (xfar X c) := by
  obtain ⟨a1, a2, a3, a4, a5⟩ := h
  obtain ⟨-, s9, s8⟩ := xfar_s X c
  have r : ∀ {i : Nat}, i ≠ 0 → i ≠ 9 → i ≠ 8 → xfar X c i = X i := fun h0 h1 h2 => xfar_r X c h0 h1 h2
  have r0 : ∀ {i : Nat}, i ≠ 0 → xfar X c 0 i = X 0 i := fun h0 => xfar_0 X c h0
  have e0 := a3.1
  have hcc := (a3.2 c hc).2.1
  have hcl := hl c (by omega)
  rw [Int.toNat_natCast] at s8 s9
  refine ⟨A1_cg a1 f (h1 _ (by decide)) (h2 _ (by decide)) (r0 (by decide)) (r (by decide) (by decide) (by decide)), A2_cg a2 f (fun c hc => h1 c (by simp only [List.mem_cons, List.not_mem_nil, or_false] at hc ⊢; omega)) (h2 _ (by decide)) (r0 (by decide)) (fun c c1 c2 => r (by omega) (by omega) (by omega)), ⟨by rw [f.2.2 8 (h2 _ (by decide)), r0 (by decide)]; exact e0, fun k hk => ?_⟩, A4_cg a4 f (h1 _ (by decide)) (h2 _ (by decide)) (h2 _ (by decide)) (r0 (by decide)) (r0 (by decide)) (r (by decide) (by decide) (by decide)), TF_cg a5 f (h1 _ (by decide)) (fun k _ => congrFun (r (by decide) (by decide) (by decide)) k)⟩
  rw [r0 (by decide)] at hk
  obtain ⟨b1, b3, b4⟩ := a3.2 k hk
  have hkl := hl k (by omega)
  rw [e1, e2, s8, s9, f.2.1 1832 (by decide) (h1 _ (by decide)), r (i := 6) (by decide) (by decide) (by decide), ← hcc, ht]
  by_cases e : k = c
  · subst e
    rw [up_eq, up_eq]
    refine ⟨b1, rfl, fun a ha => ?_⟩
    by_cases ea : (a : Int) = (H.1 1833) k
    · rw [up_e (by omega), up_e (by omega)]
    · rw [up_ne _ _ (by omega), up_ne _ _ (by omega)]
      exact b4 a (by omega)
  · rw [up_ne _ _ e, up_ne _ _ e]
    refine ⟨b1, b3, fun a ha => ?_⟩
    rw [up_ne _ _ (by omega), up_ne _ _ (by omega)]
    exact b4 a ha
/-- the machine tells a function's type -/
theorem TA_7 {m t : Int} {H : hp} {X : rx} {c : Nat} (h : TA m H X) (hc : m ≤ c) : TA m H (adv (xu X 7 c t)) := by
  refine TA_sT ?_ (sT_adv _)
  obtain ⟨a1, a2, a3, a4, a5⟩ := h
  have r : ∀ {i : Nat}, i ≠ 7 → xu X 7 c t i = X i := fun h0 => xu_ne X _ _ h0
  have r0 : ∀ {i : Nat}, xu X 7 c t 0 i = X 0 i := congrFun (r (by decide)) _
  refine ⟨A1_cg a1 (fr_rf [] [] _) (by decide) (by decide) r0 (r (by decide)), A2_cg a2 (fr_rf [] [] _) (by decide) (by decide) r0 (fun c c1 c2 => r (by omega)), A3_cg a3 (fr_rf [] [] _) (by decide) (by decide) r0 (r (by decide)) (r (by decide)) (r (by decide)), A4_cg a4 (fr_rf [] [] _) (by decide) (by decide) (by decide) r0 r0 (r (by decide)), TF_cg a5 (fr_rf [] [] _) (by decide) (fun k hk => ?_)⟩
  rw [xu_eq, up_ne _ _ (by omega)]
/-- the reference tells a function's type -/
theorem TA_ft {m t : Int} {H : hp} {X : rx} {c : Nat} (h : TA m H X) (hc : m ≤ c) : TA m (zu H 1835 (up (H.1 1835) c t)) X := by
  have f : fr [] [1835] H (zu H 1835 (up (H.1 1835) c t)) := fr_a (fr_rf _ _ _) (by decide)
  obtain ⟨a1, a2, a3, a4, a5⟩ := h
  refine ⟨A1_cg a1 f (by decide) (by decide) rfl rfl, A2_cg a2 f (by decide) (by decide) rfl (fun _ _ _ => rfl), A3_cg a3 f (by decide) (by decide) rfl rfl rfl rfl, A4_cg a4 f (by decide) (by decide) (by decide) rfl rfl rfl, fun k hk => ?_⟩
  show up (H.1 1835) c t k = X 7 k
  rw [up_ne _ _ (by omega)]
  exact a5 k hk
theorem TA_ft1 {m t : Int} {H : hp} {X : rx} {c : Nat} (h : TA m H X) (hc : m = c) (ht : X 7 c = t) : TA (m + 1) (zu H 1835 (up (H.1 1835) c t)) X := by
  obtain ⟨a1, a2, a3, a4, a5⟩ := TA_ft (t := t) h (by omega : m ≤ c)
  refine ⟨a1, a2, a3, a4, fun k hk => ?_⟩
  by_cases e : k = c
  · subst e
    exact (up_eq _ _ _).trans ht.symm
  · exact a5 k (by omega)
theorem BD_ft {Y : yx} {m t : Int} {c0 : cf} {H : hp} {c : Nat} (h : BD Y m c0 H) (hc : m ≤ c) : BD Y m c0 (zu H 1835 (up (H.1 1835) c t)) := by
  obtain ⟨a, b, K9, X9, q, e⟩ := h
  exact ⟨a, b, K9, X9, q, TA_ft e hc⟩
theorem RK_ft {Y : yx} {m t : Int} {H : hp} {X : rx} {c : Nat} (h : RK Y m H X) (hc : m = c) (ht : X 7 c = t) : RK Y (m + 1) (zu H 1835 (up (H.1 1835) c t)) X := by
  have f : fr [] [1835] H (zu H 1835 (up (H.1 1835) c t)) := fr_a (fr_rf _ _ _) (by decide)
  exact ⟨h.1, YB_fr h.2.1 f (by decide) (by decide), h.2.2.1, h.2.2.2.1, TA_ft1 h.2.2.2.2 hc ht⟩
def CL (Y : yx) (m : Int) (c0 : cf) (K : List tq) (c : Nat) (H : hp) : Prop := GB Y m c0 H (∃ X : rx, rch Y c0 ((8, (c : Int), X 4 c, 0) :: K, X) ∧ RK Y m H X)
theorem con_q {Y : yx} {c0 : cf} {K : List tq} {X : rx} {x ty : Int} {c : Nat} (hc : (c : Int) = X 0 4) (h : rch Y c0 ((8, X 0 4, 0, 0) :: K, xcon X x ty)) : rch Y c0 ((8, (c : Int), xcon X x ty 4 c, 0) :: K, xcon X x ty) := by
  rw [(xcon_s X x ty).2.2.2.2, up_e (by omega), hc]
  exact h
theorem car_q {Y : yx} {c0 : cf} {K : List tq} {X : rx} {t : Int} {c : Nat} (h : rch Y c0 ((8, (c : Int), X 4 c + 1, 0) :: K, xcar X c t)) : rch Y c0 ((8, (c : Int), xcar X c t 4 c, 0) :: K, xcar X c t) := by
  rw [(xcar_s X c t).2.2, Int.toNat_natCast, up_eq]
  exact h

/-! constructor -/
set_option maxRecDepth 100000 in
theorem n_constructor_cut {zC : Nat → Option zsh} {d : Nat} (hd : 5 ≤ d) {H : hp}  {Y : yx} {m : Int} {c0 : cf} {K : List tq} {X : rx} (h0 : 0 ≤ (H.1 1826 30) ∧ (H.1 1826 30) ≤ (H.1 1826 29) ∧ (H.1 1826 29) ≤ 1000) (hw : 0 ≤ (H.1 1826 35) ∧ (H.1 1826 35) ≤ 5) (hst : 0 ≤ (H.1 1826 32) ∧ (H.1 1826 32) ≤ 1000) (hP : PWc H) (ht : 1 ≤ (H.1 1826 1)) (hw0 : (H.1 1826 35) = 0) (hR : RK Y m H X) (hq : rch Y c0 ((7, (H.1 1826 1) - 1, 0, 0) :: K, X)) (hK : lkK K) : ∀ w : Nat, (∀ (H1 : hp) (c : Nat), (fr [30, 31, 32, 33, 35, 36, 3] [1828, 1829, 1830, 1831] H H1) → ((H.1 1826 30) ≤ (H1.1 1826 30) ∧ (H1.1 1826 30) ≤ (H.1 1826 29)) → (0 ≤ (H1.1 1826 35) ∧ (H1.1 1826 35) ≤ 5) → (0 ≤ (H1.1 1826 32) ∧ (H1.1 1826 32) ≤ 1000) → (agp H H1) → ((c : Int) = (H.1 1826 3) ∧ (H.1 1826 3) ≤ 15) → ((H1.1 1826 3) = (H.1 1826 3) + 1) → ((H.1 1826 31) = 2) → ((H1.1 1826 35) = 0 → m_con (H1.1 1826 1) (H1.1 1826 3) (H1.1 1829) (H1.1 1830) (H1.1 1831)) → (CL Y m c0 K c H1) → mu (H1.1 1826 35) (H1.1 1826 31) (H1.1 1826 30) (H.1 1826 29) < w → hG (zs zC) d mt_171 128 [(0, .inr (.inr 1826)), (1, .inl (c : Int))] [] H1 (fun r H2 => r = none ∧ GB Y m c0 H2 (∃ X2 : rx, rch Y c0 (K, X2) ∧ RK Y m H2 X2) ∧ fr [30, 31, 32, 33, 35, 36, 3] [1828, 1829, 1830, 1831] H H2 ∧ ((H.1 1826 30) ≤ (H2.1 1826 30) ∧ (H2.1 1826 30) ≤ (H.1 1826 29)) ∧ (0 ≤ (H2.1 1826 35) ∧ (H2.1 1826 35) ≤ 5) ∧ ((H.1 1826 35) ≠ 0 → (H2.1 1826 35) ≠ 0) ∧ (0 ≤ (H2.1 1826 32) ∧ (H2.1 1826 32) ≤ 1000) ∧ agp H H2 ∧ ((H2.1 1826 35) = 0 → (H.1 1826 31) = 2 ∧ PWc H2))) := by
  intro w
  induction w with
  | zero => exact fun _ _ _ _ _ _ _ _ _ _ _ _ h => absurd h (Nat.not_lt_zero _)
  | succ w ih =>
    intro H1 c hf ha hk hst1 hag hc hcn htk hm hCL hw
    refine h_rng (fun hrg1 => ?_)
    obtain ⟨⟨pb1, pb2, pb3, pb4, pb5⟩, pw1, pw2, pw3, pw4⟩ := (id hP : PW H (H.1 1826 1) (H.1 1826 3) (H.1 1826 8) (H.1 1826 13) (H.1 1826 19))
    refine h_run 1 (pc' := 129) (l' := [(0, .inr (.inr 1826)), (1, .inl (c : Int))]) (st' := [.inr (.inr 1826)]) rfl ?_
    have g2 : -2147483648 ≤ (H1.1 1826 35) ∧ (H1.1 1826 35) ≤ 2147483647 := hrg1.1 1826 13 35 _ .int rfl rfl
    refine h_cv (i := 293) (j := 158) (b := 1826) (M' := mt_158) (xs := []) (rest := []) rfl rfl rfl rfl rfl rfl (Nat.le_of_ble_eq_true rfl) (Nat.le_of_ble_eq_true rfl) (by omega) (m_good (by omega)) ?_
    rintro _ _ ⟨⟨rfl, b3⟩ | ⟨rfl, b3⟩, rfl⟩
    · have b3x : (H1.1 1826 35) = 0 := b3
      refine h_run 0 (pc' := 132) (l' := [(0, .inr (.inr 1826)), (1, .inl (c : Int))]) (st' := [.inl 1]) rfl ?_
      refine h_zeq (off := 78) (t := 210) rfl rfl (by decide) (fun c => absurd c (by decide)) (fun _ => ?_)
      refine h_run 2 (pc' := 139) (l' := [(0, .inr (.inr 1826)), (1, .inl (c : Int))]) (st' := [.inl (H1.1 1826 31)]) rfl ?_
      have g4 : -2147483648 ≤ (H1.1 1826 31) ∧ (H1.1 1826 31) ≤ 2147483647 := hrg1.1 1826 13 31 _ .int rfl rfl
      refine h_run 1 (pc' := 140) (l' := [(0, .inr (.inr 1826)), (1, .inl (c : Int))]) (st' := [.inl 2, .inl (H1.1 1826 31)]) rfl ?_
      refine h_ine (off := 70) (t := 210) rfl rfl (by omega) (by decide) (fun c5 => ?_) (fun c5 => ?_)
      · refine h_ret rfl rfl ?_
        have g6 : -2147483648 ≤ (H1.1 1826 30) ∧ (H1.1 1826 30) ≤ 2147483647 := hrg1.1 1826 13 30 _ .int rfl rfl
        have g7 : -2147483648 ≤ (H1.1 1826 32) ∧ (H1.1 1826 32) ≤ 2147483647 := hrg1.1 1826 13 32 _ .int rfl rfl
        have g8 : -2147483648 ≤ (H1.1 1826 29) ∧ (H1.1 1826 29) ≤ 2147483647 := hrg1.1 1826 13 29 _ .int rfl rfl
        have e9 : (H1.1 1826 29) = (H.1 1826 29) := hf.2.2 29 (by decide)
        have g10 : -2147483648 ≤ (H1.1 1826 1) ∧ (H1.1 1826 1) ≤ 2147483647 := hrg1.1 1826 13 1 _ .int rfl rfl
        have e11 : (H1.1 1826 1) = (H.1 1826 1) := hf.2.2 1 (by decide)
        have g12 : -2147483648 ≤ (H1.1 1826 3) ∧ (H1.1 1826 3) ≤ 2147483647 := hrg1.1 1826 13 3 _ .int rfl rfl
        have g13 : -2147483648 ≤ (H1.1 1826 8) ∧ (H1.1 1826 8) ≤ 2147483647 := hrg1.1 1826 13 8 _ .int rfl rfl
        have e14 : (H1.1 1826 8) = (H.1 1826 8) := hf.2.2 8 (by decide)
        have g15 : -2147483648 ≤ (H1.1 1826 13) ∧ (H1.1 1826 13) ≤ 2147483647 := hrg1.1 1826 13 13 _ .int rfl rfl
        have e16 : (H1.1 1826 13) = (H.1 1826 13) := hf.2.2 13 (by decide)
        have g17 : -2147483648 ≤ (H1.1 1826 19) ∧ (H1.1 1826 19) ≤ 2147483647 := hrg1.1 1826 13 19 _ .int rfl rfl
        have e18 : (H1.1 1826 19) = (H.1 1826 19) := hf.2.2 19 (by decide)
        exact ⟨rfl, (GB_i hCL (fun q => q.elim (fun X1 g => ⟨X1, rch_st g.1 (by have htk1 := RK_t g.2; show (if tk Y (xi X1) = 3 then (if tfd Y X1 < 0 then fl Y X1 3 else if X1 4 c = 3 then fl Y X1 5 else ((8, (c : Int), X1 4 c + 1, 0) :: K, xcar X1 c (tfd Y X1))) else (K, X1)) = _; (repeat (first | rw [if_pos (by omega)] | rw [if_neg (by omega)])); try (first | rfl | (exfalso; omega))), g.2⟩))), hf, (by omega : (H.1 1826 30) ≤ (H1.1 1826 30) ∧ (H1.1 1826 30) ≤ (H.1 1826 29)), (by omega : 0 ≤ (H1.1 1826 35) ∧ (H1.1 1826 35) ≤ 5), (by omega : (H.1 1826 35) ≠ 0 → (H1.1 1826 35) ≠ 0), (by omega : 0 ≤ (H1.1 1826 32) ∧ (H1.1 1826 32) ≤ 1000), hag, (fun q => ⟨htk, PW_more hP hag ⟨(by omega : (H1.1 1826 1) ≤ 6), (by omega : (H1.1 1826 3) ≤ 16), (by omega : (H1.1 1826 8) ≤ 16)⟩ (hm q) (m_fun_agp pw2 hag (by omega)) (by omega : (H1.1 1826 13) = (H.1 1826 13)) (by omega : (H1.1 1826 19) = (H.1 1826 19))⟩)⟩
      · obtain ⟨X1, hq1, hR1⟩ := GB_g hCL (by omega)
        have htk1 := RK_t hR1
        have hc41 := hR1.2.2.2.2.2.1.1
        have htf1 := fnd_b (X1 1) (X1 0 3) (tn Y (xi X1))
        have g19 : -2147483648 ≤ (H1.1 1826 3) ∧ (H1.1 1826 3) ≤ 2147483647 := hrg1.1 1826 13 3 _ .int rfl rfl
        have hca : (H1.1 1830) c = X1 4 c := (hR1.2.2.2.2.2.1.2 c (by omega)).2.2.1
        refine h_run 1 (pc' := 144) (l' := [(0, .inr (.inr 1826)), (1, .inl (c : Int))]) (st' := [.inr (.inr 1826)]) rfl ?_
        have g20 : -2147483648 ≤ (H1.1 1826 1) ∧ (H1.1 1826 1) ≤ 2147483647 := hrg1.1 1826 13 1 _ .int rfl rfl
        have e21 : (H1.1 1826 1) = (H.1 1826 1) := hf.2.2 1 (by decide)
        refine h_cv (i := 322) (j := 172) (b := 1826) (M' := mt_172) (xs := []) (rest := []) rfl rfl rfl rfl rfl rfl (Nat.le_of_ble_eq_true rfl) (Nat.le_of_ble_eq_true rfl) (by omega) (n_type (by omega) (by omega : (H1.1 1826 35) = 0) (by omega : 0 ≤ (H1.1 1826 1) ∧ (H1.1 1826 1) ≤ 6) (z := tfd Y X1) (fun q9 => RK_tf hR1 (Or.inr q9))) ?_
        rintro _ _ (⟨ht22k, rfl, ht22a, ht22b, ht22c, rfl⟩ | ⟨rfl, ht22a, rfl⟩ | ⟨rfl, ht22a, ht22c, rfl⟩)
        · replace ht22a : (H1.1 1826 31) = 2 := ht22a
          replace ht22b : (ht22k : Int) < (H1.1 1826 1) := ht22b
          refine h_run 0 (pc' := 147) (l' := [(0, .inr (.inr 1826)), (1, .inl (c : Int))]) (st' := [.inl (ht22k : Int)]) rfl ?_
          refine h_run 2 (pc' := 149) (l' := [(0, .inr (.inr 1826)), (1, .inl (c : Int)), (2, .inl (ht22k : Int))]) (st' := [.inr (.inr 1826)]) rfl ?_
          refine h_cv (i := 293) (j := 158) (b := 1826) (M' := mt_158) (xs := []) (rest := []) rfl rfl rfl rfl rfl rfl (Nat.le_of_ble_eq_true rfl) (Nat.le_of_ble_eq_true rfl) (by omega) (m_good1 (by omega) (by omega : (H1.1 1826 35) = 0)) ?_
          rintro _ _ ⟨rfl, rfl⟩
          refine h_run 0 (pc' := 152) (l' := [(0, .inr (.inr 1826)), (1, .inl (c : Int)), (2, .inl (ht22k : Int))]) (st' := [.inl 1]) rfl ?_
          refine h_zeq (off := 18) (t := 170) rfl rfl (by decide) (fun c => absurd c (by decide)) (fun _ => ?_)
          obtain ⟨hc1, hc2, hc3⟩ := (hm (by omega)) c (by omega)
          refine h_run 3 (pc' := 160) (l' := [(0, .inr (.inr 1826)), (1, .inl (c : Int)), (2, .inl (ht22k : Int))]) (st' := [.inl (c : Int), .inr (.inr 1830)]) rfl ?_
          refine h_ild (c := 1830) (j := c) (i := (c : Int)) rfl rfl (by decide) rfl (by omega) ?_
          have g23 : -2147483648 ≤ (H1.1 1830 c) ∧ (H1.1 1830 c) ≤ 2147483647 := hrg1.2 1830 c 16 .int rfl (by omega)
          refine h_run 0 (pc' := 161) (l' := [(0, .inr (.inr 1826)), (1, .inl (c : Int)), (2, .inl (ht22k : Int))]) (st' := [.inl (H1.1 1830 c)]) rfl ?_
          refine h_run 1 (pc' := 162) (l' := [(0, .inr (.inr 1826)), (1, .inl (c : Int)), (2, .inl (ht22k : Int))]) (st' := [.inl 3, .inl (H1.1 1830 c)]) rfl ?_
          refine h_ine (off := 8) (t := 170) rfl rfl (by omega) (by decide) (fun c24 => ?_) (fun c24 => ?_)
          · refine h_run 1 (pc' := 171) (l' := [(0, .inr (.inr 1826)), (1, .inl (c : Int)), (2, .inl (ht22k : Int))]) (st' := [.inr (.inr 1826)]) rfl ?_
            refine h_cv (i := 293) (j := 158) (b := 1826) (M' := mt_158) (xs := []) (rest := []) rfl rfl rfl rfl rfl rfl (Nat.le_of_ble_eq_true rfl) (Nat.le_of_ble_eq_true rfl) (by omega) (m_good1 (by omega) (by omega : (H1.1 1826 35) = 0)) ?_
            rintro _ _ ⟨rfl, rfl⟩
            refine h_run 0 (pc' := 174) (l' := [(0, .inr (.inr 1826)), (1, .inl (c : Int)), (2, .inl (ht22k : Int))]) (st' := [.inl 1]) rfl ?_
            refine h_zeq (off := 33) (t := 207) rfl rfl (by decide) (fun c => absurd c (by decide)) (fun _ => ?_)
            refine h_run 8 (pc' := 189) (l' := [(0, .inr (.inr 1826)), (1, .inl (c : Int)), (2, .inl (ht22k : Int))]) (st' := [.inl (c : Int), .inr (.inr 1830), .inl (3 * (c : Int)), .inr (.inr 1831)]) rfl ?_
            refine h_ild (c := 1830) (j := c) (i := (c : Int)) rfl rfl (by decide) rfl (by omega) ?_
            refine h_run 0 (pc' := 190) (l' := [(0, .inr (.inr 1826)), (1, .inl (c : Int)), (2, .inl (ht22k : Int))]) (st' := [.inl (H1.1 1830 c), .inl (3 * (c : Int)), .inr (.inr 1831)]) rfl ?_
            refine h_run 2 (pc' := 192) (l' := [(0, .inr (.inr 1826)), (1, .inl (c : Int)), (2, .inl (ht22k : Int))]) (st' := [.inl (ht22k : Int), .inl ((3 * (c : Int)) + (H1.1 1830 c)), .inr (.inr 1831)]) rfl ?_
            refine h_ist (c := 1831) (j := (((3 * (c : Int)) + (H1.1 1830 c))).toNat) (i := ((3 * (c : Int)) + (H1.1 1830 c))) (x := (ht22k : Int)) rfl rfl (by decide) (by decide) (by omega) (by omega) (by omega) ?_
            refine h_run 4 (pc' := 199) (l' := [(0, .inr (.inr 1826)), (1, .inl (c : Int)), (2, .inl (ht22k : Int))]) (st' := [.inl (c : Int), .inr (.inr 1830), .inl (c : Int), .inr (.inr 1830)]) rfl ?_
            refine h_ild (c := 1830) (j := c) (i := (c : Int)) rfl rfl (by decide) rfl (by omega) ?_
            refine h_run 0 (pc' := 200) (l' := [(0, .inr (.inr 1826)), (1, .inl (c : Int)), (2, .inl (ht22k : Int))]) (st' := [.inl (H1.1 1830 c), .inl (c : Int), .inr (.inr 1830)]) rfl ?_
            refine h_run 2 (pc' := 202) (l' := [(0, .inr (.inr 1826)), (1, .inl (c : Int)), (2, .inl (ht22k : Int))]) (st' := [.inl ((H1.1 1830 c) + 1), .inl (c : Int), .inr (.inr 1830)]) rfl ?_
            refine h_ist (c := 1830) (j := c) (i := (c : Int)) (x := ((H1.1 1830 c) + 1)) rfl rfl (by decide) (by decide) rfl (by omega) (by omega) ?_
            have hq2 : rch Y c0 ((8, (c : Int), X1 4 c + 1, 0) :: K, xcar X1 c (tfd Y X1)) := (rch_st hq1 (by show (if tk Y (xi X1) = 3 then (if tfd Y X1 < 0 then fl Y X1 3 else if X1 4 c = 3 then fl Y X1 5 else ((8, (c : Int), X1 4 c + 1, 0) :: K, xcar X1 c (tfd Y X1))) else (K, X1)) = _; (try unfold miss); (repeat (first | rw [if_pos (by omega)] | rw [if_neg (by omega)])); try (first | rfl | (exfalso; omega))))
            refine h_run 1 (pc' := 204) (l' := [(0, .inr (.inr 1826)), (1, .inl (c : Int)), (2, .inl (ht22k : Int))]) (st' := [.inr (.inr 1826)]) rfl ?_
            have g25 : -2147483648 ≤ (H1.1 1826 30) ∧ (H1.1 1826 30) ≤ 2147483647 := hrg1.1 1826 13 30 _ .int rfl rfl
            have g26 : -2147483648 ≤ (H1.1 1826 29) ∧ (H1.1 1826 29) ≤ 2147483647 := hrg1.1 1826 13 29 _ .int rfl rfl
            have e27 : (H1.1 1826 29) = (H.1 1826 29) := hf.2.2 29 (by decide)
            have g28 : -2147483648 ≤ (H1.1 1826 32) ∧ (H1.1 1826 32) ≤ 2147483647 := hrg1.1 1826 13 32 _ .int rfl rfl
            refine h_cv (i := 297) (j := 165) (b := 1826) (M' := mt_165) (xs := []) (rest := []) rfl rfl rfl rfl rfl rfl (Nat.le_of_ble_eq_true rfl) (Nat.le_of_ble_eq_true rfl) (by omega) (n_nx (by omega) (by omega : 0 ≤ (H1.1 1826 30) ∧ (H1.1 1826 30) ≤ (H1.1 1826 29) ∧ (H1.1 1826 29) ≤ 1000) (by omega : 0 ≤ (H1.1 1826 35) ∧ (H1.1 1826 35) ≤ 5) (by omega : 0 ≤ (H1.1 1826 32) ∧ (H1.1 1826 32) ≤ 1000) (by omega : (H1.1 1826 35) = 0) (X := (xcar X1 c (tfd Y X1))) (RN_mk hR1 (fr_a (fr_a (fr_rf [] [1830, 1831] H1) (by decide)) (by decide)) (by decide) (by decide) (xcar_s _ _ _).1 (TA_car (c := c) (j := (((3 * (c : Int)) + (H1.1 1830 c))).toNat) hR1.2.2.2.2 (fr_a (fr_a (fr_rf [] [1830, 1831] H1) (by decide)) (by decide)) (by decide) (by decide) (by omega) (fun k hk => (hm (by omega) k (by omega)).1) (by omega) (by omega) (show up _ _ ((ht22k : Int)) = _ by rw [show (ht22k : Int) = tfd Y X1 by omega]) rfl)) hq2 (lk_c hK (by decide : (8 : Nat) ≠ 0) (fun q => absurd q (by decide : (8 : Nat) ≠ 1)))) ?_
            rintro _ H29 ⟨rfl, hx29n, hx29f, hx29a, hx29b, hx29c, -, hx29e, hx29g⟩
            refine h_rng (fun hrg30 => ?_)
            have hf31 : fr [30, 31, 32, 33, 35, 36, 3] [1828, 1829, 1830, 1831] H H29 := fr_t (fr_a (fr_a hf (by decide)) (by decide)) hx29f (by decide) (by decide)
            have ha32 : agp H H29 := agp_tr (agp_1830 (agp_1831 hag (by omega : 3 * (H.1 1826 3) ≤ (((((3 * (c : Int)) + (H1.1 1830 c))).toNat : Nat) : Int))) (by omega : (H.1 1826 3) ≤ ((c : Nat) : Int))) (agp_fr hx29f (by decide) (by decide))
            replace hx29a : (H1.1 1826 30) ≤ (H29.1 1826 30) := hx29a
            replace hx29b : (H29.1 1826 30) ≤ (H1.1 1826 29) := hx29b
            replace hx29g : (H29.1 1826 35) = 0 → ((H29.1 1826 31) = 0 ∨ (H1.1 1826 30) < (H29.1 1826 30)) := hx29g
            refine h_run 0 (pc' := 207) (l' := [(0, .inr (.inr 1826)), (1, .inl (c : Int)), (2, .inl (ht22k : Int))]) (st' := []) rfl ?_
            refine h_run 1 (pc' := 128) (l' := [(0, .inr (.inr 1826)), (1, .inl (c : Int)), (2, .inl (ht22k : Int))]) (st' := []) rfl ?_
            have g33 : -2147483648 ≤ (H29.1 1826 30) ∧ (H29.1 1826 30) ≤ 2147483647 := hrg30.1 1826 13 30 _ .int rfl rfl
            have g34 : -2147483648 ≤ (H29.1 1826 35) ∧ (H29.1 1826 35) ≤ 2147483647 := hrg30.1 1826 13 35 _ .int rfl rfl
            have g35 : -2147483648 ≤ (H29.1 1826 32) ∧ (H29.1 1826 32) ≤ 2147483647 := hrg30.1 1826 13 32 _ .int rfl rfl
            have g36 : -2147483648 ≤ (H29.1 1826 31) ∧ (H29.1 1826 31) ≤ 2147483647 := hrg30.1 1826 13 31 _ .int rfl rfl
            have g37 : -2147483648 ≤ (H29.1 1826 3) ∧ (H29.1 1826 3) ≤ 2147483647 := hrg30.1 1826 13 3 _ .int rfl rfl
            have e38 : (H29.1 1826 3) = (H1.1 1826 3) := hx29f.2.2 3 (by decide)
            have g39 : -2147483648 ≤ (H29.1 1826 29) ∧ (H29.1 1826 29) ≤ 2147483647 := hrg30.1 1826 13 29 _ .int rfl rfl
            have e40 : (H29.1 1826 29) = (H1.1 1826 29) := hx29f.2.2 29 (by decide)
            have g41 : -2147483648 ≤ (H29.1 1826 1) ∧ (H29.1 1826 1) ≤ 2147483647 := hrg30.1 1826 13 1 _ .int rfl rfl
            have e42 : (H29.1 1826 1) = (H1.1 1826 1) := hx29f.2.2 1 (by decide)
            refine h_loc [0, 1] rfl ?_
            exact ih _ c hf31 (by omega : (H.1 1826 30) ≤ (H29.1 1826 30) ∧ (H29.1 1826 30) ≤ (H.1 1826 29)) (by omega : 0 ≤ (H29.1 1826 35) ∧ (H29.1 1826 35) ≤ 5) (by omega : 0 ≤ (H29.1 1826 32) ∧ (H29.1 1826 32) ≤ 1000) ha32 (by omega : (c : Int) = (H.1 1826 3) ∧ (H.1 1826 3) ≤ 15) (by omega : (H29.1 1826 3) = (H.1 1826 3) + 1) (by omega) (fun q => by rw [show (H29.1 1829) = (H1.1 1829) from hx29f.2.1 1829 (by decide) (by decide), show (H29.1 1830) = up (H1.1 1830) c ((H1.1 1830) c + 1) from hx29f.2.1 1830 (by decide) (by decide), show (H29.1 1831) = up (H1.1 1831) (((3 * (c : Int)) + (H1.1 1830 c))).toNat (ht22k : Int) from hx29f.2.1 1831 (by decide) (by decide), show (H29.1 1826 1) = (H1.1 1826 1) from (by omega), show (H29.1 1826 3) = (H1.1 1826 3) from (by omega)]; exact m_con_arg (hm (by omega)) (by omega) rfl (by omega) (by omega) (by omega)) (GB_i hx29n (fun q => ⟨_, car_q hq2, q⟩)) (mu_lt hw (by omega) (by omega : (H29.1 1826 35) ≠ 0 ∨ ((H1.1 1826 30) ≤ (H29.1 1826 30) ∧ (H29.1 1826 30) ≤ (H.1 1826 29) ∧ (((H29.1 1826 31) = 0 ∧ (H1.1 1826 31) ≠ 0) ∨ (H1.1 1826 30) < (H29.1 1826 30)))))
          · refine h_run 2 (pc' := 167) (l' := [(0, .inr (.inr 1826)), (1, .inl (c : Int)), (2, .inl (ht22k : Int))]) (st' := [.inl 5, .inr (.inr 1826)]) rfl ?_
            refine h_cv (i := 278) (j := 159) (b := 1826) (M' := mt_159) (xs := [.inl 5]) (rest := []) rfl rfl rfl rfl rfl rfl (Nat.le_of_ble_eq_true rfl) (Nat.le_of_ble_eq_true rfl) (by omega) (m_bad0 (by omega) (by omega) (by omega : (H1.1 1826 35) = 0)) ?_
            rintro _ _ ⟨rfl, rfl⟩
            refine h_run 0 (pc' := 170) (l' := [(0, .inr (.inr 1826)), (1, .inl (c : Int)), (2, .inl (ht22k : Int))]) (st' := []) rfl ?_
            refine h_run 1 (pc' := 171) (l' := [(0, .inr (.inr 1826)), (1, .inl (c : Int)), (2, .inl (ht22k : Int))]) (st' := [.inr (.inr 1826)]) rfl ?_
            refine h_cv (i := 293) (j := 158) (b := 1826) (M' := mt_158) (xs := []) (rest := []) rfl rfl rfl rfl rfl rfl (Nat.le_of_ble_eq_true rfl) (Nat.le_of_ble_eq_true rfl) (by omega) (m_good0 (by omega) (by omega : (5 : Int) ≠ 0)) ?_
            rintro _ _ ⟨rfl, rfl⟩
            refine h_run 0 (pc' := 174) (l' := [(0, .inr (.inr 1826)), (1, .inl (c : Int)), (2, .inl (ht22k : Int))]) (st' := [.inl 0]) rfl ?_
            refine h_zeq (off := 33) (t := 207) rfl rfl (by decide) (fun _ => ?_) (fun c => absurd c (by decide))
            refine h_run 1 (pc' := 128) (l' := [(0, .inr (.inr 1826)), (1, .inl (c : Int)), (2, .inl (ht22k : Int))]) (st' := []) rfl ?_
            have g43 : -2147483648 ≤ (H1.1 1826 30) ∧ (H1.1 1826 30) ≤ 2147483647 := hrg1.1 1826 13 30 _ .int rfl rfl
            have g44 : -2147483648 ≤ (H1.1 1826 32) ∧ (H1.1 1826 32) ≤ 2147483647 := hrg1.1 1826 13 32 _ .int rfl rfl
            have g45 : -2147483648 ≤ (H1.1 1826 29) ∧ (H1.1 1826 29) ≤ 2147483647 := hrg1.1 1826 13 29 _ .int rfl rfl
            have e46 : (H1.1 1826 29) = (H.1 1826 29) := hf.2.2 29 (by decide)
            refine h_loc [0, 1] rfl ?_
            exact ih _ c (fr_o (fr_o hf (by decide)) (by decide)) (by omega : (H.1 1826 30) ≤ (H1.1 1826 30) ∧ (H1.1 1826 30) ≤ (H.1 1826 29)) (by omega : 0 ≤ (5 : Int) ∧ (5 : Int) ≤ 5) (by omega : 0 ≤ (H1.1 1826 32) ∧ (H1.1 1826 32) ≤ 1000) (agp_o (agp_o hag (by decide)) (by decide)) (by omega : (c : Int) = (H.1 1826 3) ∧ (H.1 1826 3) ≤ 15) (by omega : (H1.1 1826 3) = (H.1 1826 3) + 1) (by omega) (fun (q : (5 : Int) = 0) => absurd q (by omega)) (Or.inr ⟨(by omega : (5 : Int) ≠ 0), (BD_mk hR1 (fr_o (fr_o (fr_rf [35, 36] [] H1) (by decide)) (by decide)) (by decide) (by decide) (by decide : (5 : Int) ≠ 0) rfl rfl (rch_st hq1 (by show (if tk Y (xi X1) = 3 then (if tfd Y X1 < 0 then fl Y X1 3 else if X1 4 c = 3 then fl Y X1 5 else ((8, (c : Int), X1 4 c + 1, 0) :: K, xcar X1 c (tfd Y X1))) else (K, X1)) = _; (try unfold miss); (repeat (first | rw [if_pos (by omega)] | rw [if_neg (by omega)])); try (first | rfl | (exfalso; omega)))))⟩) (mu_lt hw (by omega) (by omega : (5 : Int) ≠ 0 ∨ ((H1.1 1826 30) ≤ (H1.1 1826 30) ∧ (H1.1 1826 30) ≤ (H.1 1826 29) ∧ (((H1.1 1826 31) = 0 ∧ (H1.1 1826 31) ≠ 0) ∨ (H1.1 1826 30) < (H1.1 1826 30)))))
        · replace ht22a : (H1.1 1826 31) ≠ 2 := ht22a
          exfalso
          omega
        · replace ht22a : (H1.1 1826 31) = 2 := ht22a
          refine h_run 0 (pc' := 147) (l' := [(0, .inr (.inr 1826)), (1, .inl (c : Int))]) (st' := [.inl (-1)]) rfl ?_
          refine h_run 2 (pc' := 149) (l' := [(0, .inr (.inr 1826)), (1, .inl (c : Int)), (2, .inl (-1))]) (st' := [.inr (.inr 1826)]) rfl ?_
          refine h_cv (i := 293) (j := 158) (b := 1826) (M' := mt_158) (xs := []) (rest := []) rfl rfl rfl rfl rfl rfl (Nat.le_of_ble_eq_true rfl) (Nat.le_of_ble_eq_true rfl) (by omega) (m_good0 (by omega) (by omega : (3 : Int) ≠ 0)) ?_
          rintro _ _ ⟨rfl, rfl⟩
          refine h_run 0 (pc' := 152) (l' := [(0, .inr (.inr 1826)), (1, .inl (c : Int)), (2, .inl (-1))]) (st' := [.inl 0]) rfl ?_
          refine h_zeq (off := 18) (t := 170) rfl rfl (by decide) (fun _ => ?_) (fun c => absurd c (by decide))
          refine h_run 1 (pc' := 171) (l' := [(0, .inr (.inr 1826)), (1, .inl (c : Int)), (2, .inl (-1))]) (st' := [.inr (.inr 1826)]) rfl ?_
          refine h_cv (i := 293) (j := 158) (b := 1826) (M' := mt_158) (xs := []) (rest := []) rfl rfl rfl rfl rfl rfl (Nat.le_of_ble_eq_true rfl) (Nat.le_of_ble_eq_true rfl) (by omega) (m_good0 (by omega) (by omega : (3 : Int) ≠ 0)) ?_
          rintro _ _ ⟨rfl, rfl⟩
          refine h_run 0 (pc' := 174) (l' := [(0, .inr (.inr 1826)), (1, .inl (c : Int)), (2, .inl (-1))]) (st' := [.inl 0]) rfl ?_
          refine h_zeq (off := 33) (t := 207) rfl rfl (by decide) (fun _ => ?_) (fun c => absurd c (by decide))
          refine h_run 1 (pc' := 128) (l' := [(0, .inr (.inr 1826)), (1, .inl (c : Int)), (2, .inl (-1))]) (st' := []) rfl ?_
          have g47 : -2147483648 ≤ (H1.1 1826 30) ∧ (H1.1 1826 30) ≤ 2147483647 := hrg1.1 1826 13 30 _ .int rfl rfl
          have g48 : -2147483648 ≤ (H1.1 1826 32) ∧ (H1.1 1826 32) ≤ 2147483647 := hrg1.1 1826 13 32 _ .int rfl rfl
          have g49 : -2147483648 ≤ (H1.1 1826 29) ∧ (H1.1 1826 29) ≤ 2147483647 := hrg1.1 1826 13 29 _ .int rfl rfl
          have e50 : (H1.1 1826 29) = (H.1 1826 29) := hf.2.2 29 (by decide)
          refine h_loc [0, 1] rfl ?_
          exact ih _ c (fr_o (fr_o hf (by decide)) (by decide)) (by omega : (H.1 1826 30) ≤ (H1.1 1826 30) ∧ (H1.1 1826 30) ≤ (H.1 1826 29)) (by omega : 0 ≤ (3 : Int) ∧ (3 : Int) ≤ 5) (by omega : 0 ≤ (H1.1 1826 32) ∧ (H1.1 1826 32) ≤ 1000) (agp_o (agp_o hag (by decide)) (by decide)) (by omega : (c : Int) = (H.1 1826 3) ∧ (H.1 1826 3) ≤ 15) (by omega : (H1.1 1826 3) = (H.1 1826 3) + 1) (by omega) (fun (q : (3 : Int) = 0) => absurd q (by omega)) (Or.inr ⟨(by omega : (3 : Int) ≠ 0), (BD_mk hR1 (fr_o (fr_o (fr_rf [35, 36] [] H1) (by decide)) (by decide)) (by decide) (by decide) (by decide : (3 : Int) ≠ 0) rfl rfl (rch_st hq1 (by show (if tk Y (xi X1) = 3 then (if tfd Y X1 < 0 then fl Y X1 3 else if X1 4 c = 3 then fl Y X1 5 else ((8, (c : Int), X1 4 c + 1, 0) :: K, xcar X1 c (tfd Y X1))) else (K, X1)) = _; (try unfold miss); (repeat (first | rw [if_pos (by omega)] | rw [if_neg (by omega)])); try (first | rfl | (exfalso; omega)))))⟩) (mu_lt hw (by omega) (by omega : (3 : Int) ≠ 0 ∨ ((H1.1 1826 30) ≤ (H1.1 1826 30) ∧ (H1.1 1826 30) ≤ (H.1 1826 29) ∧ (((H1.1 1826 31) = 0 ∧ (H1.1 1826 31) ≠ 0) ∨ (H1.1 1826 30) < (H1.1 1826 30)))))
    · have b3x : (H1.1 1826 35) ≠ 0 := b3
      refine h_run 0 (pc' := 132) (l' := [(0, .inr (.inr 1826)), (1, .inl (c : Int))]) (st' := [.inl 0]) rfl ?_
      refine h_zeq (off := 78) (t := 210) rfl rfl (by decide) (fun _ => ?_) (fun c => absurd c (by decide))
      refine h_ret rfl rfl ?_
      have g51 : -2147483648 ≤ (H1.1 1826 30) ∧ (H1.1 1826 30) ≤ 2147483647 := hrg1.1 1826 13 30 _ .int rfl rfl
      have g52 : -2147483648 ≤ (H1.1 1826 32) ∧ (H1.1 1826 32) ≤ 2147483647 := hrg1.1 1826 13 32 _ .int rfl rfl
      have g53 : -2147483648 ≤ (H1.1 1826 29) ∧ (H1.1 1826 29) ≤ 2147483647 := hrg1.1 1826 13 29 _ .int rfl rfl
      have e54 : (H1.1 1826 29) = (H.1 1826 29) := hf.2.2 29 (by decide)
      have g55 : -2147483648 ≤ (H1.1 1826 1) ∧ (H1.1 1826 1) ≤ 2147483647 := hrg1.1 1826 13 1 _ .int rfl rfl
      have e56 : (H1.1 1826 1) = (H.1 1826 1) := hf.2.2 1 (by decide)
      have g57 : -2147483648 ≤ (H1.1 1826 3) ∧ (H1.1 1826 3) ≤ 2147483647 := hrg1.1 1826 13 3 _ .int rfl rfl
      have g58 : -2147483648 ≤ (H1.1 1826 8) ∧ (H1.1 1826 8) ≤ 2147483647 := hrg1.1 1826 13 8 _ .int rfl rfl
      have e59 : (H1.1 1826 8) = (H.1 1826 8) := hf.2.2 8 (by decide)
      have g60 : -2147483648 ≤ (H1.1 1826 13) ∧ (H1.1 1826 13) ≤ 2147483647 := hrg1.1 1826 13 13 _ .int rfl rfl
      have e61 : (H1.1 1826 13) = (H.1 1826 13) := hf.2.2 13 (by decide)
      have g62 : -2147483648 ≤ (H1.1 1826 19) ∧ (H1.1 1826 19) ≤ 2147483647 := hrg1.1 1826 13 19 _ .int rfl rfl
      have e63 : (H1.1 1826 19) = (H.1 1826 19) := hf.2.2 19 (by decide)
      exact ⟨rfl, (Or.inr ⟨(by omega : (H1.1 1826 35) ≠ 0), GB_b hCL (by omega)⟩), hf, (by omega : (H.1 1826 30) ≤ (H1.1 1826 30) ∧ (H1.1 1826 30) ≤ (H.1 1826 29)), (by omega : 0 ≤ (H1.1 1826 35) ∧ (H1.1 1826 35) ≤ 5), (by omega : (H.1 1826 35) ≠ 0 → (H1.1 1826 35) ≠ 0), (by omega : 0 ≤ (H1.1 1826 32) ∧ (H1.1 1826 32) ≤ 1000), hag, (fun q => ⟨htk, PW_more hP hag ⟨(by omega : (H1.1 1826 1) ≤ 6), (by omega : (H1.1 1826 3) ≤ 16), (by omega : (H1.1 1826 8) ≤ 16)⟩ (hm q) (m_fun_agp pw2 hag (by omega)) (by omega : (H1.1 1826 13) = (H.1 1826 13)) (by omega : (H1.1 1826 19) = (H.1 1826 19))⟩)⟩
set_option maxRecDepth 100000 in
theorem n_constructor {zC : Nat → Option zsh} {d : Nat} (hd : 5 ≤ d) {H : hp}  {Y : yx} {m : Int} {c0 : cf} {K : List tq} {X : rx} (h0 : 0 ≤ (H.1 1826 30) ∧ (H.1 1826 30) ≤ (H.1 1826 29) ∧ (H.1 1826 29) ≤ 1000) (hw : 0 ≤ (H.1 1826 35) ∧ (H.1 1826 35) ≤ 5) (hst : 0 ≤ (H.1 1826 32) ∧ (H.1 1826 32) ≤ 1000) (hP : PWc H) (ht : 1 ≤ (H.1 1826 1)) (hw0 : (H.1 1826 35) = 0) (hR : RK Y m H X) (hq : rch Y c0 ((7, (H.1 1826 1) - 1, 0, 0) :: K, X)) (hK : lkK K) : hG (zs zC) d mt_171 0 (zargs 0 [.inr (.inr 1826)]) [] H (fun r H2 => r = none ∧ GB Y m c0 H2 (∃ X2 : rx, rch Y c0 (K, X2) ∧ RK Y m H2 X2) ∧ fr [30, 31, 32, 33, 35, 36, 3] [1828, 1829, 1830, 1831] H H2 ∧ ((H.1 1826 30) ≤ (H2.1 1826 30) ∧ (H2.1 1826 30) ≤ (H.1 1826 29)) ∧ (0 ≤ (H2.1 1826 35) ∧ (H2.1 1826 35) ≤ 5) ∧ ((H.1 1826 35) ≠ 0 → (H2.1 1826 35) ≠ 0) ∧ (0 ≤ (H2.1 1826 32) ∧ (H2.1 1826 32) ≤ 1000) ∧ agp H H2 ∧ ((H2.1 1826 35) = 0 → (H.1 1826 31) = 2 ∧ PWc H2)) := by
  refine h_rng (fun hrg0 => ?_)
  refine h_run 0 (pc' := 0) (l' := [(0, .inr (.inr 1826))]) (st' := []) rfl ?_
  obtain ⟨⟨pb1, pb2, pb3, pb4, pb5⟩, pw1, pw2, pw3, pw4⟩ := (id hP : PW H (H.1 1826 1) (H.1 1826 3) (H.1 1826 8) (H.1 1826 13) (H.1 1826 19))
  have htk := RK_t hR
  have hc4 := hR.2.2.2.2.2.1.1
  refine h_run 1 (pc' := 1) (l' := [(0, .inr (.inr 1826))]) (st' := [.inr (.inr 1826)]) rfl ?_
  have g64 : -2147483648 ≤ (H.1 1826 35) ∧ (H.1 1826 35) ≤ 2147483647 := hrg0.1 1826 13 35 _ .int rfl rfl
  refine h_cv (i := 293) (j := 158) (b := 1826) (M' := mt_158) (xs := []) (rest := []) rfl rfl rfl rfl rfl rfl (Nat.le_of_ble_eq_true rfl) (Nat.le_of_ble_eq_true rfl) (by omega) (m_good1 (by omega) (by omega : (H.1 1826 35) = 0)) ?_
  rintro _ _ ⟨rfl, rfl⟩
  refine h_run 0 (pc' := 4) (l' := [(0, .inr (.inr 1826))]) (st' := [.inl 1]) rfl ?_
  refine h_zeq (off := 16) (t := 20) rfl rfl (by decide) (fun c => absurd c (by decide)) (fun _ => ?_)
  refine h_run 2 (pc' := 11) (l' := [(0, .inr (.inr 1826))]) (st' := [.inl (H.1 1826 31)]) rfl ?_
  have g65 : -2147483648 ≤ (H.1 1826 31) ∧ (H.1 1826 31) ≤ 2147483647 := hrg0.1 1826 13 31 _ .int rfl rfl
  refine h_run 1 (pc' := 12) (l' := [(0, .inr (.inr 1826))]) (st' := [.inl 2, .inl (H.1 1826 31)]) rfl ?_
  refine h_ieq (off := 8) (t := 20) rfl rfl (by omega) (by decide) (fun c66 => ?_) (fun c66 => ?_)
  · refine h_run 1 (pc' := 21) (l' := [(0, .inr (.inr 1826))]) (st' := [.inr (.inr 1826)]) rfl ?_
    refine h_cv (i := 293) (j := 158) (b := 1826) (M' := mt_158) (xs := []) (rest := []) rfl rfl rfl rfl rfl rfl (Nat.le_of_ble_eq_true rfl) (Nat.le_of_ble_eq_true rfl) (by omega) (m_good1 (by omega) (by omega : (H.1 1826 35) = 0)) ?_
    rintro _ _ ⟨rfl, rfl⟩
    refine h_run 0 (pc' := 24) (l' := [(0, .inr (.inr 1826))]) (st' := [.inl 1]) rfl ?_
    refine h_zeq (off := 27) (t := 51) rfl rfl (by decide) (fun c => absurd c (by decide)) (fun _ => ?_)
    refine h_run 4 (pc' := 35) (l' := [(0, .inr (.inr 1826))]) (st' := [.inl (H.1 1826 3), .inr (.inr 1828)]) rfl ?_
    have g67 : -2147483648 ≤ (H.1 1826 3) ∧ (H.1 1826 3) ≤ 2147483647 := hrg0.1 1826 13 3 _ .int rfl rfl
    refine h_run 2 (pc' := 39) (l' := [(0, .inr (.inr 1826))]) (st' := [.inr (.inl (H.1 1826 33)), .inl (H.1 1826 3), .inr (.inr 1828)]) rfl ?_
    have g68 : -9223372036854775808 ≤ (H.1 1826 33) ∧ (H.1 1826 33) ≤ 9223372036854775807 := hrg0.1 1826 13 33 _ .long rfl rfl
    refine h_cs (i := 309) (j := 167) (M' := mt_167) (xs := [.inr (.inl (H.1 1826 33)), .inl (H.1 1826 3), .inr (.inr 1828)]) (rest := []) rfl rfl rfl rfl rfl (Nat.le_of_ble_eq_true rfl) (Nat.le_of_ble_eq_true rfl) (by omega) (n_find (by omega) (m := 16) (z := cfd Y X) rfl (by omega : 0 ≤ (H.1 1826 3) ∧ (H.1 1826 3) ≤ ((16 : Nat) : Int) ∧ 16 ≤ 100) (by omega) (RK_cf hR (Or.inr (by omega)))) ?_
    rintro _ _ ⟨⟨k69, rfl, f70, f70x⟩ | ⟨rfl, f70⟩, rfl⟩
    · refine h_run 0 (pc' := 42) (l' := [(0, .inr (.inr 1826))]) (st' := [.inl (k69 : Int)]) rfl ?_
      refine h_run 1 (pc' := 43) (l' := [(0, .inr (.inr 1826))]) (st' := [.inl (-1), .inl (k69 : Int)]) rfl ?_
      refine h_ieq (off := 8) (t := 51) rfl rfl (by omega) (by decide) (fun c71 => ?_) (fun c71 => ?_)
      · exfalso
        omega
      · refine h_run 2 (pc' := 48) (l' := [(0, .inr (.inr 1826))]) (st' := [.inl 3, .inr (.inr 1826)]) rfl ?_
        refine h_cv (i := 278) (j := 159) (b := 1826) (M' := mt_159) (xs := [.inl 3]) (rest := []) rfl rfl rfl rfl rfl rfl (Nat.le_of_ble_eq_true rfl) (Nat.le_of_ble_eq_true rfl) (by omega) (m_bad0 (by omega) (by omega) (by omega : (H.1 1826 35) = 0)) ?_
        rintro _ _ ⟨rfl, rfl⟩
        refine h_run 0 (pc' := 51) (l' := [(0, .inr (.inr 1826))]) (st' := []) rfl ?_
        refine h_run 1 (pc' := 52) (l' := [(0, .inr (.inr 1826))]) (st' := [.inr (.inr 1826)]) rfl ?_
        refine h_cv (i := 293) (j := 158) (b := 1826) (M' := mt_158) (xs := []) (rest := []) rfl rfl rfl rfl rfl rfl (Nat.le_of_ble_eq_true rfl) (Nat.le_of_ble_eq_true rfl) (by omega) (m_good0 (by omega) (by omega : (3 : Int) ≠ 0)) ?_
        rintro _ _ ⟨rfl, rfl⟩
        refine h_run 0 (pc' := 55) (l' := [(0, .inr (.inr 1826))]) (st' := [.inl 0]) rfl ?_
        refine h_zeq (off := 17) (t := 72) rfl rfl (by decide) (fun _ => ?_) (fun c => absurd c (by decide))
        refine h_run 1 (pc' := 73) (l' := [(0, .inr (.inr 1826))]) (st' := [.inr (.inr 1826)]) rfl ?_
        refine h_cv (i := 293) (j := 158) (b := 1826) (M' := mt_158) (xs := []) (rest := []) rfl rfl rfl rfl rfl rfl (Nat.le_of_ble_eq_true rfl) (Nat.le_of_ble_eq_true rfl) (by omega) (m_good0 (by omega) (by omega : (3 : Int) ≠ 0)) ?_
        rintro _ _ ⟨rfl, rfl⟩
        refine h_run 0 (pc' := 76) (l' := [(0, .inr (.inr 1826))]) (st' := [.inl 0]) rfl ?_
        refine h_zne (off := 4) (t := 80) rfl rfl (by decide) (fun c => absurd c (by decide)) (fun _ => ?_)
        refine h_ret rfl rfl ?_
        have g72 : -2147483648 ≤ (H.1 1826 30) ∧ (H.1 1826 30) ≤ 2147483647 := hrg0.1 1826 13 30 _ .int rfl rfl
        have g73 : -2147483648 ≤ (H.1 1826 32) ∧ (H.1 1826 32) ≤ 2147483647 := hrg0.1 1826 13 32 _ .int rfl rfl
        have g74 : -2147483648 ≤ (H.1 1826 29) ∧ (H.1 1826 29) ≤ 2147483647 := hrg0.1 1826 13 29 _ .int rfl rfl
        have g75 : -2147483648 ≤ (H.1 1826 1) ∧ (H.1 1826 1) ≤ 2147483647 := hrg0.1 1826 13 1 _ .int rfl rfl
        have g76 : -2147483648 ≤ (H.1 1826 8) ∧ (H.1 1826 8) ≤ 2147483647 := hrg0.1 1826 13 8 _ .int rfl rfl
        have g77 : -2147483648 ≤ (H.1 1826 13) ∧ (H.1 1826 13) ≤ 2147483647 := hrg0.1 1826 13 13 _ .int rfl rfl
        have g78 : -2147483648 ≤ (H.1 1826 19) ∧ (H.1 1826 19) ≤ 2147483647 := hrg0.1 1826 13 19 _ .int rfl rfl
        exact ⟨rfl, (Or.inr ⟨(by omega : (3 : Int) ≠ 0), (BD_mk hR (fr_o (fr_o (fr_rf [35, 36] [] H) (by decide)) (by decide)) (by decide) (by decide) (by decide : (3 : Int) ≠ 0) rfl rfl (rch_st hq (by show (if tk Y (xi X) ≠ 3 then miss Y X else if 0 ≤ cfd Y X then fl Y X 3 else if 16 ≤ X 0 4 then fl Y X 5 else ((8, X 0 4, 0, 0) :: K, xcon X (tn Y (xi X)) ((H.1 1826 1) - 1))) = _; (try unfold miss); (repeat (first | rw [if_pos (by omega)] | rw [if_neg (by omega)])); try (first | rfl | (exfalso; omega)))))⟩), (fr_o (fr_o (fr_rf _ _ _) (by decide)) (by decide)), (by omega : (H.1 1826 30) ≤ (H.1 1826 30) ∧ (H.1 1826 30) ≤ (H.1 1826 29)), (by omega : 0 ≤ (3 : Int) ∧ (3 : Int) ≤ 5), (by omega : (H.1 1826 35) ≠ 0 → (3 : Int) ≠ 0), (by omega : 0 ≤ (H.1 1826 32) ∧ (H.1 1826 32) ≤ 1000), (agp_o (agp_o (agp_rf _) (by decide)) (by decide)), (fun (q : (3 : Int) = 0) => absurd q (by omega))⟩
    · refine h_run 0 (pc' := 42) (l' := [(0, .inr (.inr 1826))]) (st' := [.inl (-1)]) rfl ?_
      refine h_run 1 (pc' := 43) (l' := [(0, .inr (.inr 1826))]) (st' := [.inl (-1), .inl (-1)]) rfl ?_
      refine h_ieq (off := 8) (t := 51) rfl rfl (by decide) (by decide) (fun _ => ?_) (fun c => absurd c (by decide))
      refine h_run 1 (pc' := 52) (l' := [(0, .inr (.inr 1826))]) (st' := [.inr (.inr 1826)]) rfl ?_
      refine h_cv (i := 293) (j := 158) (b := 1826) (M' := mt_158) (xs := []) (rest := []) rfl rfl rfl rfl rfl rfl (Nat.le_of_ble_eq_true rfl) (Nat.le_of_ble_eq_true rfl) (by omega) (m_good1 (by omega) (by omega : (H.1 1826 35) = 0)) ?_
      rintro _ _ ⟨rfl, rfl⟩
      refine h_run 0 (pc' := 55) (l' := [(0, .inr (.inr 1826))]) (st' := [.inl 1]) rfl ?_
      refine h_zeq (off := 17) (t := 72) rfl rfl (by decide) (fun c => absurd c (by decide)) (fun _ => ?_)
      refine h_run 2 (pc' := 62) (l' := [(0, .inr (.inr 1826))]) (st' := [.inl (H.1 1826 3)]) rfl ?_
      refine h_run 1 (pc' := 64) (l' := [(0, .inr (.inr 1826))]) (st' := [.inl 16, .inl (H.1 1826 3)]) rfl ?_
      refine h_ine (off := 8) (t := 72) rfl rfl (by omega) (by decide) (fun c79 => ?_) (fun c79 => ?_)
      · refine h_run 1 (pc' := 73) (l' := [(0, .inr (.inr 1826))]) (st' := [.inr (.inr 1826)]) rfl ?_
        refine h_cv (i := 293) (j := 158) (b := 1826) (M' := mt_158) (xs := []) (rest := []) rfl rfl rfl rfl rfl rfl (Nat.le_of_ble_eq_true rfl) (Nat.le_of_ble_eq_true rfl) (by omega) (m_good1 (by omega) (by omega : (H.1 1826 35) = 0)) ?_
        rintro _ _ ⟨rfl, rfl⟩
        refine h_run 0 (pc' := 76) (l' := [(0, .inr (.inr 1826))]) (st' := [.inl 1]) rfl ?_
        refine h_zne (off := 4) (t := 80) rfl rfl (by decide) (fun _ => ?_) (fun c => absurd c (by decide))
        refine h_run 2 (pc' := 84) (l' := [(0, .inr (.inr 1826))]) (st' := [.inl (H.1 1826 3)]) rfl ?_
        refine h_run 6 (pc' := 94) (l' := [(0, .inr (.inr 1826)), (1, .inl (H.1 1826 3))]) (st' := [.inr (.inl (H.1 1826 33)), .inl (H.1 1826 3), .inr (.inr 1828)]) rfl ?_
        refine h_lst (c := 1828) (j := ((H.1 1826 3)).toNat) (i := (H.1 1826 3)) (x := (H.1 1826 33)) rfl rfl (by decide) (by decide) (by omega) (by omega) (by first | omega | exact z_long _) ?_
        refine h_run 5 (pc' := 104) (l' := [(0, .inr (.inr 1826)), (1, .inl (H.1 1826 3))]) (st' := [.inl (H.1 1826 1), .inl (H.1 1826 3), .inr (.inr 1829)]) rfl ?_
        have g80 : -2147483648 ≤ (H.1 1826 1) ∧ (H.1 1826 1) ≤ 2147483647 := hrg0.1 1826 13 1 _ .int rfl rfl
        refine h_run 2 (pc' := 106) (l' := [(0, .inr (.inr 1826)), (1, .inl (H.1 1826 3))]) (st' := [.inl ((H.1 1826 1) - 1), .inl (H.1 1826 3), .inr (.inr 1829)]) rfl ?_
        refine h_ist (c := 1829) (j := ((H.1 1826 3)).toNat) (i := (H.1 1826 3)) (x := ((H.1 1826 1) - 1)) rfl rfl (by decide) (by decide) (by omega) (by omega) (by omega) ?_
        refine h_run 4 (pc' := 113) (l' := [(0, .inr (.inr 1826)), (1, .inl (H.1 1826 3))]) (st' := [.inl 0, .inl (H.1 1826 3), .inr (.inr 1830)]) rfl ?_
        refine h_ist (c := 1830) (j := ((H.1 1826 3)).toNat) (i := (H.1 1826 3)) (x := 0) rfl rfl (by decide) (by decide) (by omega) (by omega) (by decide) ?_
        refine h_run 3 (pc' := 119) (l' := [(0, .inr (.inr 1826)), (1, .inl (H.1 1826 3))]) (st' := [.inl (H.1 1826 3), .inr (.inr 1826)]) rfl ?_
        refine h_run 2 (pc' := 121) (l' := [(0, .inr (.inr 1826)), (1, .inl (H.1 1826 3))]) (st' := [.inl ((H.1 1826 3) + 1), .inr (.inr 1826)]) rfl ?_
        refine h_puti (i := 319) (ci := 13) (k := 3) (a := 1826) (x := ((H.1 1826 3) + 1)) rfl rfl rfl rfl rfl rfl (by decide) (by omega) ?_
        have hq9 : rch Y c0 ((8, X 0 4, 0, 0) :: K, (xcon X (tn Y (xi X)) ((H.1 1826 1) - 1))) := (rch_st hq (by show (if tk Y (xi X) ≠ 3 then miss Y X else if 0 ≤ cfd Y X then fl Y X 3 else if 16 ≤ X 0 4 then fl Y X 5 else ((8, X 0 4, 0, 0) :: K, xcon X (tn Y (xi X)) ((H.1 1826 1) - 1))) = _; (try unfold miss); (repeat (first | rw [if_pos (by omega)] | rw [if_neg (by omega)])); try (first | rfl | (exfalso; omega))))
        refine h_run 1 (pc' := 125) (l' := [(0, .inr (.inr 1826)), (1, .inl (H.1 1826 3))]) (st' := [.inr (.inr 1826)]) rfl ?_
        have g81 : -2147483648 ≤ (H.1 1826 30) ∧ (H.1 1826 30) ≤ 2147483647 := hrg0.1 1826 13 30 _ .int rfl rfl
        have g82 : -2147483648 ≤ (H.1 1826 29) ∧ (H.1 1826 29) ≤ 2147483647 := hrg0.1 1826 13 29 _ .int rfl rfl
        have g83 : -2147483648 ≤ (H.1 1826 32) ∧ (H.1 1826 32) ≤ 2147483647 := hrg0.1 1826 13 32 _ .int rfl rfl
        refine h_cv (i := 297) (j := 165) (b := 1826) (M' := mt_165) (xs := []) (rest := []) rfl rfl rfl rfl rfl rfl (Nat.le_of_ble_eq_true rfl) (Nat.le_of_ble_eq_true rfl) (by omega) (n_nx (by omega) (by omega : 0 ≤ (H.1 1826 30) ∧ (H.1 1826 30) ≤ (H.1 1826 29) ∧ (H.1 1826 29) ≤ 1000) (by omega : 0 ≤ (H.1 1826 35) ∧ (H.1 1826 35) ≤ 5) (by omega : 0 ≤ (H.1 1826 32) ∧ (H.1 1826 32) ≤ 1000) (by omega : (H.1 1826 35) = 0) (X := (xcon X (tn Y (xi X)) ((H.1 1826 1) - 1))) (RN_mk hR (fr_o (fr_a (fr_a (fr_a (fr_rf [3] [1828, 1829, 1830] H) (by decide)) (by decide)) (by decide)) (by decide)) (by decide) (by decide) (xcon_s _ _ _).1 (TA_con hR.2.2.2.2 (fr_o (fr_a (fr_a (fr_a (fr_rf [3] [1828, 1829, 1830] H) (by decide)) (by decide)) (by decide)) (by decide)) (by decide) (by decide) (by omega) (by rw [← RK_n hR (Or.inr (by omega))]; rfl) rfl rfl rfl)) hq9 (lk_c hK (by decide : (8 : Nat) ≠ 0) (fun q => absurd q (by decide : (8 : Nat) ≠ 1)))) ?_
        rintro _ H84 ⟨rfl, hx84n, hx84f, hx84a, hx84b, hx84c, -, hx84e, hx84g⟩
        refine h_rng (fun hrg85 => ?_)
        have hf86 : fr [30, 31, 32, 33, 35, 36, 3] [1828, 1829, 1830, 1831] H H84 := fr_t (fr_o (fr_a (fr_a (fr_a (fr_rf _ _ _) (by decide)) (by decide)) (by decide)) (by decide)) hx84f (by decide) (by decide)
        have ha87 : agp H H84 := agp_tr (agp_n3 (agp_1830 (agp_1829 (agp_a (agp_rf _) (by decide)) (by omega : (H.1 1826 3) ≤ ((((H.1 1826 3)).toNat : Nat) : Int))) (by omega : (H.1 1826 3) ≤ ((((H.1 1826 3)).toNat : Nat) : Int))) (by omega : (H.1 1826 3) ≤ ((H.1 1826 3) + 1))) (agp_fr hx84f (by decide) (by decide))
        replace hx84a : (H.1 1826 30) ≤ (H84.1 1826 30) := hx84a
        replace hx84b : (H84.1 1826 30) ≤ (H.1 1826 29) := hx84b
        replace hx84g : (H84.1 1826 35) = 0 → ((H84.1 1826 31) = 0 ∨ (H.1 1826 30) < (H84.1 1826 30)) := hx84g
        refine h_run 0 (pc' := 128) (l' := [(0, .inr (.inr 1826)), (1, .inl (H.1 1826 3))]) (st' := []) rfl ?_
        have g88 : -2147483648 ≤ (H84.1 1826 30) ∧ (H84.1 1826 30) ≤ 2147483647 := hrg85.1 1826 13 30 _ .int rfl rfl
        have g89 : -2147483648 ≤ (H84.1 1826 35) ∧ (H84.1 1826 35) ≤ 2147483647 := hrg85.1 1826 13 35 _ .int rfl rfl
        have g90 : -2147483648 ≤ (H84.1 1826 32) ∧ (H84.1 1826 32) ≤ 2147483647 := hrg85.1 1826 13 32 _ .int rfl rfl
        have g91 : -2147483648 ≤ (H84.1 1826 31) ∧ (H84.1 1826 31) ≤ 2147483647 := hrg85.1 1826 13 31 _ .int rfl rfl
        have g92 : -2147483648 ≤ (H84.1 1826 3) ∧ (H84.1 1826 3) ≤ 2147483647 := hrg85.1 1826 13 3 _ .int rfl rfl
        have e93 : (H84.1 1826 3) = ((H.1 1826 3) + 1) := hx84f.2.2 3 (by decide)
        have g94 : -2147483648 ≤ (H84.1 1826 29) ∧ (H84.1 1826 29) ≤ 2147483647 := hrg85.1 1826 13 29 _ .int rfl rfl
        have e95 : (H84.1 1826 29) = (H.1 1826 29) := hx84f.2.2 29 (by decide)
        have g96 : -2147483648 ≤ (H84.1 1826 1) ∧ (H84.1 1826 1) ≤ 2147483647 := hrg85.1 1826 13 1 _ .int rfl rfl
        have e97 : (H84.1 1826 1) = (H.1 1826 1) := hx84f.2.2 1 (by decide)
        rw [show (H.1 1826 3) = ((((H.1 1826 3)).toNat : Nat) : Int) by omega]
        exact (n_constructor_cut hd h0 hw hst hP ht hw0 hR hq hK _) _ ((H.1 1826 3)).toNat hf86 (by omega : (H.1 1826 30) ≤ (H84.1 1826 30) ∧ (H84.1 1826 30) ≤ (H.1 1826 29)) (by omega : 0 ≤ (H84.1 1826 35) ∧ (H84.1 1826 35) ≤ 5) (by omega : 0 ≤ (H84.1 1826 32) ∧ (H84.1 1826 32) ≤ 1000) ha87 (by omega : (((H.1 1826 3)).toNat : Int) = (H.1 1826 3) ∧ (H.1 1826 3) ≤ 15) (by omega : (H84.1 1826 3) = (H.1 1826 3) + 1) (by omega) (fun _ => by rw [show (H84.1 1829) = _ from hx84f.2.1 1829 (by decide) (by decide), show (H84.1 1830) = _ from hx84f.2.1 1830 (by decide) (by decide), show (H84.1 1831) = _ from hx84f.2.1 1831 (by decide) (by decide), show (H84.1 1826 1) = (H.1 1826 1) from hx84f.2.2 1 (by decide), show (H84.1 1826 3) = (H.1 1826 3) + 1 from hx84f.2.2 3 (by decide)]; exact m_con_new pw1 (by omega) (by omega)) (GB_i hx84n (fun q => ⟨_, con_q (by omega) hq9, q⟩)) (Nat.lt_succ_self _)
      · refine h_run 2 (pc' := 69) (l' := [(0, .inr (.inr 1826))]) (st' := [.inl 5, .inr (.inr 1826)]) rfl ?_
        refine h_cv (i := 278) (j := 159) (b := 1826) (M' := mt_159) (xs := [.inl 5]) (rest := []) rfl rfl rfl rfl rfl rfl (Nat.le_of_ble_eq_true rfl) (Nat.le_of_ble_eq_true rfl) (by omega) (m_bad0 (by omega) (by omega) (by omega : (H.1 1826 35) = 0)) ?_
        rintro _ _ ⟨rfl, rfl⟩
        refine h_run 0 (pc' := 72) (l' := [(0, .inr (.inr 1826))]) (st' := []) rfl ?_
        refine h_run 1 (pc' := 73) (l' := [(0, .inr (.inr 1826))]) (st' := [.inr (.inr 1826)]) rfl ?_
        refine h_cv (i := 293) (j := 158) (b := 1826) (M' := mt_158) (xs := []) (rest := []) rfl rfl rfl rfl rfl rfl (Nat.le_of_ble_eq_true rfl) (Nat.le_of_ble_eq_true rfl) (by omega) (m_good0 (by omega) (by omega : (5 : Int) ≠ 0)) ?_
        rintro _ _ ⟨rfl, rfl⟩
        refine h_run 0 (pc' := 76) (l' := [(0, .inr (.inr 1826))]) (st' := [.inl 0]) rfl ?_
        refine h_zne (off := 4) (t := 80) rfl rfl (by decide) (fun c => absurd c (by decide)) (fun _ => ?_)
        refine h_ret rfl rfl ?_
        have g98 : -2147483648 ≤ (H.1 1826 30) ∧ (H.1 1826 30) ≤ 2147483647 := hrg0.1 1826 13 30 _ .int rfl rfl
        have g99 : -2147483648 ≤ (H.1 1826 32) ∧ (H.1 1826 32) ≤ 2147483647 := hrg0.1 1826 13 32 _ .int rfl rfl
        have g100 : -2147483648 ≤ (H.1 1826 29) ∧ (H.1 1826 29) ≤ 2147483647 := hrg0.1 1826 13 29 _ .int rfl rfl
        have g101 : -2147483648 ≤ (H.1 1826 1) ∧ (H.1 1826 1) ≤ 2147483647 := hrg0.1 1826 13 1 _ .int rfl rfl
        have g102 : -2147483648 ≤ (H.1 1826 8) ∧ (H.1 1826 8) ≤ 2147483647 := hrg0.1 1826 13 8 _ .int rfl rfl
        have g103 : -2147483648 ≤ (H.1 1826 13) ∧ (H.1 1826 13) ≤ 2147483647 := hrg0.1 1826 13 13 _ .int rfl rfl
        have g104 : -2147483648 ≤ (H.1 1826 19) ∧ (H.1 1826 19) ≤ 2147483647 := hrg0.1 1826 13 19 _ .int rfl rfl
        exact ⟨rfl, (Or.inr ⟨(by omega : (5 : Int) ≠ 0), (BD_mk hR (fr_o (fr_o (fr_rf [35, 36] [] H) (by decide)) (by decide)) (by decide) (by decide) (by decide : (5 : Int) ≠ 0) rfl rfl (rch_st hq (by show (if tk Y (xi X) ≠ 3 then miss Y X else if 0 ≤ cfd Y X then fl Y X 3 else if 16 ≤ X 0 4 then fl Y X 5 else ((8, X 0 4, 0, 0) :: K, xcon X (tn Y (xi X)) ((H.1 1826 1) - 1))) = _; (try unfold miss); (repeat (first | rw [if_pos (by omega)] | rw [if_neg (by omega)])); try (first | rfl | (exfalso; omega)))))⟩), (fr_o (fr_o (fr_rf _ _ _) (by decide)) (by decide)), (by omega : (H.1 1826 30) ≤ (H.1 1826 30) ∧ (H.1 1826 30) ≤ (H.1 1826 29)), (by omega : 0 ≤ (5 : Int) ∧ (5 : Int) ≤ 5), (by omega : (H.1 1826 35) ≠ 0 → (5 : Int) ≠ 0), (by omega : 0 ≤ (H.1 1826 32) ∧ (H.1 1826 32) ≤ 1000), (agp_o (agp_o (agp_rf _) (by decide)) (by decide)), (fun (q : (5 : Int) = 0) => absurd q (by omega))⟩
  · refine h_run 2 (pc' := 17) (l' := [(0, .inr (.inr 1826))]) (st' := [.inl 2, .inr (.inr 1826)]) rfl ?_
    refine h_cv (i := 278) (j := 159) (b := 1826) (M' := mt_159) (xs := [.inl 2]) (rest := []) rfl rfl rfl rfl rfl rfl (Nat.le_of_ble_eq_true rfl) (Nat.le_of_ble_eq_true rfl) (by omega) (m_bad0 (by omega) (by omega) (by omega : (H.1 1826 35) = 0)) ?_
    rintro _ _ ⟨rfl, rfl⟩
    refine h_run 0 (pc' := 20) (l' := [(0, .inr (.inr 1826))]) (st' := []) rfl ?_
    refine h_run 1 (pc' := 21) (l' := [(0, .inr (.inr 1826))]) (st' := [.inr (.inr 1826)]) rfl ?_
    refine h_cv (i := 293) (j := 158) (b := 1826) (M' := mt_158) (xs := []) (rest := []) rfl rfl rfl rfl rfl rfl (Nat.le_of_ble_eq_true rfl) (Nat.le_of_ble_eq_true rfl) (by omega) (m_good0 (by omega) (by omega : (2 : Int) ≠ 0)) ?_
    rintro _ _ ⟨rfl, rfl⟩
    refine h_run 0 (pc' := 24) (l' := [(0, .inr (.inr 1826))]) (st' := [.inl 0]) rfl ?_
    refine h_zeq (off := 27) (t := 51) rfl rfl (by decide) (fun _ => ?_) (fun c => absurd c (by decide))
    refine h_run 1 (pc' := 52) (l' := [(0, .inr (.inr 1826))]) (st' := [.inr (.inr 1826)]) rfl ?_
    refine h_cv (i := 293) (j := 158) (b := 1826) (M' := mt_158) (xs := []) (rest := []) rfl rfl rfl rfl rfl rfl (Nat.le_of_ble_eq_true rfl) (Nat.le_of_ble_eq_true rfl) (by omega) (m_good0 (by omega) (by omega : (2 : Int) ≠ 0)) ?_
    rintro _ _ ⟨rfl, rfl⟩
    refine h_run 0 (pc' := 55) (l' := [(0, .inr (.inr 1826))]) (st' := [.inl 0]) rfl ?_
    refine h_zeq (off := 17) (t := 72) rfl rfl (by decide) (fun _ => ?_) (fun c => absurd c (by decide))
    refine h_run 1 (pc' := 73) (l' := [(0, .inr (.inr 1826))]) (st' := [.inr (.inr 1826)]) rfl ?_
    refine h_cv (i := 293) (j := 158) (b := 1826) (M' := mt_158) (xs := []) (rest := []) rfl rfl rfl rfl rfl rfl (Nat.le_of_ble_eq_true rfl) (Nat.le_of_ble_eq_true rfl) (by omega) (m_good0 (by omega) (by omega : (2 : Int) ≠ 0)) ?_
    rintro _ _ ⟨rfl, rfl⟩
    refine h_run 0 (pc' := 76) (l' := [(0, .inr (.inr 1826))]) (st' := [.inl 0]) rfl ?_
    refine h_zne (off := 4) (t := 80) rfl rfl (by decide) (fun c => absurd c (by decide)) (fun _ => ?_)
    refine h_ret rfl rfl ?_
    have g105 : -2147483648 ≤ (H.1 1826 30) ∧ (H.1 1826 30) ≤ 2147483647 := hrg0.1 1826 13 30 _ .int rfl rfl
    have g106 : -2147483648 ≤ (H.1 1826 32) ∧ (H.1 1826 32) ≤ 2147483647 := hrg0.1 1826 13 32 _ .int rfl rfl
    have g107 : -2147483648 ≤ (H.1 1826 29) ∧ (H.1 1826 29) ≤ 2147483647 := hrg0.1 1826 13 29 _ .int rfl rfl
    have g108 : -2147483648 ≤ (H.1 1826 1) ∧ (H.1 1826 1) ≤ 2147483647 := hrg0.1 1826 13 1 _ .int rfl rfl
    have g109 : -2147483648 ≤ (H.1 1826 3) ∧ (H.1 1826 3) ≤ 2147483647 := hrg0.1 1826 13 3 _ .int rfl rfl
    have g110 : -2147483648 ≤ (H.1 1826 8) ∧ (H.1 1826 8) ≤ 2147483647 := hrg0.1 1826 13 8 _ .int rfl rfl
    have g111 : -2147483648 ≤ (H.1 1826 13) ∧ (H.1 1826 13) ≤ 2147483647 := hrg0.1 1826 13 13 _ .int rfl rfl
    have g112 : -2147483648 ≤ (H.1 1826 19) ∧ (H.1 1826 19) ≤ 2147483647 := hrg0.1 1826 13 19 _ .int rfl rfl
    exact ⟨rfl, (Or.inr ⟨(by omega : (2 : Int) ≠ 0), (BD_mk hR (fr_o (fr_o (fr_rf [35, 36] [] H) (by decide)) (by decide)) (by decide) (by decide) (by decide : (2 : Int) ≠ 0) rfl rfl (rch_st hq (by show (if tk Y (xi X) ≠ 3 then miss Y X else if 0 ≤ cfd Y X then fl Y X 3 else if 16 ≤ X 0 4 then fl Y X 5 else ((8, X 0 4, 0, 0) :: K, xcon X (tn Y (xi X)) ((H.1 1826 1) - 1))) = _; (try unfold miss); (repeat (first | rw [if_pos (by omega)] | rw [if_neg (by omega)])); try (first | rfl | (exfalso; omega)))))⟩), (fr_o (fr_o (fr_rf _ _ _) (by decide)) (by decide)), (by omega : (H.1 1826 30) ≤ (H.1 1826 30) ∧ (H.1 1826 30) ≤ (H.1 1826 29)), (by omega : 0 ≤ (2 : Int) ∧ (2 : Int) ≤ 5), (by omega : (H.1 1826 35) ≠ 0 → (2 : Int) ≠ 0), (by omega : 0 ≤ (H.1 1826 32) ∧ (H.1 1826 32) ≤ 1000), (agp_o (agp_o (agp_rf _) (by decide)) (by decide)), (fun (q : (2 : Int) = 0) => absurd q (by omega))⟩

/-! constructor -/
set_option maxRecDepth 100000 in
theorem n_constructor0 {zC : Nat → Option zsh} {d : Nat} (hd : 5 ≤ d) {H : hp}  (hw0 : (H.1 1826 35) ≠ 0) : hG (zs zC) d mt_171 0 (zargs 0 [.inr (.inr 1826)]) [] H (fun r H2 => r = none ∧ H = H2) := by
  refine h_rng (fun hrg0 => ?_)
  refine h_run 0 (pc' := 0) (l' := [(0, .inr (.inr 1826))]) (st' := []) rfl ?_
  refine h_run 1 (pc' := 1) (l' := [(0, .inr (.inr 1826))]) (st' := [.inr (.inr 1826)]) rfl ?_
  have g1 : -2147483648 ≤ (H.1 1826 35) ∧ (H.1 1826 35) ≤ 2147483647 := hrg0.1 1826 13 35 _ .int rfl rfl
  refine h_cv (i := 293) (j := 158) (b := 1826) (M' := mt_158) (xs := []) (rest := []) rfl rfl rfl rfl rfl rfl (Nat.le_of_ble_eq_true rfl) (Nat.le_of_ble_eq_true rfl) (by omega) (m_good0 (by omega) (by omega : (H.1 1826 35) ≠ 0)) ?_
  rintro _ _ ⟨rfl, rfl⟩
  refine h_run 0 (pc' := 4) (l' := [(0, .inr (.inr 1826))]) (st' := [.inl 0]) rfl ?_
  refine h_zeq (off := 16) (t := 20) rfl rfl (by decide) (fun _ => ?_) (fun c => absurd c (by decide))
  refine h_run 1 (pc' := 21) (l' := [(0, .inr (.inr 1826))]) (st' := [.inr (.inr 1826)]) rfl ?_
  refine h_cv (i := 293) (j := 158) (b := 1826) (M' := mt_158) (xs := []) (rest := []) rfl rfl rfl rfl rfl rfl (Nat.le_of_ble_eq_true rfl) (Nat.le_of_ble_eq_true rfl) (by omega) (m_good0 (by omega) (by omega : (H.1 1826 35) ≠ 0)) ?_
  rintro _ _ ⟨rfl, rfl⟩
  refine h_run 0 (pc' := 24) (l' := [(0, .inr (.inr 1826))]) (st' := [.inl 0]) rfl ?_
  refine h_zeq (off := 27) (t := 51) rfl rfl (by decide) (fun _ => ?_) (fun c => absurd c (by decide))
  refine h_run 1 (pc' := 52) (l' := [(0, .inr (.inr 1826))]) (st' := [.inr (.inr 1826)]) rfl ?_
  refine h_cv (i := 293) (j := 158) (b := 1826) (M' := mt_158) (xs := []) (rest := []) rfl rfl rfl rfl rfl rfl (Nat.le_of_ble_eq_true rfl) (Nat.le_of_ble_eq_true rfl) (by omega) (m_good0 (by omega) (by omega : (H.1 1826 35) ≠ 0)) ?_
  rintro _ _ ⟨rfl, rfl⟩
  refine h_run 0 (pc' := 55) (l' := [(0, .inr (.inr 1826))]) (st' := [.inl 0]) rfl ?_
  refine h_zeq (off := 17) (t := 72) rfl rfl (by decide) (fun _ => ?_) (fun c => absurd c (by decide))
  refine h_run 1 (pc' := 73) (l' := [(0, .inr (.inr 1826))]) (st' := [.inr (.inr 1826)]) rfl ?_
  refine h_cv (i := 293) (j := 158) (b := 1826) (M' := mt_158) (xs := []) (rest := []) rfl rfl rfl rfl rfl rfl (Nat.le_of_ble_eq_true rfl) (Nat.le_of_ble_eq_true rfl) (by omega) (m_good0 (by omega) (by omega : (H.1 1826 35) ≠ 0)) ?_
  rintro _ _ ⟨rfl, rfl⟩
  refine h_run 0 (pc' := 76) (l' := [(0, .inr (.inr 1826))]) (st' := [.inl 0]) rfl ?_
  refine h_zne (off := 4) (t := 80) rfl rfl (by decide) (fun c => absurd c (by decide)) (fun _ => ?_)
  refine h_ret rfl rfl ?_
  exact ⟨rfl, rfl⟩
