/-! test and told, both tell the same -/
theorem CL_ZG {H K : hp} (h : CLw H) (g : ZG9 H K) : CLw K := by
  intro a k hm
  by_cases q : a = 366 ∧ k = 4
  · rw [q.1, q.2] at hm
    exact absurd hm (by decide +kernel)
  · rw [g.1 a k q]
    exact h a k hm
theorem CL_T {ar : Int → Int} {X : rx} {al : Bool} {a b z : Int} {H K : hp} (h : CLw H) (r : RTV ar X al a b H K z) : CLw K := by
  rcases r with ⟨-, -, e⟩ | ⟨-, -, -, e⟩ | ⟨-, -, -, -, -, g⟩
  · rw [e]; exact h
  · rw [e]; exact h
  · exact CL_ZG h g
/-- a row is told only where there are rows -/
theorem tst_pos {ar : Int → Int} {X : rx} {al : Bool} {l : Nat} {ty : Nat → Int} {nv n : Nat} (h : (tst9 ar X al l ty nv n).1 = 1) : ∀ v : Nat, v < nv → 1 ≤ tot9 X al ty n v := by
  unfold tst9 at h
  split at h
  · exact absurd h (by decide)
  · by_cases q : nRw X al ty nv n = 0
    · rw [q] at h
      exact absurd (show (0 : Int) = 1 from h) (by decide)
    · exact prN_ps (tot := tot9 X al ty n) (k := nv) (Nat.pos_of_ne_zero q)
theorem rwV_0 {H : hp} {X : rx} {m : Int} {al : Bool} {ty : Nat → Int} {nv N r v : Nat} {fn : Int} (hP : PWc H) (hA : TA m H X) (ht : 1 ≤ tot9 X al ty N v) : tm (ma (H.1 1833) (H.1 1830)) (m_sg (H.1 1826 3) fn 0) (ga (rwV X al ty nv N r v)) (rwV X al ty nv N r v).length 0 1 := by
  have hc4 := hA.2.1
  have hb : 0 ≤ H.1 1826 3 ∧ H.1 1826 3 ≤ 16 := by
    obtain ⟨⟨b1, b2, b3, b4, b5⟩, -⟩ := (id hP : PW H (H.1 1826 1) (H.1 1826 3) (H.1 1826 8) (H.1 1826 13) (H.1 1826 19))
    exact b2
  refine rwV_tm (CT9_of hP hA) hc4.1 (fun c hc => ?_) (ma_0 (Or.inr rfl)) ht
  have h9 := hc4.1
  rw [ma_c (by omega), show (1 + (c : Int) - 1).toNat = c by omega]
  exact (hc4.2 c hc).2.2.1
theorem TV_TRV {H : hp} {X : rx} {m : Int} {al : Bool} {a b tl2 z : Int} {tv2 : Nat → Int} (hP : PWc H) (hA : TA m H X) (hR : RS9 H X) (hTV : TVa (H.1 1826 67) (H.1 1826 19) (H.1 1826 3) (H.1 1826 8) (H.1 1845) (H.1 1833) (H.1 1830) (H.1 1867)) (h : TRV (ma (H.1 1833) (H.1 1830)) X al a b (H.1 1826 67) tl2 (H.1 1867) tv2 z) : TVa tl2 (H.1 1826 19) (H.1 1826 3) (H.1 1826 8) (H.1 1845) (H.1 1833) (H.1 1830) tv2 := by
  rcases h with ⟨-, -, e1, e2⟩ | ⟨-, -, -, e1, e2⟩ | ⟨h1, h2, h3, h4, h5⟩
  · rw [e1, e2]; exact hTV
  · rw [e1, e2]; exact hTV
  · by_cases q : z = 1
    · obtain ⟨t1, t2⟩ := h4 q
      have a7 := hA.2.2.2.1.1.2
      obtain ⟨p1, p2, -⟩ := lw_PW hP hA hR (l := a.toNat) (by omega)
      have hp := tst_pos (h3.symm.trans q)
      refine Or.inr ⟨a.toNat, t1, by omega, fun v hv => ⟨_, rwV_6 (nv := nvX X a.toNat) (r := (tst9 (ma (H.1 1833) (H.1 1830)) X al a.toNat (tyX X a.toNat) (nvX X a.toNat) b.toNat).2) (by omega) (hp v (by omega)), ?_⟩⟩
      exact tm_at (rwV_0 hP hA (hp v (by omega))) (fun x hx => by rw [Nat.zero_add]; exact t2 v (by omega) x hx)
    · obtain ⟨e1, e2⟩ := h5 q
      rw [e1, e2]; exact hTV
theorem kcd_T {H : hp} {X : rx} {m s : Int} (hP : PWc H) (hA : TA m H X) (hs : m_sg (H.1 1826 3) 0 0 s) : kcd X s = kcT (H.1 1830) s := by
  have hb : 0 ≤ H.1 1826 3 ∧ H.1 1826 3 ≤ 16 := by
    obtain ⟨⟨b1, b2, b3, b4, b5⟩, -⟩ := (id hP : PW H (H.1 1826 1) (H.1 1826 3) (H.1 1826 8) (H.1 1826 13) (H.1 1826 19))
    exact b2
  have hc4 := hA.2.1
  have h9 := hc4.1
  unfold m_sg at hs
  unfold kcd kcT
  by_cases q : s = 0
  · rw [if_pos q, if_pos q]
  · rw [if_neg q, if_neg (by omega), if_neg (by omega), if_neg q, ((hc4.2 (s - 1).toNat (by omega)).2.2.1)]
/-- behind a test both have told the same again -/
theorem TOx_test {H K K2 : hp} {X : rx} {m : Int} {al : Bool} {a b z : Int} (hP : PWc H) (hA : TA m H X) (hR : RS9 H X) (hO : TOx H) (g : ∀ c, 1826 ≤ c → K.1 c = H.1 c) (h1 : RTV (ma (H.1 1833) (H.1 1830)) X al a b H K z) (hc : cl K K2) (f : ft K K2) (h2 : TRV (ma (H.1 1833) (H.1 1830)) X al a b (H.1 1826 67) (K2.1 1826 67) (H.1 1867) (K2.1 1867) z) : TOx K2 := by
  have f3 : K2.1 1826 3 = H.1 1826 3 := (f.2 3 (by decide)).trans (by rw [g 1826 (by decide)])
  have f19 : K2.1 1826 19 = H.1 1826 19 := (f.2 19 (by decide)).trans (by rw [g 1826 (by decide)])
  have f45 : K2.1 1845 = H.1 1845 := (f.1 1845 (by decide)).trans (g 1845 (by decide))
  have f30 : K2.1 1830 = H.1 1830 := (f.1 1830 (by decide)).trans (g 1830 (by decide))
  have f33 : K2.1 1833 = H.1 1833 := (f.1 1833 (by decide)).trans (g 1833 (by decide))
  have same : TKw H K → K.1 372 10 = H.1 372 10 → K2.1 1826 67 = H.1 1826 67 → K2.1 1867 = H.1 1867 → TOx K2 := fun t e e1 e2 => TOx_e (TOx_c hO t e g) hc ⟨e1.trans (by rw [g 1826 (by decide)]), e2.trans (g 1867 (by decide)).symm⟩ (f.2 3 (by decide)) (f.2 19 (by decide)) (f.1 1845 (by decide)) (f.1 1830 (by decide)) (f.1 1833 (by decide))
  have rf : K = H → K2.1 1826 67 = H.1 1826 67 → K2.1 1867 = H.1 1867 → TOx K2 := fun e => same (fun v _ => by rw [e]; exact ⟨rfl, fun _ _ => rfl⟩) (by rw [e])
  rcases h1 with ⟨p1, p2, p3⟩ | ⟨p1, p2, p3, p4⟩ | ⟨p1, p2, p3, p4, p5, p6⟩
  · rcases h2 with ⟨q1, q2, q3, q4⟩ | ⟨q1, q2, q3, q4, q5⟩ | ⟨q1, q2, q3, q4, q5⟩
    · exact rf p3 q3 q4
    · omega
    · omega
  · rcases h2 with ⟨q1, q2, q3, q4⟩ | ⟨q1, q2, q3, q4, q5⟩ | ⟨q1, q2, q3, q4, q5⟩
    · omega
    · exact rf p4 q4 q5
    · omega
  · rcases h2 with ⟨q1, q2, q3, q4⟩ | ⟨q1, q2, q3, q4, q5⟩ | ⟨q1, q2, q3, q4, q5⟩
    · omega
    · omega
    · by_cases q : z = 1
      · obtain ⟨d1, d2⟩ := p4 q
        obtain ⟨t1, t2⟩ := q4 q
        have a7 := hA.2.2.2.1.1.2
        obtain ⟨l1, l2, -⟩ := lw_PW hP hA hR (l := a.toNat) (by omega)
        have hp := tst_pos (p3.symm.trans q)
        refine Or.inr ⟨a.toNat, nvX X a.toNat, ⟨t1, by omega⟩, ⟨by rw [f45]; exact l1, l2, by rw [hc.2 372 (by decide)]; exact d1⟩, fun v hv => ?_⟩
        obtain ⟨c1, c2⟩ := d2 v hv
        have hv6 : v < 6 := by omega
        refine ⟨_, rwV_6 (by omega) (hp v hv), by rw [hc.2 (384 + 4 * v) (by omega)]; exact c1, fun x hx => ?_, ?_⟩
        · have hs := tm_ok (rwV_0 (r := (tst9 (ma (H.1 1833) (H.1 1830)) X al a.toNat (tyX X a.toNat) (nvX X a.toNat) b.toNat).2) (nv := nvX X a.toNat) (fn := 0) hP hA (hp v hv)) x hx
          rw [Nat.zero_add] at hs
          rw [hc.2 (385 + 4 * v) (by omega), show 385 + 4 * v = 384 + 4 * v + 1 by omega, c2 x hx, t2 v hv x hx, f30]
          exact kcd_T hP hA hs
        · rw [f33, f30, f3]
          exact tm_at (rwV_0 (fn := 0) hP hA (hp v hv)) (fun x hx => by rw [Nat.zero_add]; exact t2 v hv x hx)
      · obtain ⟨e1, e2⟩ := p5 q
        obtain ⟨e3, e4⟩ := q5 q
        exact same (fun v hv => ⟨(e2 v 1 hv).1, fun j _ => (e2 v j hv).2⟩) e1 e3 e4
/-- what lies between two calls of test -/
def BX0 (s t : Int) (K : hp) : Prop := Inv K ∧ GX0 K ∧ K.1 2 1 = s ∧ K.1 1826 28 = t
theorem w_c_test {d : Nat} (hd : 50 ≤ d) {H : hp} {X : rx} (hI : Inv H) (hG9 : GX H) {a b c : Int} (ha : -2147483648 ≤ a ∧ a ≤ 2147483647) (hb : -2147483648 ≤ b ∧ b ≤ 2147483647) (hc : 0 ≤ c ∧ c ≤ 1) (hEr : ER H) (hT : TC H X) (hA : TA (H.1 1826 8) H X) (hS : SC H X) (hM : MI X) (hR : RS9 H X) (hV : VRQ H) (hCL : CLw H) : hE d mt_9 [.inr (.inr 1), .inl a, .inl b, .inl c] H (fun r K => BX0 (H.1 2 1) (H.1 1826 28) K ∧ (∀ c, 1826 ≤ c → K.1 c = H.1 c) ∧ TC K X ∧ ∃ z : Int, r = some (.inl z) ∧ RTV (ma (H.1 1833) (H.1 1830)) X (decide (c = 1)) a b H K z) := by
  have hP := hG9.1.1
  have hC := CR_of hI hT hEr hS
  have h6 : 0 ≤ X 0 6 := by
    have h1 : H.1 7 5 = X 0 6 := hT.1.2.2.2.1
    have h2 : 0 ≤ H.1 7 5 ∧ H.1 7 5 ≤ 40 := kn (x := kx_7) hI rfl 5
    omega
  have e6 : X 0 6 = (((X 0 6).toNat : Nat) : Int) := by omega
  refine hE_mono (h_own (i := 9) rfl rfl (cl_xs [a, b, c]) hI (h_names (by decide +kernel : gM gG mt_9 = true) (q_test (X := X) (ar := ma (H.1 1833) (H.1 1830)) (cn := H.1 1826 3) (fn := H.1 1826 8) (al := decide (c = 1)) (R := (X 0 6).toNat) (by omega) hI ha hb hc hT hEr (hal_of hc) (fun l hl h16 => ⟨TW9_of hP hT hA hR e6 hl, LV9_of hP hA hR hS hl h16, CM_of (hS.2.1 l h16 hl).1 hM (by omega), CM_of (hS.2.1 l h16 hl).2.1 hM (by omega)⟩) hV.1 hV.2 hC hS.2.2))) (fun r K h9 => ?_)
  obtain ⟨⟨h, hn⟩, hs9⟩ := h9
  obtain ⟨z, h1, -, h3, f, h5⟩ := h
  have gu : ∀ c, 1826 ≤ c → K.1 c = H.1 c := fq_up f rfl rfl
  exact ⟨⟨h3, ⟨GI_up hG9.1 gu, LX0_c hG9.2.1 hn hs9 (CL_T hCL h5) f gu (Or.inr (f.1 2 1 rfl (by decide) (by decide)).1) (by decide) (by decide)⟩, (f.1 2 1 rfl (by decide) (by decide)).1, by rw [gu 1826 (by decide)]⟩, gu, TC_fq hT f (by decide) (by decide) hn.1, z, h1, h5⟩
theorem w_r_test {d : Nat} (hd : 50 ≤ d) {H : hp} {X : rx} (hK : Inv H) (hI : GX0 H) {x y b : Int} (hx : -2147483648 ≤ x ∧ x ≤ 2147483647) (hy : -2147483648 ≤ y ∧ y ≤ 2147483647) (hb : 0 ≤ b ∧ b ≤ 1) (hT : TC H X) (hA : TA (H.1 1826 8) H X) (hR : RS9 H X) : hG (zs zK) d mt_218 0 (zargs 0 [.inr (.inr 1826), .inl x, .inl y, .inl b]) [] H (fun r K => BX0 (H.1 2 1) (H.1 1826 28) K ∧ cl H K ∧ ft H K ∧ ∃ z : Int, r = some (.inl z) ∧ TRV (ma (H.1 1833) (H.1 1830)) X (decide (b = 1)) x y (H.1 1826 67) (K.1 1826 67) (H.1 1867) (K.1 1867) z) := by
  obtain ⟨hP, ht, hst, hou, hG9, hTV⟩ := id hI.1
  have h7 := hA.2.2.2.1.1.2
  have h6 : 0 ≤ X 0 6 := by
    obtain ⟨⟨b1, b2, b3, b4, b5⟩, -⟩ := (id hP : PW H (H.1 1826 1) (H.1 1826 3) (H.1 1826 8) (H.1 1826 13) (H.1 1826 19))
    have h1 := hA.2.2.2.1.1.1
    omega
  have e6 : X 0 6 = (((X 0 6).toNat : Nat) : Int) := by omega
  refine h_mono (n_test (X := X) (al := decide (b = 1)) (R := (X 0 6).toNat) (by omega) hP (RZ9_of hA hR) (RT9_of hA) (LA9_of hP hA hR) (fun l hl => TW9_of hP hT hA hR e6 (by omega)) (hal_of hb) hb hx hy) (fun r K h => ?_)
  obtain ⟨f, r0, h1, h2⟩ := h
  have hft : ft H K := ft_fr f (by decide) (by decide)
  have hcl : cl H K := cl_fr f rfl
  have hv9 := TV_TRV hP hA hR hTV h2
  have hv8 : TVa (K.1 1826 67) (K.1 1826 19) (K.1 1826 3) (K.1 1826 8) (K.1 1845) (K.1 1833) (K.1 1830) (K.1 1867) := by
    rw [hft.2 19 (by decide), hft.2 3 (by decide), hft.2 8 (by decide), hft.1 1845 (by decide), hft.1 1833 (by decide), hft.1 1830 (by decide)]
    exact hv9
  exact ⟨⟨Inv_cl hK hcl, ⟨GI_k hI.1 f (by decide) (by decide) (by decide) (by rw [f.2.2 59 (by decide)]; exact hou) (GP_fr hG9 f (by decide) (by decide) (by decide) (by decide)) hv8, LX0_r hI.2 hcl hft⟩, by rw [hcl.2 2 (by decide)], f.2.2 28 (by decide)⟩, hcl, hft, r0, h1, h2⟩
/-- what told answers -/
def TZt (H : hp) (a z : Int) : Prop := (z = -103 ∧ H.1 1826 67 = -1) ∨ ∃ l nv : Nat, (H.1 1826 67 = (l : Int) ∧ H.1 1845 l = (nv : Int)) ∧ ((z = -101 ∧ (a < 0 ∨ (nv : Int) ≤ a)) ∨ ∃ v : Nat, a = (v : Int) ∧ v < nv ∧ z = bs (ma (H.1 1833) (H.1 1830)) (lenR (H.1 1832) (H.1 1828)) (fun y => H.1 1867 (7 * v + y)) (H.1 (384 + 4 * v) 1).toNat)
theorem TZt_eq {H : hp} {a z z' : Int} (h : TZt H a z) (g : TZt H a z') : z = z' := by
  rcases h with ⟨h1, h2⟩ | ⟨l, nv, ⟨h1, h2⟩, ⟨h3, h4⟩ | ⟨v, h3, h4, h5⟩⟩
  · rcases g with ⟨g1, g2⟩ | ⟨l', nv', ⟨g1, g2⟩, -⟩
    · rw [h1, g1]
    · omega
  · rcases g with ⟨g1, g2⟩ | ⟨l', nv', ⟨g1, g2⟩, ⟨g3, g4⟩ | ⟨v', g3, g4, g5⟩⟩
    · omega
    · rw [h3, g3]
    · obtain rfl : l = l' := by omega
      omega
  · rcases g with ⟨g1, g2⟩ | ⟨l', nv', ⟨g1, g2⟩, ⟨g3, g4⟩ | ⟨v', g3, g4, g5⟩⟩
    · omega
    · obtain rfl : l = l' := by omega
      omega
    · obtain rfl : v = v' := by omega
      rw [h5, g5]
theorem w_c_told {d : Nat} (hd : 50 ≤ d) {H : hp} (hI : Inv H) (hG9 : GX H) {a : Int} (ha : -2147483648 ≤ a ∧ a ≤ 2147483647) : hE d mt_10 [.inr (.inr 1), .inl a] H (fun r K => BX (H.1 2 1) (H.1 1826 28) r K ∧ (∀ c, 1826 ≤ c → K.1 c = H.1 c) ∧ TKw H K ∧ ∃ z : Int, r = some (.inl z) ∧ TZt H a z) := by
  obtain ⟨hE9, ⟨X, hT, h0, hA, hS, hM, hR⟩, -, hVQ, hCL⟩ := hG9.2.1
  have hO := hG9.2.2
  have hP := hG9.1.1
  have key : ∀ v k : Nat, k ≤ 6 → (∀ x : Nat, x < k → H.1 (385 + 4 * v) x = kcT (H.1 1830) (H.1 1867 (7 * v + x))) → tm (ma (H.1 1833) (H.1 1830)) (m_sg (H.1 1826 3) 0 0) (H.1 1867) k (7 * v) 1 → ∀ i, i < k → aC (H.1 (385 + 4 * v) i) = ma (H.1 1833) (H.1 1830) (H.1 1867 (7 * v + i)) ∧ lenC H (H.1 (385 + 4 * v) i) = lenR (H.1 1832) (H.1 1828) (H.1 1867 (7 * v + i)) := by
    intro v k hk hx ht i hi
    have o := tm_ok ht i hi
    have q := sgn_same hP hT hA hM.2 (v := 0) (by decide) (s := H.1 1867 (7 * v + i)) (by unfold m_sg at o ⊢; omega)
    rw [hx i hi, ← kcd_T hP hA o]
    exact ⟨q.1, q.2.1⟩
  have tw : ∀ v k : Nat, k ≤ 6 → (∀ x : Nat, x < k → H.1 (385 + 4 * v) x = kcT (H.1 1830) (H.1 1867 (7 * v + x))) → tm (ma (H.1 1833) (H.1 1830)) (m_sg (H.1 1826 3) 0 0) (H.1 1867) k (7 * v) 1 → (∀ i, i < k → 1 ≤ wn aC (H.1 (385 + 4 * v)) i) ∧ wn aC (H.1 (385 + 4 * v)) k = 0 := by
    intro v k hk hx ht
    have hc := key v k hk hx ht
    have t0 : tm (ma (H.1 1833) (H.1 1830)) (m_sg (H.1 1826 3) 0 0) (fun i => H.1 1867 (7 * v + i)) k 0 1 := tm_at ht (fun x hx => by rw [Nat.zero_add])
    obtain ⟨g1, g2⟩ := tm_wn t0
    refine ⟨fun i hi => ?_, ?_⟩
    · rw [wn_cg (ar := ma (H.1 1833) (H.1 1830)) (a := fun i => H.1 1867 (7 * v + i)) (fun j hj => (hc j (by omega)).1)]
      exact g1 i hi
    · rw [wn_cg (ar := ma (H.1 1833) (H.1 1830)) (a := fun i => H.1 1867 (7 * v + i)) (fun j hj => (hc j (by omega)).1)]
      exact g2
  have htc : H.1 372 10 ≤ 6 := by
    rcases hO with ⟨h1, -⟩ | ⟨l, nv, -, h2, -⟩ <;> omega
  have hs9 : ∀ v : Nat, (v : Int) < H.1 372 10 → v < 6 → (1 ≤ H.1 (384 + 4 * v) 1 ∧ H.1 (384 + 4 * v) 1 ≤ 40) ∧ (∀ i : Nat, (i : Int) < H.1 (384 + 4 * v) 1 → 1 ≤ wn aC (H.1 (385 + 4 * v)) i) ∧ wn aC (H.1 (385 + 4 * v)) (H.1 (384 + 4 * v) 1).toNat = 0 := by
    intro v hv hv6
    rcases hO with ⟨h1, -⟩ | ⟨l, nv, h1, h2, h3⟩
    · omega
    · obtain ⟨k, k1, k2, k3, k4⟩ := h3 v (by omega)
      obtain ⟨g1, g2⟩ := tw v k (by omega) k3 k4
      rw [k2]
      exact ⟨by omega, fun i hi => g1 i (by omega), by rw [Int.toNat_natCast]; exact g2⟩
  refine hE_mono (h_ownw (i := 10) rfl rfl (cl_xsw [a]) hI hCL (h_own (i := 10) rfl rfl (cl_xs [a]) hI (h_names (by decide +kernel : gM gG mt_10 = true) (q_told (by omega) hI ha hVQ.2 htc hs9)))) (fun r K h9 => ?_)
  obtain ⟨⟨⟨⟨z, h1, -, h3, f, hx⟩, hn⟩, hs⟩, hw9⟩ := h9
  refine ⟨fq_BX hG9 hn hs hw9 h1 h3 f ((f.1 2 1 rfl (by decide) (by decide)).1) (Or.inr rfl) rfl rfl (by decide) (by decide) (by decide), fq_up f rfl rfl, hw9.1, z, h1, ?_⟩
  rcases hO with ⟨o1, o2⟩ | ⟨l, nv, o1, o2, o3⟩
  · rcases hx with ⟨q1, q2⟩ | ⟨q1, q2, q3⟩ | ⟨q1, -⟩
    · exact Or.inl ⟨q1, o2⟩
    · omega
    · omega
  · rcases hx with ⟨q1, q2⟩ | ⟨q1, q2, q3⟩ | ⟨q1, q2, -⟩
    · omega
    · exact Or.inr ⟨l, nv, ⟨o1.1, o2.1⟩, Or.inl ⟨q1, by omega⟩⟩
    · obtain ⟨k, k1, k2, k3, k4⟩ := o3 a.toNat (by omega)
      refine Or.inr ⟨l, nv, ⟨o1.1, o2.1⟩, Or.inr ⟨a.toNat, by omega, by omega, ?_⟩⟩
      rw [q2, k2, Int.toNat_natCast]
      exact bs_cg (fun i hi => key a.toNat k (by omega) k3 k4 i hi)
theorem w_r_told {d : Nat} (hd : 50 ≤ d) {H : hp} (hK : Inv H) (hI : GX H) {x : Int} (hx : -2147483648 ≤ x ∧ x ≤ 2147483647) : hG (zs zK) d mt_220 0 (zargs 0 [.inr (.inr 1826), .inl x]) [] H (fun r K => BX (H.1 2 1) (H.1 1826 28) r K ∧ ∃ z : Int, r = some (.inl z) ∧ TZt H x z) := by
  obtain ⟨hP, ht, hst, hou, hG9, hT⟩ := id hI.1
  obtain ⟨-, ⟨X, hT2, h0, hA, hS, hM, hR⟩, -⟩ := hI.2.1
  have hnl : ∀ s9 : Int, m_sg (H.1 1826 3) (H.1 1826 8) 0 s9 → 1 ≤ lenR (H.1 1832) (H.1 1828) s9 := fun s9 h9 => (sgn_same hP hT2 hA hM.2 (v := 0) (by decide) h9).2.2
  have hTx : H.1 1826 67 = -1 ∨ ∃ l : Nat, H.1 1826 67 = (l : Int) ∧ (l : Int) < H.1 1826 19 ∧ ∀ v : Nat, (v : Int) < H.1 1845 l → (1 ≤ (H.1 (384 + 4 * v) 1).toNat ∧ (H.1 (384 + 4 * v) 1).toNat ≤ 6) ∧ tm (ma (H.1 1833) (H.1 1830)) (m_sg (H.1 1826 3) (H.1 1826 8) 0) (H.1 1867) (H.1 (384 + 4 * v) 1).toNat (7 * v) 1 := by
    rcases hI.2.2 with ⟨-, o2⟩ | ⟨l, nv, o1, o2, o3⟩
    · exact Or.inl o2
    · refine Or.inr ⟨l, o1.1, o1.2, fun v hv => ?_⟩
      obtain ⟨k, k1, k2, k3, k4⟩ := o3 v (by omega)
      rw [k2, Int.toNat_natCast]
      refine ⟨k1, tm_mono k4 (fun j _ _ hz => ⟨rfl, ?_, rfl⟩)⟩
      unfold m_sg at hz ⊢
      omega
  refine h_mono (n_told (kf := fun v => (H.1 (384 + 4 * v) 1).toNat) (by omega) hP hTx hou hnl hx) (fun r K h => ?_)
  obtain ⟨f, h1, r0, h2, h3⟩ := h
  exact ⟨GZ9_BX hK hI ⟨⟨r0, h2⟩, GI_k hI.1 f (by decide) (by decide) (by decide) h1 (GP_fr hG9 f (by decide) (by decide) (by decide) (by decide)) (TV_fr hT f (by decide) (by decide) (by decide)), cl_fr f rfl, f.2.2 28 (by decide), ft_fr f (by decide) (by decide), f.2.2 67 (by decide), f.2.1 1867 (by decide) (by decide)⟩, r0, h2, h3⟩
/-- the same question, behind the class's answer -/
theorem TZt_up {H K : hp} {a z : Int} (g : ∀ c, 1826 ≤ c → K.1 c = H.1 c) (t : TKw H K) (h6 : ∀ l : Nat, H.1 1826 67 = (l : Int) → H.1 1845 l ≤ 6) (h : TZt K a z) : TZt H a z := by
  unfold TZt at h ⊢
  rw [g 1826 (by decide), g 1845 (by decide), g 1833 (by decide), g 1830 (by decide), g 1832 (by decide), g 1828 (by decide), g 1867 (by decide)] at h
  rcases h with h | ⟨l, nv, h1, h2 | ⟨v, h2, h3, h4⟩⟩
  · exact Or.inl h
  · exact Or.inr ⟨l, nv, h1, Or.inl h2⟩
  · have h7 := h6 l h1.1
    rw [(t v (by omega)).1] at h4
    exact Or.inr ⟨l, nv, h1, Or.inr ⟨v, h2, h3, h4⟩⟩
