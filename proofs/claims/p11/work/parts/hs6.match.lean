/-! the class matches calls, told exactly -/
/-- a term of the class is a row -/
def CM (H : hp) (t : Nat) (X : rx) (N : Nat) (g : Nat → Int) : Prop := H.1 t 1 = (N : Int) ∧ ∀ x : Nat, x < N → H.1 (t + 1) x = kcd X (g x)
theorem CM_PF {l : List Nat} {H H1 : hp} {t : Nat} {X : rx} {N : Nat} {g : Nat → Int} (h : CM H t X N g) (f : PF l H H1) (h1 : t ∉ l) (h2 : t + 1 ∉ l) : CM H1 t X N g := ⟨(f.2 t 1 h1).trans h.1, fun x hx => (f.2 (t + 1) x h2).trans (h.2 x hx)⟩
/-- what a matching has come to -/
def MJ9 (ar : Int → Int) (L g : Nat → Int) (p : Nat) (H H1 : hp) (x4 x5 : Int) : Prop := x4 = ((fpos ar L g p (x5 - 1).toNat : Nat) : Int) ∧ MU ar L g p (x5 - 1).toNat ∧ BV ar L g p (x5 - 1).toNat (H1.1 367) ∧ PF [366, 367] H H1
theorem m_sp_sg {cn fn s : Int} (h : m_sp cn s) : m_sg cn fn 40 s := by
  unfold m_sp at h
  unfold m_sg
  omega
theorem m_sg_0 {cn fn s : Int} (h : m_sg cn fn 0 s) : m_sg cn fn 40 s := by
  unfold m_sg at *
  omega
theorem FS_sp {ar : Int → Int} {ok : Int → Prop} {cn : Int} {L a : Nat → Int} {p kl e i : Nat} (h : FS ar ok cn L a p kl e i) (hi : i < kl) : m_sp cn (L i) := by
  obtain ⟨kk, m, -, t2, -⟩ := h
  have := tm_ok t2 0 (by omega)
  rw [Nat.add_zero] at this
  exact this

/-! Rewriter.matchRule -/
set_option maxRecDepth 100000 in
theorem qb_matchRule_cut {X : rx} {ar : Int → Int} {cn fn : Int} {g : Nat → Int} {N : Nat} {L : Nat → Int} {kl e : Nat} {d : Nat} (hd : 2 ≤ d) {H : hp} (hI : Inv H) {t n : Nat} {u m : Nat} {a : Int} (ht : isT t n) (hu : isT u m) (ha : -2147483648 ≤ a ∧ a ≤ 2147483647) (ha0 : 0 ≤ a) (htc : t + 1 < 366 ∨ 368 ≤ t) (huc : u + 1 < 366 ∨ 368 ≤ u) (hl8 : H.1 t 1 = ((kl + 1 : Nat) : Int)) (hl9 : ∀ x : Nat, 1 ≤ x → x ≤ kl → H.1 (t + 1) x = kcd X (L (x - 1))) (hu9 : CM H u X N g) (hK : ∀ s, m_sg cn fn 40 s → KF9 X s ∧ aC (kcd X s) = ar s) (hF : FS ar (m_sg cn fn 0) cn L g (a + 1).toNat kl e 0) (hN9 : e ≤ N ∧ kl ≤ 39) (he9 : e ≤ 400) (har : ∀ s, 1000 ≤ s → ar s = 0) : ∀ w : Nat, (∀ (H1 : hp), Inv H1 → fq [(366, 5)] [367] false H H1 → ∀ (x4 : Int) (x5 : Int) , (-2147483648 ≤ x4 ∧ x4 ≤ 2147483647) → (-2147483648 ≤ x5 ∧ x5 ≤ 2147483647) → (1 ≤ x5 ∧ x5 ≤ kl + 1) → (MJ9 ar L g (a + 1).toNat H H1 x4 x5) → (((1000 - x5).toNat) < w) → hG (zs zK) d mt_95 8 [(0, .inr (.inr 366)), (1, .inr (.inr t)), (2, .inr (.inr u)), (3, .inl a), (4, .inl x4), (5, .inl x5)] [] H1 (fun r9 H9 => ∃ z : Int, r9 = some (.inl z) ∧ ((-2147483648 ≤ z ∧ z ≤ 2147483647)) ∧ Inv H9 ∧ fq [(366, 5)] [367] false H H9 ∧ (∃ w0 : Nat, fitR ar L g kl (a + 1).toNat kl = (z, w0) ∧ (z = 2 → H9.1 366 5 = (w0 : Int)) ∧ (z = 0 → BV ar L g (a + 1).toNat kl (H9.1 367)) ∧ PF [366, 367] H H9))) := by
  intro w
  induction w with
  | zero => exact fun _ _ _ _ _ _ _ _ _ h => absurd h (Nat.not_lt_zero _)
  | succ w ih =>
    intro H1 hI1 hf1 x4 x5 hx4 hx5 hi0 hi1 hw
    have htb := ht.2.2.2.2
    have hub := hu.2.2.2.2
    obtain ⟨Q9, hQ9⟩ : ∃ Q9 : Option zv → hp → Prop, Q9 = (fun r9 H9 => ∃ z : Int, r9 = some (.inl z) ∧ ((-2147483648 ≤ z ∧ z ≤ 2147483647)) ∧ Inv H9 ∧ fq [(366, 5)] [367] false H H9 ∧ (∃ w0 : Nat, fitR ar L g kl (a + 1).toNat kl = (z, w0) ∧ (z = 2 → H9.1 366 5 = (w0 : Int)) ∧ (z = 0 → BV ar L g (a + 1).toNat kl (H9.1 367)) ∧ PF [366, 367] H H9)) := ⟨_, rfl⟩
    rw [← hQ9]
    obtain ⟨hpo, hmu, hbv, hpf⟩ := id hi1
    have eS : H1.1 t 1 = H.1 t 1 := hpf.2 t 1 (by simp; omega)
    have eU : H1.1 u 1 = H.1 u 1 := hpf.2 u 1 (by simp; omega)
    have hu91 := hu9.1
    refine k_run 2 (pc' := 11) (l' := [(0, .inr (.inr 366)), (1, .inr (.inr t)), (2, .inr (.inr u)), (3, .inl a), (4, .inl x4), (5, .inl x5)]) (st' := [.inr (.inr t), .inl x5]) rfl ?_
    refine k_get (a := t) (x := (kTo t n)) (v := .inl (H1.1 t 1)) rfl rfl ht.1 (iT0 ht) rfl rfl rfl ?_
    have g1 : 0 ≤ (H1.1 t 1) ∧ (H1.1 t 1) ≤ n := kn hI1 ht.1 1
    refine k_run 0 (pc' := 14) (l' := [(0, .inr (.inr 366)), (1, .inr (.inr t)), (2, .inr (.inr u)), (3, .inl a), (4, .inl x4), (5, .inl x5)]) (st' := [.inl (H1.1 t 1), .inl x5]) rfl ?_
    refine h_ige (off := 111) (t := 125) rfl rfl (by omega) (by omega) (fun c2 => ?_) (fun c2 => ?_)
    · refine k_run 0 (pc' := 125) (l' := [(0, .inr (.inr 366)), (1, .inr (.inr t)), (2, .inr (.inr u)), (3, .inl a), (4, .inl x4), (5, .inl x5)]) (st' := []) rfl ?_
      refine k_run 1 (pc' := 126) (l' := [(0, .inr (.inr 366)), (1, .inr (.inr t)), (2, .inr (.inr u)), (3, .inl a), (4, .inl x4), (5, .inl x5)]) (st' := [.inl 0]) rfl ?_
      refine h_reti (x := 0) rfl rfl ?_
      rw [hQ9]
      exact ⟨_, rfl, (by omega), hI1, hf1, (by first | (exfalso; omega) | exact ⟨0, (by have q9 := fit_0 (ar := ar) (L := L) (g := g) (p := (a + 1).toNat) (kl := kl) (by rw [show kl = (x5 - 1).toNat by omega]; exact hmu); exact q9), (fun q9 => absurd q9 (by decide)), (fun _ => by rw [show kl = (x5 - 1).toNat by omega]; exact hbv), hpf⟩)⟩
    · refine k_run 0 (pc' := 17) (l' := [(0, .inr (.inr 366)), (1, .inr (.inr t)), (2, .inr (.inr u)), (3, .inl a), (4, .inl x4), (5, .inl x5)]) (st' := []) rfl ?_
      refine k_run 1 (pc' := 18) (l' := [(0, .inr (.inr 366)), (1, .inr (.inr t)), (2, .inr (.inr u)), (3, .inl a), (4, .inl x4), (5, .inl x5)]) (st' := [.inr (.inr t)]) rfl ?_
      refine k_get (a := t) (x := (kTo t n)) (v := .inr (.inr (t + 1))) rfl rfl ht.1 (iT0 ht) rfl rfl rfl ?_
      refine k_run 0 (pc' := 21) (l' := [(0, .inr (.inr 366)), (1, .inr (.inr t)), (2, .inr (.inr u)), (3, .inl a), (4, .inl x4), (5, .inl x5)]) (st' := [.inr (.inr (t + 1))]) rfl ?_
      refine k_run 1 (pc' := 23) (l' := [(0, .inr (.inr 366)), (1, .inr (.inr t)), (2, .inr (.inr u)), (3, .inl a), (4, .inl x4), (5, .inl x5)]) (st' := [.inl x5, .inr (.inr (t + 1))]) rfl ?_
      refine k_ild (c := (t + 1)) (j := (x5).toNat) (i := x5) (x := (kTc n)) rfl ht.2.1 (iT1 ht) rfl (by omega) (by omega) (by omega) ?_
      have g3 : -2147483648 ≤ (H1.1 (t + 1) (x5).toNat) ∧ (H1.1 (t + 1) (x5).toNat) ≤ 2147483647 := kn hI1 ht.2.1 (x5).toNat
      refine k_run 0 (pc' := 24) (l' := [(0, .inr (.inr 366)), (1, .inr (.inr t)), (2, .inr (.inr u)), (3, .inl a), (4, .inl x4), (5, .inl x5)]) (st' := [.inl (H1.1 (t + 1) (x5).toNat)]) rfl ?_
      have hyk : (x5 - 1).toNat < kl := by omega
      obtain ⟨hFy, hge⟩ := FS_all hF har he9 (i := (x5 - 1).toNat) (by omega) hmu
      have hlt := FS_lt hFy hyk
      have hsp := FS_sp hFy hyk
      have eW : H1.1 (t + 1) x5.toNat = kcd X (L (x5 - 1).toNat) := by rw [hpf.2 (t + 1) _ (by simp; omega), hl9 x5.toNat (by omega) (by omega), show x5.toNat - 1 = (x5 - 1).toNat by omega]
      obtain ⟨kf1, -⟩ := hK _ (m_sp_sg hsp)
      have kf3 := kf1
      unfold KF9 at kf3
      rw [← eW] at kf3
      unfold m_sp at hsp
      have hx4 : x4.toNat < N := by omega
      refine k_run 3 (pc' := 29) (l' := [(0, .inr (.inr 366)), (1, .inr (.inr t)), (2, .inr (.inr u)), (3, .inl a), (4, .inl x4), (5, .inl x5), (6, .inl (H1.1 (t + 1) (x5).toNat))]) (st' := [.inl x4, .inr (.inr u)]) rfl ?_
      refine h_cv (i := 41) (j := 51) (b := u) (M' := mt_51) (xs := [.inl x4]) (rest := []) rfl rfl rfl rfl (by rw [zs_K hu.1 (iT0 hu)]; rfl) rfl (Nat.le_of_ble_eq_true rfl) (Nat.le_of_ble_eq_true rfl) (by omega) (q_Term_codeAt (by omega) hI1 hu (by omega) (by omega)) ?_
      rintro _ _ ⟨z10, rfl, g4, hx9, rfl⟩
      refine k_run 0 (pc' := 32) (l' := [(0, .inr (.inr 366)), (1, .inr (.inr t)), (2, .inr (.inr u)), (3, .inl a), (4, .inl x4), (5, .inl x5), (6, .inl (H1.1 (t + 1) (x5).toNat))]) (st' := [.inl z10]) rfl ?_
      have eG : z10 = kcd X (g x4.toNat) := by rw [hx9, hpf.2 (u + 1) _ (by simp; omega), hu9.2 _ hx4]
      obtain ⟨kf2, -⟩ := hK _ (m_sg_0 (show m_sg cn fn 0 (g x4.toNat) from by rw [show x4.toNat = fpos ar L g (a + 1).toNat (x5 - 1).toNat by omega]; exact hlt.2))
      have kf4 := kf2
      unfold KF9 at kf4
      rw [← eG] at kf4
      have hij : z10 = H1.1 (t + 1) x5.toNat ↔ g x4.toNat = L (x5 - 1).toNat := by rw [eG, eW]; exact KF_inj kf2 kf1
      refine k_run 2 (pc' := 36) (l' := [(0, .inr (.inr 366)), (1, .inr (.inr t)), (2, .inr (.inr u)), (3, .inl a), (4, .inl x4), (5, .inl x5), (6, .inl (H1.1 (t + 1) (x5).toNat)), (7, .inl z10)]) (st' := [.inl (H1.1 (t + 1) (x5).toNat)]) rfl ?_
      refine h_cs (i := 48) (j := 50) (M' := mt_50) (xs := [.inl (H1.1 (t + 1) (x5).toNat)]) (rest := []) rfl rfl rfl rfl rfl (Nat.le_of_ble_eq_true rfl) (Nat.le_of_ble_eq_true rfl) (by omega) (q_Term_indexOf (by omega)  (by omega)) ?_
      rintro _ _ ⟨z17, rfl, g11, hx16, rfl⟩
      refine k_run 0 (pc' := 39) (l' := [(0, .inr (.inr 366)), (1, .inr (.inr t)), (2, .inr (.inr u)), (3, .inl a), (4, .inl x4), (5, .inl x5), (6, .inl (H1.1 (t + 1) (x5).toNat)), (7, .inl z10)]) (st' := [.inl z17]) rfl ?_
      refine k_run 2 (pc' := 43) (l' := [(0, .inr (.inr 366)), (1, .inr (.inr t)), (2, .inr (.inr u)), (3, .inl a), (4, .inl x4), (5, .inl x5), (6, .inl (H1.1 (t + 1) (x5).toNat)), (7, .inl z10), (8, .inl z17)]) (st' := [.inl (H1.1 (t + 1) (x5).toNat)]) rfl ?_
      refine h_cs (i := 45) (j := 49) (M' := mt_49) (xs := [.inl (H1.1 (t + 1) (x5).toNat)]) (rest := []) rfl rfl rfl rfl rfl (Nat.le_of_ble_eq_true rfl) (Nat.le_of_ble_eq_true rfl) (by omega) (q_Term_kindOf (by omega)  (by omega)) ?_
      rintro _ _ ⟨z24, rfl, g18, hx23, rfl⟩
      refine k_run 0 (pc' := 46) (l' := [(0, .inr (.inr 366)), (1, .inr (.inr t)), (2, .inr (.inr u)), (3, .inl a), (4, .inl x4), (5, .inl x5), (6, .inl (H1.1 (t + 1) (x5).toNat)), (7, .inl z10), (8, .inl z17)]) (st' := [.inl z24]) rfl ?_
      refine k_run 1 (pc' := 47) (l' := [(0, .inr (.inr 366)), (1, .inr (.inr t)), (2, .inr (.inr u)), (3, .inl a), (4, .inl x4), (5, .inl x5), (6, .inl (H1.1 (t + 1) (x5).toNat)), (7, .inl z10), (8, .inl z17)]) (st' := [.inl 3, .inl z24]) rfl ?_
      refine h_ine (off := 33) (t := 80) rfl rfl (by omega) (by decide) (fun c25 => ?_) (fun c25 => ?_)
      · refine k_run 0 (pc' := 80) (l' := [(0, .inr (.inr 366)), (1, .inr (.inr t)), (2, .inr (.inr u)), (3, .inl a), (4, .inl x4), (5, .inl x5), (6, .inl (H1.1 (t + 1) (x5).toNat)), (7, .inl z10), (8, .inl z17)]) (st' := []) rfl ?_
        refine k_run 2 (pc' := 84) (l' := [(0, .inr (.inr 366)), (1, .inr (.inr t)), (2, .inr (.inr u)), (3, .inl a), (4, .inl x4), (5, .inl x5), (6, .inl (H1.1 (t + 1) (x5).toNat)), (7, .inl z10), (8, .inl z17)]) (st' := [.inl (H1.1 (t + 1) (x5).toNat), .inl z10]) rfl ?_
        refine h_ine (off := 9) (t := 93) rfl rfl (by omega) (by omega) (fun c26 => ?_) (fun c26 => ?_)
        · refine k_run 0 (pc' := 93) (l' := [(0, .inr (.inr 366)), (1, .inr (.inr t)), (2, .inr (.inr u)), (3, .inl a), (4, .inl x4), (5, .inl x5), (6, .inl (H1.1 (t + 1) (x5).toNat)), (7, .inl z10), (8, .inl z17)]) (st' := []) rfl ?_
          refine k_run 1 (pc' := 95) (l' := [(0, .inr (.inr 366)), (1, .inr (.inr t)), (2, .inr (.inr u)), (3, .inl a), (4, .inl x4), (5, .inl x5), (6, .inl (H1.1 (t + 1) (x5).toNat)), (7, .inl z10), (8, .inl z17)]) (st' := [.inl z10]) rfl ?_
          refine h_zne (off := 5) (t := 100) rfl rfl (by omega) (fun c27 => ?_) (fun c27 => ?_)
          · refine k_run 0 (pc' := 100) (l' := [(0, .inr (.inr 366)), (1, .inr (.inr t)), (2, .inr (.inr u)), (3, .inl a), (4, .inl x4), (5, .inl x5), (6, .inl (H1.1 (t + 1) (x5).toNat)), (7, .inl z10), (8, .inl z17)]) (st' := []) rfl ?_
            refine k_run 1 (pc' := 102) (l' := [(0, .inr (.inr 366)), (1, .inr (.inr t)), (2, .inr (.inr u)), (3, .inl a), (4, .inl x4), (5, .inl x5), (6, .inl (H1.1 (t + 1) (x5).toNat)), (7, .inl z10), (8, .inl z17)]) (st' := [.inl z10]) rfl ?_
            refine h_cs (i := 45) (j := 49) (M' := mt_49) (xs := [.inl z10]) (rest := []) rfl rfl rfl rfl rfl (Nat.le_of_ble_eq_true rfl) (Nat.le_of_ble_eq_true rfl) (by omega) (q_Term_kindOf (by omega)  (by omega)) ?_
            rintro _ _ ⟨z34, rfl, g28, hx33, rfl⟩
            refine k_run 0 (pc' := 105) (l' := [(0, .inr (.inr 366)), (1, .inr (.inr t)), (2, .inr (.inr u)), (3, .inl a), (4, .inl x4), (5, .inl x5), (6, .inl (H1.1 (t + 1) (x5).toNat)), (7, .inl z10), (8, .inl z17)]) (st' := [.inl z34]) rfl ?_
            refine k_run 1 (pc' := 106) (l' := [(0, .inr (.inr 366)), (1, .inr (.inr t)), (2, .inr (.inr u)), (3, .inl a), (4, .inl x4), (5, .inl x5), (6, .inl (H1.1 (t + 1) (x5).toNat)), (7, .inl z10), (8, .inl z17)]) (st' := [.inl 1, .inl z34]) rfl ?_
            refine h_ieq (off := 11) (t := 117) rfl rfl (by omega) (by decide) (fun c35 => ?_) (fun c35 => ?_)
            · refine k_run 0 (pc' := 117) (l' := [(0, .inr (.inr 366)), (1, .inr (.inr t)), (2, .inr (.inr u)), (3, .inl a), (4, .inl x4), (5, .inl x5), (6, .inl (H1.1 (t + 1) (x5).toNat)), (7, .inl z10), (8, .inl z17)]) (st' := []) rfl ?_
              refine k_run 1 (pc' := 118) (l' := [(0, .inr (.inr 366)), (1, .inr (.inr t)), (2, .inr (.inr u)), (3, .inl a), (4, .inl x4), (5, .inl x5), (6, .inl (H1.1 (t + 1) (x5).toNat)), (7, .inl z10), (8, .inl z17)]) (st' := [.inl 3]) rfl ?_
              refine h_reti (x := 3) rfl rfl ?_
              rw [hQ9]
              exact ⟨_, rfl, (by omega), hI1, hf1, (by first | (exfalso; omega) | exact ⟨0, fit_3 hmu hyk (show x4.toNat = fpos ar L g (a + 1).toNat (x5 - 1).toNat by omega) (by omega) (by omega) (by omega), (fun q9 => absurd q9 (by decide)), (fun q9 => absurd q9 (by decide)), hpf⟩)⟩
            · refine k_run 0 (pc' := 109) (l' := [(0, .inr (.inr 366)), (1, .inr (.inr t)), (2, .inr (.inr u)), (3, .inl a), (4, .inl x4), (5, .inl x5), (6, .inl (H1.1 (t + 1) (x5).toNat)), (7, .inl z10), (8, .inl z17)]) (st' := []) rfl ?_
              refine k_run 2 (pc' := 112) (l' := [(0, .inr (.inr 366)), (1, .inr (.inr t)), (2, .inr (.inr u)), (3, .inl a), (4, .inl x4), (5, .inl x5), (6, .inl (H1.1 (t + 1) (x5).toNat)), (7, .inl z10), (8, .inl z17)]) (st' := [.inl x4, .inr (.inr 366)]) rfl ?_
              refine k_puti (z := x4) (a := 366) (x := kx_366) rfl rfl rfl (by decide) (by decide) rfl rfl rfl rfl hI1 (by omega) (show -2147483648 ≤ x4 ∧ x4 ≤ 2147483647 by omega) (fun H36 hI37 hw38 hv39 => ?_)
              have hf40 : fq [(366, 5)] [367] false H H36 := fq_w hf1 hw38 (fpo (by decide) rfl)
              refine k_run 0 (pc' := 115) (l' := [(0, .inr (.inr 366)), (1, .inr (.inr t)), (2, .inr (.inr u)), (3, .inl a), (4, .inl x4), (5, .inl x5), (6, .inl (H1.1 (t + 1) (x5).toNat)), (7, .inl z10), (8, .inl z17)]) (st' := []) rfl ?_
              refine k_run 1 (pc' := 116) (l' := [(0, .inr (.inr 366)), (1, .inr (.inr t)), (2, .inr (.inr u)), (3, .inl a), (4, .inl x4), (5, .inl x5), (6, .inl (H1.1 (t + 1) (x5).toNat)), (7, .inl z10), (8, .inl z17)]) (st' := [.inl 2]) rfl ?_
              refine h_reti (x := 2) rfl rfl ?_
              rw [hQ9]
              exact ⟨_, rfl, (by omega), hI37, hf40, (by first | (exfalso; omega) | exact ⟨x4.toNat, fit_2 hmu hyk (show x4.toNat = fpos ar L g (a + 1).toNat (x5 - 1).toNat by omega) (by omega) (by omega) (by omega), (fun _ => by have q9 := hv39; omega), (fun q9 => absurd q9 (by decide)), PF_tr hpf (PF_w hw38 (by simp))⟩)⟩
          · refine k_run 0 (pc' := 98) (l' := [(0, .inr (.inr 366)), (1, .inr (.inr t)), (2, .inr (.inr u)), (3, .inl a), (4, .inl x4), (5, .inl x5), (6, .inl (H1.1 (t + 1) (x5).toNat)), (7, .inl z10), (8, .inl z17)]) (st' := []) rfl ?_
            refine k_run 1 (pc' := 99) (l' := [(0, .inr (.inr 366)), (1, .inr (.inr t)), (2, .inr (.inr u)), (3, .inl a), (4, .inl x4), (5, .inl x5), (6, .inl (H1.1 (t + 1) (x5).toNat)), (7, .inl z10), (8, .inl z17)]) (st' := [.inl 1]) rfl ?_
            refine h_reti (x := 1) rfl rfl ?_
            rw [hQ9]
            exact ⟨_, rfl, (by omega), hI1, hf1, (by first | (exfalso; omega) | exact ⟨0, fit_1 hmu hyk (show x4.toNat = fpos ar L g (a + 1).toNat (x5 - 1).toNat by omega) (by omega) (by omega) (by have q9 : z_shr z10 10 = 0 := (by rw [show z10 = 0 by omega]; exact z_shr_0); omega), (fun q9 => absurd q9 (by decide)), (fun q9 => absurd q9 (by decide)), hpf⟩)⟩
        · refine k_run 0 (pc' := 87) (l' := [(0, .inr (.inr 366)), (1, .inr (.inr t)), (2, .inr (.inr u)), (3, .inl a), (4, .inl x4), (5, .inl x5), (6, .inl (H1.1 (t + 1) (x5).toNat)), (7, .inl z10), (8, .inl z17)]) (st' := []) rfl ?_
          refine k_run 4 (pc' := 8) (l' := [(0, .inr (.inr 366)), (1, .inr (.inr t)), (2, .inr (.inr u)), (3, .inl a), (4, .inl (x4 + 1)), (5, .inl (x5 + 1)), (6, .inl (H1.1 (t + 1) (x5).toNat)), (7, .inl z10), (8, .inl z17)]) (st' := []) rfl ?_
          refine h_loc [0, 1, 2, 3, 4, 5] rfl ?_
          rw [hQ9]
          exact ih H1 hI1 hf1 (x4 + 1) (x5 + 1) (by omega) (by omega) (by omega) (by unfold MJ9; rw [show (x5 + 1 - 1).toNat = (x5 - 1).toNat + 1 by omega]; exact ⟨by have q9 := fpos_c (ar := ar) (L := L) (g := g) (p := (a + 1).toNat) (y := (x5 - 1).toNat) (i := x4.toNat) (by omega) (by omega); omega, MU_s hmu (Or.inr (by rw [show fpos ar L g (a + 1).toNat (x5 - 1).toNat = x4.toNat by omega]; omega)), BV_c hbv (by omega), hpf⟩) (by omega)
      · refine k_run 0 (pc' := 50) (l' := [(0, .inr (.inr 366)), (1, .inr (.inr t)), (2, .inr (.inr u)), (3, .inl a), (4, .inl x4), (5, .inl x5), (6, .inl (H1.1 (t + 1) (x5).toNat)), (7, .inl z10), (8, .inl z17)]) (st' := []) rfl ?_
        refine k_run 3 (pc' := 56) (l' := [(0, .inr (.inr 366)), (1, .inr (.inr t)), (2, .inr (.inr u)), (3, .inl a), (4, .inl x4), (5, .inl x5), (6, .inl (H1.1 (t + 1) (x5).toNat)), (7, .inl z10), (8, .inl z17)]) (st' := [.inr (.inr 367), .inl z17]) rfl ?_
        refine k_alen (c := 367) (x := kx_367) rfl rfl (by decide) rfl ?_
        refine k_run 0 (pc' := 57) (l' := [(0, .inr (.inr 366)), (1, .inr (.inr t)), (2, .inr (.inr u)), (3, .inl a), (4, .inl x4), (5, .inl x5), (6, .inl (H1.1 (t + 1) (x5).toNat)), (7, .inl z10), (8, .inl z17)]) (st' := [.inl 60, .inl z17]) rfl ?_
        refine h_ige (off := 23) (t := 80) rfl rfl (by omega) (by decide) (fun c41 => ?_) (fun c41 => ?_)
        · refine k_run 0 (pc' := 80) (l' := [(0, .inr (.inr 366)), (1, .inr (.inr t)), (2, .inr (.inr u)), (3, .inl a), (4, .inl x4), (5, .inl x5), (6, .inl (H1.1 (t + 1) (x5).toNat)), (7, .inl z10), (8, .inl z17)]) (st' := []) rfl ?_
          refine k_run 2 (pc' := 84) (l' := [(0, .inr (.inr 366)), (1, .inr (.inr t)), (2, .inr (.inr u)), (3, .inl a), (4, .inl x4), (5, .inl x5), (6, .inl (H1.1 (t + 1) (x5).toNat)), (7, .inl z10), (8, .inl z17)]) (st' := [.inl (H1.1 (t + 1) (x5).toNat), .inl z10]) rfl ?_
          refine h_ine (off := 9) (t := 93) rfl rfl (by omega) (by omega) (fun c42 => ?_) (fun c42 => ?_)
          · refine k_run 0 (pc' := 93) (l' := [(0, .inr (.inr 366)), (1, .inr (.inr t)), (2, .inr (.inr u)), (3, .inl a), (4, .inl x4), (5, .inl x5), (6, .inl (H1.1 (t + 1) (x5).toNat)), (7, .inl z10), (8, .inl z17)]) (st' := []) rfl ?_
            refine k_run 1 (pc' := 95) (l' := [(0, .inr (.inr 366)), (1, .inr (.inr t)), (2, .inr (.inr u)), (3, .inl a), (4, .inl x4), (5, .inl x5), (6, .inl (H1.1 (t + 1) (x5).toNat)), (7, .inl z10), (8, .inl z17)]) (st' := [.inl z10]) rfl ?_
            refine h_zne (off := 5) (t := 100) rfl rfl (by omega) (fun c43 => ?_) (fun c43 => ?_)
            · refine k_run 0 (pc' := 100) (l' := [(0, .inr (.inr 366)), (1, .inr (.inr t)), (2, .inr (.inr u)), (3, .inl a), (4, .inl x4), (5, .inl x5), (6, .inl (H1.1 (t + 1) (x5).toNat)), (7, .inl z10), (8, .inl z17)]) (st' := []) rfl ?_
              refine k_run 1 (pc' := 102) (l' := [(0, .inr (.inr 366)), (1, .inr (.inr t)), (2, .inr (.inr u)), (3, .inl a), (4, .inl x4), (5, .inl x5), (6, .inl (H1.1 (t + 1) (x5).toNat)), (7, .inl z10), (8, .inl z17)]) (st' := [.inl z10]) rfl ?_
              refine h_cs (i := 45) (j := 49) (M' := mt_49) (xs := [.inl z10]) (rest := []) rfl rfl rfl rfl rfl (Nat.le_of_ble_eq_true rfl) (Nat.le_of_ble_eq_true rfl) (by omega) (q_Term_kindOf (by omega)  (by omega)) ?_
              rintro _ _ ⟨z50, rfl, g44, hx49, rfl⟩
              refine k_run 0 (pc' := 105) (l' := [(0, .inr (.inr 366)), (1, .inr (.inr t)), (2, .inr (.inr u)), (3, .inl a), (4, .inl x4), (5, .inl x5), (6, .inl (H1.1 (t + 1) (x5).toNat)), (7, .inl z10), (8, .inl z17)]) (st' := [.inl z50]) rfl ?_
              refine k_run 1 (pc' := 106) (l' := [(0, .inr (.inr 366)), (1, .inr (.inr t)), (2, .inr (.inr u)), (3, .inl a), (4, .inl x4), (5, .inl x5), (6, .inl (H1.1 (t + 1) (x5).toNat)), (7, .inl z10), (8, .inl z17)]) (st' := [.inl 1, .inl z50]) rfl ?_
              refine h_ieq (off := 11) (t := 117) rfl rfl (by omega) (by decide) (fun c51 => ?_) (fun c51 => ?_)
              · refine k_run 0 (pc' := 117) (l' := [(0, .inr (.inr 366)), (1, .inr (.inr t)), (2, .inr (.inr u)), (3, .inl a), (4, .inl x4), (5, .inl x5), (6, .inl (H1.1 (t + 1) (x5).toNat)), (7, .inl z10), (8, .inl z17)]) (st' := []) rfl ?_
                refine k_run 1 (pc' := 118) (l' := [(0, .inr (.inr 366)), (1, .inr (.inr t)), (2, .inr (.inr u)), (3, .inl a), (4, .inl x4), (5, .inl x5), (6, .inl (H1.1 (t + 1) (x5).toNat)), (7, .inl z10), (8, .inl z17)]) (st' := [.inl 3]) rfl ?_
                refine h_reti (x := 3) rfl rfl ?_
                rw [hQ9]
                exact ⟨_, rfl, (by omega), hI1, hf1, (by first | (exfalso; omega) | exact ⟨0, fit_3 hmu hyk (show x4.toNat = fpos ar L g (a + 1).toNat (x5 - 1).toNat by omega) (by omega) (by omega) (by omega), (fun q9 => absurd q9 (by decide)), (fun q9 => absurd q9 (by decide)), hpf⟩)⟩
              · refine k_run 0 (pc' := 109) (l' := [(0, .inr (.inr 366)), (1, .inr (.inr t)), (2, .inr (.inr u)), (3, .inl a), (4, .inl x4), (5, .inl x5), (6, .inl (H1.1 (t + 1) (x5).toNat)), (7, .inl z10), (8, .inl z17)]) (st' := []) rfl ?_
                refine k_run 2 (pc' := 112) (l' := [(0, .inr (.inr 366)), (1, .inr (.inr t)), (2, .inr (.inr u)), (3, .inl a), (4, .inl x4), (5, .inl x5), (6, .inl (H1.1 (t + 1) (x5).toNat)), (7, .inl z10), (8, .inl z17)]) (st' := [.inl x4, .inr (.inr 366)]) rfl ?_
                refine k_puti (z := x4) (a := 366) (x := kx_366) rfl rfl rfl (by decide) (by decide) rfl rfl rfl rfl hI1 (by omega) (show -2147483648 ≤ x4 ∧ x4 ≤ 2147483647 by omega) (fun H52 hI53 hw54 hv55 => ?_)
                have hf56 : fq [(366, 5)] [367] false H H52 := fq_w hf1 hw54 (fpo (by decide) rfl)
                refine k_run 0 (pc' := 115) (l' := [(0, .inr (.inr 366)), (1, .inr (.inr t)), (2, .inr (.inr u)), (3, .inl a), (4, .inl x4), (5, .inl x5), (6, .inl (H1.1 (t + 1) (x5).toNat)), (7, .inl z10), (8, .inl z17)]) (st' := []) rfl ?_
                refine k_run 1 (pc' := 116) (l' := [(0, .inr (.inr 366)), (1, .inr (.inr t)), (2, .inr (.inr u)), (3, .inl a), (4, .inl x4), (5, .inl x5), (6, .inl (H1.1 (t + 1) (x5).toNat)), (7, .inl z10), (8, .inl z17)]) (st' := [.inl 2]) rfl ?_
                refine h_reti (x := 2) rfl rfl ?_
                rw [hQ9]
                exact ⟨_, rfl, (by omega), hI53, hf56, (by first | (exfalso; omega) | exact ⟨x4.toNat, fit_2 hmu hyk (show x4.toNat = fpos ar L g (a + 1).toNat (x5 - 1).toNat by omega) (by omega) (by omega) (by omega), (fun _ => by have q9 := hv55; omega), (fun q9 => absurd q9 (by decide)), PF_tr hpf (PF_w hw54 (by simp))⟩)⟩
            · refine k_run 0 (pc' := 98) (l' := [(0, .inr (.inr 366)), (1, .inr (.inr t)), (2, .inr (.inr u)), (3, .inl a), (4, .inl x4), (5, .inl x5), (6, .inl (H1.1 (t + 1) (x5).toNat)), (7, .inl z10), (8, .inl z17)]) (st' := []) rfl ?_
              refine k_run 1 (pc' := 99) (l' := [(0, .inr (.inr 366)), (1, .inr (.inr t)), (2, .inr (.inr u)), (3, .inl a), (4, .inl x4), (5, .inl x5), (6, .inl (H1.1 (t + 1) (x5).toNat)), (7, .inl z10), (8, .inl z17)]) (st' := [.inl 1]) rfl ?_
              refine h_reti (x := 1) rfl rfl ?_
              rw [hQ9]
              exact ⟨_, rfl, (by omega), hI1, hf1, (by first | (exfalso; omega) | exact ⟨0, fit_1 hmu hyk (show x4.toNat = fpos ar L g (a + 1).toNat (x5 - 1).toNat by omega) (by omega) (by omega) (by have q9 : z_shr z10 10 = 0 := (by rw [show z10 = 0 by omega]; exact z_shr_0); omega), (fun q9 => absurd q9 (by decide)), (fun q9 => absurd q9 (by decide)), hpf⟩)⟩
          · refine k_run 0 (pc' := 87) (l' := [(0, .inr (.inr 366)), (1, .inr (.inr t)), (2, .inr (.inr u)), (3, .inl a), (4, .inl x4), (5, .inl x5), (6, .inl (H1.1 (t + 1) (x5).toNat)), (7, .inl z10), (8, .inl z17)]) (st' := []) rfl ?_
            refine k_run 4 (pc' := 8) (l' := [(0, .inr (.inr 366)), (1, .inr (.inr t)), (2, .inr (.inr u)), (3, .inl a), (4, .inl (x4 + 1)), (5, .inl (x5 + 1)), (6, .inl (H1.1 (t + 1) (x5).toNat)), (7, .inl z10), (8, .inl z17)]) (st' := []) rfl ?_
            refine h_loc [0, 1, 2, 3, 4, 5] rfl ?_
            rw [hQ9]
            exact ih H1 hI1 hf1 (x4 + 1) (x5 + 1) (by omega) (by omega) (by omega) (by unfold MJ9; rw [show (x5 + 1 - 1).toNat = (x5 - 1).toNat + 1 by omega]; exact ⟨by have q9 := fpos_c (ar := ar) (L := L) (g := g) (p := (a + 1).toNat) (y := (x5 - 1).toNat) (i := x4.toNat) (by omega) (by omega); omega, MU_s hmu (Or.inr (by rw [show fpos ar L g (a + 1).toNat (x5 - 1).toNat = x4.toNat by omega]; omega)), BV_c hbv (by omega), hpf⟩) (by omega)
        · refine k_run 0 (pc' := 60) (l' := [(0, .inr (.inr 366)), (1, .inr (.inr t)), (2, .inr (.inr u)), (3, .inl a), (4, .inl x4), (5, .inl x5), (6, .inl (H1.1 (t + 1) (x5).toNat)), (7, .inl z10), (8, .inl z17)]) (st' := []) rfl ?_
          refine k_run 4 (pc' := 68) (l' := [(0, .inr (.inr 366)), (1, .inr (.inr t)), (2, .inr (.inr u)), (3, .inl a), (4, .inl x4), (5, .inl x5), (6, .inl (H1.1 (t + 1) (x5).toNat)), (7, .inl z10), (8, .inl z17)]) (st' := [.inl x4, .inl z17, .inr (.inr 367)]) rfl ?_
          refine k_ist (z := x4) (c := 367) (j := (z17).toNat) (i := z17) (x := kx_367) rfl rfl (by decide) (by decide) rfl (by decide) (by omega) (by omega) hI1 (by omega) (show -2147483648 ≤ x4 ∧ x4 ≤ 2147483647 by omega) (fun H57 hI58 hw59 hv60 => ?_)
          have hf61 : fq [(366, 5)] [367] false H H57 := fq_w hf1 hw59 (fpa (by decide) rfl)
          refine k_run 0 (pc' := 69) (l' := [(0, .inr (.inr 366)), (1, .inr (.inr t)), (2, .inr (.inr u)), (3, .inl a), (4, .inl x4), (5, .inl x5), (6, .inl (H1.1 (t + 1) (x5).toNat)), (7, .inl z10), (8, .inl z17)]) (st' := []) rfl ?_
          obtain ⟨-, kb, hkb1, hkb2, hkb3⟩ := FS_var hFy hyk (by omega) har he9
          have hkb4 : tm aC tr9 (H57.1 (u + 1)) kb x4.toNat 1 := tm_code (g := g) (by rw [show x4.toNat = fpos ar L g (a + 1).toNat (x5 - 1).toNat by omega]; exact hkb1) (fun x _ hx => by rw [hw59.2 _ _ (fun q9 => by have := q9.1; omega), hpf.2 (u + 1) _ (by simp; omega), hu9.2 _ (by omega)]) (fun s9 h9 => (hK _ (m_sg_0 h9)).2)
          have eU2 : H57.1 u 1 = H1.1 u 1 := hw59.2 _ _ (fun q9 => by have := q9.1; omega)
          refine k_run 2 (pc' := 72) (l' := [(0, .inr (.inr 366)), (1, .inr (.inr t)), (2, .inr (.inr u)), (3, .inl a), (4, .inl x4), (5, .inl x5), (6, .inl (H1.1 (t + 1) (x5).toNat)), (7, .inl z10), (8, .inl z17)]) (st' := [.inl x4, .inr (.inr u)]) rfl ?_
          refine h_cv (i := 75) (j := 53) (b := u) (M' := mt_53) (xs := [.inl x4]) (rest := []) rfl rfl rfl rfl (by rw [zs_K hu.1 (iT0 hu)]; rfl) rfl (Nat.le_of_ble_eq_true rfl) (Nat.le_of_ble_eq_true rfl) (by omega) (qb_behind (by omega) hI58 hu (by omega) (k := kb) (by omega) hkb4) ?_
          rintro _ _ ⟨z68, rfl, g62, rfl⟩
          refine k_run 0 (pc' := 75) (l' := [(0, .inr (.inr 366)), (1, .inr (.inr t)), (2, .inr (.inr u)), (3, .inl a), (4, .inl x4), (5, .inl x5), (6, .inl (H1.1 (t + 1) (x5).toNat)), (7, .inl z10), (8, .inl z17)]) (st' := [.inl z68]) rfl ?_
          refine k_run 4 (pc' := 8) (l' := [(0, .inr (.inr 366)), (1, .inr (.inr t)), (2, .inr (.inr u)), (3, .inl a), (4, .inl z68), (5, .inl (x5 + 1)), (6, .inl (H1.1 (t + 1) (x5).toNat)), (7, .inl z10), (8, .inl z17)]) (st' := []) rfl ?_
          refine h_loc [0, 1, 2, 3, 4, 5] rfl ?_
          rw [hQ9]
          exact ih H57 hI58 hf61 z68 (x5 + 1) (by omega) (by omega) (by omega) (by unfold MJ9; rw [show (x5 + 1 - 1).toNat = (x5 - 1).toNat + 1 by omega]; refine ⟨by rw [hkb2]; omega, MU_s hmu (Or.inl (by omega)), ?_, PF_tr hpf (PF_w hw59 (by simp))⟩; rw [show H57.1 367 = up (H1.1 367) (L (x5 - 1).toNat - 1000).toNat ((x4.toNat : Nat) : Int) from funext (fun j => by by_cases q9 : j = (L (x5 - 1).toNat - 1000).toNat; { rw [q9, up_eq]; have q8 := hv60; rw [show (z17).toNat = (L (x5 - 1).toNat - 1000).toNat by omega] at q8; omega }; { rw [up_ne _ _ q9]; exact hw59.2 _ _ (fun q8 => q9 (by have := q8.2; omega)) })]; exact BV_v hbv (by omega) (by omega)) (by omega)
set_option maxRecDepth 100000 in
theorem qb_matchRule {X : rx} {ar : Int → Int} {cn fn : Int} {g : Nat → Int} {N : Nat} {L : Nat → Int} {kl e : Nat} {d : Nat} (hd : 2 ≤ d) {H : hp} (hI : Inv H) {t n : Nat} {u m : Nat} {a : Int} (ht : isT t n) (hu : isT u m) (ha : -2147483648 ≤ a ∧ a ≤ 2147483647) (ha0 : 0 ≤ a) (htc : t + 1 < 366 ∨ 368 ≤ t) (huc : u + 1 < 366 ∨ 368 ≤ u) (hl8 : H.1 t 1 = ((kl + 1 : Nat) : Int)) (hl9 : ∀ x : Nat, 1 ≤ x → x ≤ kl → H.1 (t + 1) x = kcd X (L (x - 1))) (hu9 : CM H u X N g) (hK : ∀ s, m_sg cn fn 40 s → KF9 X s ∧ aC (kcd X s) = ar s) (hF : FS ar (m_sg cn fn 0) cn L g (a + 1).toNat kl e 0) (hN9 : e ≤ N ∧ kl ≤ 39) (he9 : e ≤ 400) (har : ∀ s, 1000 ≤ s → ar s = 0) : hG (zs zK) d mt_95 0 (zargs 0 [.inr (.inr 366), .inr (.inr t), .inr (.inr u), .inl a]) [] H (fun r9 H9 => ∃ z : Int, r9 = some (.inl z) ∧ ((-2147483648 ≤ z ∧ z ≤ 2147483647)) ∧ Inv H9 ∧ fq [(366, 5)] [367] false H H9 ∧ (∃ w0 : Nat, fitR ar L g kl (a + 1).toNat kl = (z, w0) ∧ (z = 2 → H9.1 366 5 = (w0 : Int)) ∧ (z = 0 → BV ar L g (a + 1).toNat kl (H9.1 367)) ∧ PF [366, 367] H H9)) := by
  have htb := ht.2.2.2.2
  have hub := hu.2.2.2.2
  have ha9 : (a + 1).toNat ≤ e := by obtain ⟨kk9, m9, -, -, q9⟩ := hF; have q8 : (a + 1).toNat + kk9 = e := q9; omega
  obtain ⟨Q9, hQ9⟩ : ∃ Q9 : Option zv → hp → Prop, Q9 = (fun r9 H9 => ∃ z : Int, r9 = some (.inl z) ∧ ((-2147483648 ≤ z ∧ z ≤ 2147483647)) ∧ Inv H9 ∧ fq [(366, 5)] [367] false H H9 ∧ (∃ w0 : Nat, fitR ar L g kl (a + 1).toNat kl = (z, w0) ∧ (z = 2 → H9.1 366 5 = (w0 : Int)) ∧ (z = 0 → BV ar L g (a + 1).toNat kl (H9.1 367)) ∧ PF [366, 367] H H9)) := ⟨_, rfl⟩
  rw [← hQ9]
  refine k_run 0 (pc' := 0) (l' := [(0, .inr (.inr 366)), (1, .inr (.inr t)), (2, .inr (.inr u)), (3, .inl a)]) (st' := []) rfl ?_
  refine k_run 6 (pc' := 8) (l' := [(0, .inr (.inr 366)), (1, .inr (.inr t)), (2, .inr (.inr u)), (3, .inl a), (4, .inl (a + 1)), (5, .inl 1)]) (st' := []) rfl ?_
  rw [hQ9]
  exact (qb_matchRule_cut hd hI ht hu ha ha0 htc huc hl8 hl9 hu9 hK hF hN9 he9 har _) H hI (fq_rf _ _ _ _) (a + 1) (1 : Int) (by omega) (by decide) (by omega) ⟨by show a + 1 = (((a + 1).toNat : Nat) : Int); omega, MU_0, BV_0, PF_rf _ _⟩ (Nat.lt_succ_self _)

/-- but for what matching writes, nothing changed -/
def PGw (H H1 : hp) : Prop := (∀ c j, ¬ (c = 366 ∧ j = 4) → H1.2 c j = H.2 c j) ∧ ∀ c j, c ∉ [366, 367] → H1.1 c j = H.1 c j
theorem PG_rf (H : hp) : PGw H H := ⟨fun _ _ _ => rfl, fun _ _ _ => rfl⟩
theorem PG_o {H H1 : hp} (w : wr2 366 4 H H1) : PGw H H1 := ⟨w.2, fun c j _ => by rw [w.1]⟩
theorem PG_tr {H H1 H2 : hp} (h : PGw H H1) (g : PGw H1 H2) : PGw H H2 := ⟨fun c j q => (g.1 c j q).trans (h.1 c j q), fun c j q => (g.2 c j q).trans (h.2 c j q)⟩
theorem PG_PF {H H1 : hp} (h : PF [366, 367] H H1) : PGw H H1 := ⟨fun c j _ => by rw [h.1], h.2⟩
/-- the rules of the class are rows -/
def CR (H : hp) (X : rx) (R : Nat) : Prop := (H.1 7 5 = (R : Int) ∧ R ≤ 40) ∧ ER H ∧ ∀ r : Nat, r < R → (SD H (25 + 6 * r + 1) X (4 * r + 100) ∧ SD H (25 + 6 * r + 3) X (4 * r + 101)) ∧ H.1 (25 + 6 * r) 4 + 100 = X (4 * r + 100) 1
theorem CR_PG {H H1 : hp} {X : rx} {R : Nat} (h : CR H X R) (g : PGw H H1) : CR H1 X R := by
  obtain ⟨⟨h1, h2⟩, ⟨h3, h4⟩, h5⟩ := h
  refine ⟨⟨(g.2 7 5 (by simp)).trans h1, h2⟩, ⟨fun r hr => (g.1 23 r (by omega)).trans (h3 r hr), fun r hr => (g.1 24 r (by omega)).trans (h4 r hr)⟩, fun r hr => ?_⟩
  obtain ⟨⟨⟨a1, a2⟩, b1, b2⟩, c1⟩ := h5 r hr
  have e : ∀ c j, c < 366 → H1.1 c j = H.1 c j := fun c j hc => g.2 c j (by simp; omega)
  exact ⟨⟨⟨(e _ _ (by omega)).trans a1, fun j hj => (e _ _ (by omega)).trans (a2 j hj)⟩, (e _ _ (by omega)).trans b1, fun j hj => (e _ _ (by omega)).trans (b2 j hj)⟩, by rw [e _ _ (by omega)]; exact c1⟩

/-! Rewriter.matchCall -/
set_option maxRecDepth 100000 in
theorem qb_matchCall_cut {X : rx} {ar : Int → Int} {cn fn : Int} {g : Nat → Int} {N : Nat} {R k : Nat} {d : Nat} (hd : 3 ≤ d) {H : hp} (hI : Inv H) {t n : Nat} {a : Int} (ht : isT t n) (ha : -2147483648 ≤ a ∧ a ≤ 2147483647) (ha0 : 0 ≤ a) (htc : t + 1 < 366 ∨ 368 ≤ t) (hu9 : CM H t X N g) (hK : ∀ s, m_sg cn fn 40 s → KF9 X s ∧ aC (kcd X s) = ar s) (hC9 : CR H X R) (hR9 : ∀ r : Nat, r < R → RW9r ar cn fn X r) (hX0 : X 0 6 = (R : Int)) (hk9 : tm ar (m_sg cn fn 0) g k a.toNat 1) (hN9 : a.toNat + k ≤ N ∧ N ≤ 400) (hgc : 100 ≤ g a.toNat ∧ g a.toNat < 1000) (har : ∀ s, 1000 ≤ s → ar s = 0) : ∀ w : Nat, (∀ (H1 : hp), Inv H1 → fq [(366, 4), (366, 5)] [367] false H H1 → ∀ (x3 : Int) (x4 : Int) (x5 : Int) , (-2147483648 ≤ x3 ∧ x3 ≤ 2147483647) → (-2147483648 ≤ x4 ∧ x4 ≤ 2147483647) → (-2147483648 ≤ x5 ∧ x5 ≤ 2147483647) → (0 ≤ x5 ∧ x5 ≤ R ∧ x4 + 100 = g a.toNat) → (PGw H H1 ∧ H1.2 366 4 = 368 ∧ mtR ar X g a.toNat R R = mtR ar X g a.toNat R (R - x5.toNat)) → (((1000 - x5).toNat) < w) → hG (zs zK) d mt_94 33 [(0, .inr (.inr 366)), (1, .inr (.inr t)), (2, .inl a), (3, .inl x3), (4, .inl x4), (5, .inl x5)] [] H1 (fun r9 H9 => ∃ z : Int, r9 = some (.inl z) ∧ ((-2147483648 ≤ z ∧ z ≤ 2147483647)) ∧ Inv H9 ∧ fq [(366, 4), (366, 5)] [367] false H H9 ∧ (∃ w0 r : Nat, mR ar X g a.toNat = (z, w0, r) ∧ (z = 2 → H9.1 366 5 = (w0 : Int)) ∧ (z = 0 → BV ar (LL X r) g (a.toNat + 1) (kL X r) (H9.1 367) ∧ H9.2 366 4 = 25 + 6 * r + 3 ∧ r < R) ∧ (z = 1 → H9.2 366 4 = 368) ∧ PGw H H9))) := by
  intro w
  induction w with
  | zero => exact fun _ _ _ _ _ _ _ _ _ _ _ h => absurd h (Nat.not_lt_zero _)
  | succ w ih =>
    intro H1 hI1 hf1 x3 x4 x5 hx3 hx4 hx5 hi0 hi1 hw
    have htb := ht.2.2.2.2
    obtain ⟨Q9, hQ9⟩ : ∃ Q9 : Option zv → hp → Prop, Q9 = (fun r9 H9 => ∃ z : Int, r9 = some (.inl z) ∧ ((-2147483648 ≤ z ∧ z ≤ 2147483647)) ∧ Inv H9 ∧ fq [(366, 4), (366, 5)] [367] false H H9 ∧ (∃ w0 r : Nat, mR ar X g a.toNat = (z, w0, r) ∧ (z = 2 → H9.1 366 5 = (w0 : Int)) ∧ (z = 0 → BV ar (LL X r) g (a.toNat + 1) (kL X r) (H9.1 367) ∧ H9.2 366 4 = 25 + 6 * r + 3 ∧ r < R) ∧ (z = 1 → H9.2 366 4 = 368) ∧ PGw H H9)) := ⟨_, rfl⟩
    rw [← hQ9]
    have hC1 := CR_PG hC9 hi1.1
    have hU1 : CM H1 t X N g := ⟨(hi1.1.2 t 1 (by simp; omega)).trans hu9.1, fun x hx => (hi1.1.2 (t + 1) x (by simp; omega)).trans (hu9.2 x hx)⟩
    have hC11 := hC1.1
    have hU11 := hU1.1
    refine k_run 4 (pc' := 42) (l' := [(0, .inr (.inr 366)), (1, .inr (.inr t)), (2, .inl a), (3, .inl x3), (4, .inl x4), (5, .inl x5)]) (st' := [.inl (H1.1 7 5), .inl x5]) rfl ?_
    have g28 : 0 ≤ (H1.1 7 5) ∧ (H1.1 7 5) ≤ 40 := kn (x := kx_7) hI1 rfl 5
    have e29 : (H1.1 7 5) = (H.1 7 5) := (hf1.1 7 5 rfl (by decide) (by decide)).1
    refine h_ige (off := 71) (t := 113) rfl rfl (by omega) (by omega) (fun c30 => ?_) (fun c30 => ?_)
    · refine k_run 0 (pc' := 113) (l' := [(0, .inr (.inr 366)), (1, .inr (.inr t)), (2, .inl a), (3, .inl x3), (4, .inl x4), (5, .inl x5)]) (st' := []) rfl ?_
      refine k_run 1 (pc' := 114) (l' := [(0, .inr (.inr 366)), (1, .inr (.inr t)), (2, .inl a), (3, .inl x3), (4, .inl x4), (5, .inl x5)]) (st' := [.inl 1]) rfl ?_
      refine h_reti (x := 1) rfl rfl ?_
      rw [hQ9]
      exact ⟨_, rfl, (by omega), hI1, hf1, (by first | (exfalso; omega) | exact ⟨0, 0, (by unfold mR nR; rw [show X 0 6 = (R : Int) from hX0, Int.toNat_natCast, hi1.2.2, show x5.toNat = R by omega]; exact mt_end), (fun q9 => absurd q9 (by decide)), (fun q9 => absurd q9 (by decide)), (fun _ => hi1.2.1), hi1.1⟩)⟩
    · refine k_run 0 (pc' := 45) (l' := [(0, .inr (.inr 366)), (1, .inr (.inr t)), (2, .inl a), (3, .inl x3), (4, .inl x4), (5, .inl x5)]) (st' := []) rfl ?_
      refine k_run 4 (pc' := 54) (l' := [(0, .inr (.inr 366)), (1, .inr (.inr t)), (2, .inl a), (3, .inl x3), (4, .inl x4), (5, .inl x5)]) (st' := [.inl x5, .inr (.inr 23)]) rfl ?_
      refine k_ald (c := 23) (j := (x5).toNat) (i := x5) (x := kx_23) rfl rfl (by decide) rfl (by decide) (by omega) (by omega) hI1 (fun h31 => ?_)
      obtain ⟨t32, et34⟩ : ∃ t9, t9 = H1.2 23 (x5).toNat := ⟨_, rfl⟩
      rw [← et34] at h31 ⊢
      have k33 : isE t32 := h31
      refine k_run 0 (pc' := 55) (l' := [(0, .inr (.inr 366)), (1, .inr (.inr t)), (2, .inl a), (3, .inl x3), (4, .inl x4), (5, .inl x5)]) (st' := [.inr (.inr t32)]) rfl ?_
      have hEl : t32 = 25 + 6 * x5.toNat := et34.trans (hC1.2.1.1 _ (by omega))
      obtain ⟨⟨sdl, sdr⟩, hown⟩ := hC1.2.2 x5.toNat (by omega)
      have hRr := hR9 x5.toNat (by omega)
      have eow : H1.1 t32 4 = H1.1 (25 + 6 * x5.toNat) 4 := by rw [hEl]
      refine k_run 2 (pc' := 59) (l' := [(0, .inr (.inr 366)), (1, .inr (.inr t)), (2, .inl a), (3, .inl x3), (4, .inl x4), (5, .inl x5), (6, .inr (.inr t32))]) (st' := [.inr (.inr t32)]) rfl ?_
      refine k_get (a := t32) (x := (kEo t32)) (v := .inl (H1.1 t32 4)) rfl rfl k33.1 (iE0 k33) rfl rfl rfl ?_
      have g35 : -2147483648 ≤ (H1.1 t32 4) ∧ (H1.1 t32 4) ≤ 2147483647 := kn hI1 k33.1 4
      have e36 : (H1.1 t32 4) = (H.1 t32 4) := (hf1.2 rfl t32 4 (iEt k33)).1
      refine k_run 0 (pc' := 62) (l' := [(0, .inr (.inr 366)), (1, .inr (.inr t)), (2, .inl a), (3, .inl x3), (4, .inl x4), (5, .inl x5), (6, .inr (.inr t32))]) (st' := [.inl (H1.1 t32 4)]) rfl ?_
      refine k_run 1 (pc' := 64) (l' := [(0, .inr (.inr 366)), (1, .inr (.inr t)), (2, .inl a), (3, .inl x3), (4, .inl x4), (5, .inl x5), (6, .inr (.inr t32))]) (st' := [.inl x4, .inl (H1.1 t32 4)]) rfl ?_
      refine h_ine (off := 17) (t := 81) rfl rfl (by omega) (by omega) (fun c37 => ?_) (fun c37 => ?_)
      · refine k_run 0 (pc' := 81) (l' := [(0, .inr (.inr 366)), (1, .inr (.inr t)), (2, .inl a), (3, .inl x3), (4, .inl x4), (5, .inl x5), (6, .inr (.inr t32))]) (st' := []) rfl ?_
        refine k_run 3 (pc' := 86) (l' := [(0, .inr (.inr 366)), (1, .inr (.inr t)), (2, .inl a), (3, .inl x3), (4, .inl x4), (5, .inl x5), (6, .inr (.inr t32)), (7, .inl 3)]) (st' := [.inl 3]) rfl ?_
        refine h_zne (off := 12) (t := 98) rfl rfl (by decide) (fun _ => ?_) (fun c => absurd c (by decide))
        refine k_run 0 (pc' := 98) (l' := [(0, .inr (.inr 366)), (1, .inr (.inr t)), (2, .inl a), (3, .inl x3), (4, .inl x4), (5, .inl x5), (6, .inr (.inr t32)), (7, .inl 3)]) (st' := []) rfl ?_
        refine k_run 2 (pc' := 101) (l' := [(0, .inr (.inr 366)), (1, .inr (.inr t)), (2, .inl a), (3, .inl x3), (4, .inl x4), (5, .inl x5), (6, .inr (.inr t32)), (7, .inl 3)]) (st' := [.inl 3, .inl 3]) rfl ?_
        refine h_ieq (off := 6) (t := 107) rfl rfl (by decide) (by decide) (fun _ => ?_) (fun c => absurd c (by decide))
        refine k_run 0 (pc' := 107) (l' := [(0, .inr (.inr 366)), (1, .inr (.inr t)), (2, .inl a), (3, .inl x3), (4, .inl x4), (5, .inl x5), (6, .inr (.inr t32)), (7, .inl 3)]) (st' := []) rfl ?_
        refine k_run 2 (pc' := 33) (l' := [(0, .inr (.inr 366)), (1, .inr (.inr t)), (2, .inl a), (3, .inl x3), (4, .inl x4), (5, .inl (x5 + 1)), (6, .inr (.inr t32)), (7, .inl 3)]) (st' := []) rfl ?_
        refine h_loc [0, 1, 2, 3, 4, 5] rfl ?_
        rw [hQ9]
        exact ih H1 hI1 hf1 x3 x4 (x5 + 1) (by omega) (by omega) (by omega) (by omega) (by rw [show (x5 + 1).toNat = x5.toNat + 1 by omega]; exact ⟨hi1.1, hi1.2.1, hi1.2.2.trans (mt_skip (by omega) (fun q9 => by have q8 := q9.1; omega))⟩) (by omega)
      · refine k_run 0 (pc' := 67) (l' := [(0, .inr (.inr 366)), (1, .inr (.inr t)), (2, .inl a), (3, .inl x3), (4, .inl x4), (5, .inl x5), (6, .inr (.inr t32))]) (st' := []) rfl ?_
        refine k_run 2 (pc' := 70) (l' := [(0, .inr (.inr 366)), (1, .inr (.inr t)), (2, .inl a), (3, .inl x3), (4, .inl x4), (5, .inl x5), (6, .inr (.inr t32))]) (st' := [.inr (.inr t32), .inr (.inr 366)]) rfl ?_
        refine k_get (a := t32) (x := (kEo t32)) (v := .inr (.inr (t32 + 1))) rfl rfl k33.1 (iE0 k33) rfl rfl rfl ?_
        refine k_run 0 (pc' := 73) (l' := [(0, .inr (.inr 366)), (1, .inr (.inr t)), (2, .inl a), (3, .inl x3), (4, .inl x4), (5, .inl x5), (6, .inr (.inr t32))]) (st' := [.inr (.inr (t32 + 1)), .inr (.inr 366)]) rfl ?_
        refine k_run 1 (pc' := 74) (l' := [(0, .inr (.inr 366)), (1, .inr (.inr t)), (2, .inl a), (3, .inl x3), (4, .inl x4), (5, .inl x5), (6, .inr (.inr t32))]) (st' := [.inr (.inr t), .inr (.inr (t32 + 1)), .inr (.inr 366)]) rfl ?_
        have hg1 : X (4 * x5.toNat + 100) 1 = g a.toNat := by omega
        obtain ⟨hF0, hk39, hkl⟩ := FS_0 hRr hg1 hk9
        have hsl : H1.1 (25 + 6 * x5.toNat + 1) 1 = ((kL X x5.toNat + 1 : Nat) : Int) ∧ ∀ x : Nat, 1 ≤ x → x ≤ kL X x5.toNat → H1.1 (25 + 6 * x5.toNat + 1 + 1) x = kcd X (LL X x5.toNat (x - 1)) := ⟨by rw [sdl.1, hkl], fun x hx hx2 => by rw [sdl.2 x (by omega)]; unfold LL; rw [show x - 1 + 2 = x + 1 by omega]⟩
        refine k_run 1 (pc' := 75) (l' := [(0, .inr (.inr 366)), (1, .inr (.inr t)), (2, .inl a), (3, .inl x3), (4, .inl x4), (5, .inl x5), (6, .inr (.inr t32))]) (st' := [.inl a, .inr (.inr t), .inr (.inr (t32 + 1)), .inr (.inr 366)]) rfl ?_
        refine h_cv (i := 68) (j := 95) (b := 366) (M' := mt_95) (xs := [.inl a, .inr (.inr t), .inr (.inr (t32 + 1))]) (rest := []) rfl rfl rfl rfl (zs_K (x := kx_366) rfl (by decide)) rfl (Nat.le_of_ble_eq_true rfl) (Nat.le_of_ble_eq_true rfl) (by omega) (qb_matchRule (by omega) hI1 (iEl k33) ht (by omega) (L := LL X x5.toNat) (kl := kL X x5.toNat) (e := a.toNat + k) (by omega) (by omega) (by omega) (by rw [hEl]; exact hsl.1) (fun x hx hx2 => by rw [hEl]; exact hsl.2 x hx hx2) hU1 hK (by rw [show (a + 1).toNat = a.toNat + 1 by omega]; exact hF0) ⟨by omega, by omega⟩ (by omega) har) ?_
        rintro _ H39 ⟨z44, rfl, g38, hI40, hq41, hx43⟩
        have hf45 : fq [(366, 4), (366, 5)] [367] false H H39 := fq_t hf1 hq41 rfl rfl rfl
        refine k_run 0 (pc' := 78) (l' := [(0, .inr (.inr 366)), (1, .inr (.inr t)), (2, .inl a), (3, .inl x3), (4, .inl x4), (5, .inl x5), (6, .inr (.inr t32))]) (st' := [.inl z44]) rfl ?_
        refine k_run 3 (pc' := 86) (l' := [(0, .inr (.inr 366)), (1, .inr (.inr t)), (2, .inl a), (3, .inl x3), (4, .inl x4), (5, .inl x5), (6, .inr (.inr t32)), (7, .inl z44)]) (st' := [.inl z44]) rfl ?_
        refine h_zne (off := 12) (t := 98) rfl rfl (by omega) (fun c46 => ?_) (fun c46 => ?_)
        · refine k_run 0 (pc' := 98) (l' := [(0, .inr (.inr 366)), (1, .inr (.inr t)), (2, .inl a), (3, .inl x3), (4, .inl x4), (5, .inl x5), (6, .inr (.inr t32)), (7, .inl z44)]) (st' := []) rfl ?_
          refine k_run 2 (pc' := 101) (l' := [(0, .inr (.inr 366)), (1, .inr (.inr t)), (2, .inl a), (3, .inl x3), (4, .inl x4), (5, .inl x5), (6, .inr (.inr t32)), (7, .inl z44)]) (st' := [.inl 3, .inl z44]) rfl ?_
          refine h_ieq (off := 6) (t := 107) rfl rfl (by omega) (by decide) (fun c47 => ?_) (fun c47 => ?_)
          · refine k_run 0 (pc' := 107) (l' := [(0, .inr (.inr 366)), (1, .inr (.inr t)), (2, .inl a), (3, .inl x3), (4, .inl x4), (5, .inl x5), (6, .inr (.inr t32)), (7, .inl z44)]) (st' := []) rfl ?_
            refine k_run 2 (pc' := 33) (l' := [(0, .inr (.inr 366)), (1, .inr (.inr t)), (2, .inl a), (3, .inl x3), (4, .inl x4), (5, .inl (x5 + 1)), (6, .inr (.inr t32)), (7, .inl z44)]) (st' := []) rfl ?_
            refine h_loc [0, 1, 2, 3, 4, 5] rfl ?_
            rw [hQ9]
            exact ih H39 hI40 hf45 x3 x4 (x5 + 1) (by omega) (by omega) (by omega) (by omega) (by obtain ⟨w9, f1, f2, f3, f4⟩ := hx43; rw [show (x5 + 1).toNat = x5.toNat + 1 by omega]; exact ⟨PG_tr hi1.1 (PG_PF f4), by rw [f4.1]; exact hi1.2.1, hi1.2.2.trans (mt_skip (by omega) (fun q9 => q9.2 (by unfold fR; rw [show a.toNat + 1 = (a + 1).toNat by omega, f1]; exact (by omega : _ = (3 : Int)))))⟩) (by omega)
          · refine k_run 0 (pc' := 104) (l' := [(0, .inr (.inr 366)), (1, .inr (.inr t)), (2, .inl a), (3, .inl x3), (4, .inl x4), (5, .inl x5), (6, .inr (.inr t32)), (7, .inl z44)]) (st' := []) rfl ?_
            refine k_run 1 (pc' := 106) (l' := [(0, .inr (.inr 366)), (1, .inr (.inr t)), (2, .inl a), (3, .inl x3), (4, .inl x4), (5, .inl x5), (6, .inr (.inr t32)), (7, .inl z44)]) (st' := [.inl z44]) rfl ?_
            refine h_reti (x := z44) rfl rfl ?_
            rw [hQ9]
            exact ⟨_, rfl, (by omega), hI40, hf45, (by first | (exfalso; omega) | exact (by obtain ⟨w9, f1, f2, f3, f4⟩ := hx43; exact ⟨w9, x5.toNat, (by unfold mR nR; rw [show X 0 6 = (R : Int) from hX0, Int.toNat_natCast, hi1.2.2, mt_hit (by omega) ⟨hg1, by unfold fR; rw [show a.toNat + 1 = (a + 1).toNat by omega, f1]; exact (by omega : _ ≠ (3 : Int))⟩]; unfold fR; rw [show a.toNat + 1 = (a + 1).toNat by omega, f1]), f2, (fun q9 => absurd q9 (by omega)), (fun _ => by rw [f4.1]; exact hi1.2.1), PG_tr hi1.1 (PG_PF f4)⟩))⟩
        · refine k_run 0 (pc' := 89) (l' := [(0, .inr (.inr 366)), (1, .inr (.inr t)), (2, .inl a), (3, .inl x3), (4, .inl x4), (5, .inl x5), (6, .inr (.inr t32)), (7, .inl z44)]) (st' := []) rfl ?_
          refine k_run 2 (pc' := 92) (l' := [(0, .inr (.inr 366)), (1, .inr (.inr t)), (2, .inl a), (3, .inl x3), (4, .inl x4), (5, .inl x5), (6, .inr (.inr t32)), (7, .inl z44)]) (st' := [.inr (.inr t32), .inr (.inr 366)]) rfl ?_
          refine k_get (a := t32) (x := (kEo t32)) (v := .inr (.inr (t32 + 3))) rfl rfl k33.1 (iE0 k33) rfl rfl rfl ?_
          refine k_run 0 (pc' := 95) (l' := [(0, .inr (.inr 366)), (1, .inr (.inr t)), (2, .inl a), (3, .inl x3), (4, .inl x4), (5, .inl x5), (6, .inr (.inr t32)), (7, .inl z44)]) (st' := [.inr (.inr (t32 + 3)), .inr (.inr 366)]) rfl ?_
          refine k_putrx (t := (t32 + 3)) (a := 366) (x := kx_366) rfl rfl rfl (by decide) (by decide) rfl rfl (fun g9 e9 => congrArg Value.ref e9) rfl rfl hI40 (show ∃ n, isT (t32 + 3) n from ⟨_, (iEr k33)⟩) (fun H48 hI49 hw50 hv51 => ?_)
          have hf52 : fq [(366, 4), (366, 5)] [367] false H H48 := fq_r hf45 hw50 (fpo (by decide) rfl)
          refine k_run 0 (pc' := 98) (l' := [(0, .inr (.inr 366)), (1, .inr (.inr t)), (2, .inl a), (3, .inl x3), (4, .inl x4), (5, .inl x5), (6, .inr (.inr t32)), (7, .inl z44)]) (st' := []) rfl ?_
          refine k_run 2 (pc' := 101) (l' := [(0, .inr (.inr 366)), (1, .inr (.inr t)), (2, .inl a), (3, .inl x3), (4, .inl x4), (5, .inl x5), (6, .inr (.inr t32)), (7, .inl z44)]) (st' := [.inl 3, .inl z44]) rfl ?_
          refine h_ieq (off := 6) (t := 107) rfl rfl (by omega) (by decide) (fun c53 => ?_) (fun c53 => ?_)
          · refine k_run 0 (pc' := 107) (l' := [(0, .inr (.inr 366)), (1, .inr (.inr t)), (2, .inl a), (3, .inl x3), (4, .inl x4), (5, .inl x5), (6, .inr (.inr t32)), (7, .inl z44)]) (st' := []) rfl ?_
            refine k_run 2 (pc' := 33) (l' := [(0, .inr (.inr 366)), (1, .inr (.inr t)), (2, .inl a), (3, .inl x3), (4, .inl x4), (5, .inl (x5 + 1)), (6, .inr (.inr t32)), (7, .inl z44)]) (st' := []) rfl ?_
            refine h_loc [0, 1, 2, 3, 4, 5] rfl ?_
            rw [hQ9]
            exact ih H48 hI49 hf52 x3 x4 (x5 + 1) (by omega) (by omega) (by omega) (by omega) (by exfalso; omega) (by omega)
          · refine k_run 0 (pc' := 104) (l' := [(0, .inr (.inr 366)), (1, .inr (.inr t)), (2, .inl a), (3, .inl x3), (4, .inl x4), (5, .inl x5), (6, .inr (.inr t32)), (7, .inl z44)]) (st' := []) rfl ?_
            refine k_run 1 (pc' := 106) (l' := [(0, .inr (.inr 366)), (1, .inr (.inr t)), (2, .inl a), (3, .inl x3), (4, .inl x4), (5, .inl x5), (6, .inr (.inr t32)), (7, .inl z44)]) (st' := [.inl z44]) rfl ?_
            refine h_reti (x := z44) rfl rfl ?_
            rw [hQ9]
            exact ⟨_, rfl, (by omega), hI49, hf52, (by first | (exfalso; omega) | exact (by obtain ⟨w9, f1, f2, f3, f4⟩ := hx43; exact ⟨w9, x5.toNat, (by unfold mR nR; rw [show X 0 6 = (R : Int) from hX0, Int.toNat_natCast, hi1.2.2, mt_hit (by omega) ⟨hg1, by unfold fR; rw [show a.toNat + 1 = (a + 1).toNat by omega, f1]; exact (by omega : _ ≠ (3 : Int))⟩]; unfold fR; rw [show a.toNat + 1 = (a + 1).toNat by omega, f1]), (fun q9 => absurd q9 (by omega)), (fun _ => ⟨by rw [show a.toNat + 1 = (a + 1).toNat by omega, hw50.1]; exact f3 (by omega), hv51.trans (by rw [hEl]), by omega⟩), (fun q9 => absurd q9 (by omega)), PG_tr (PG_tr hi1.1 (PG_PF f4)) (PG_o hw50)⟩))⟩
set_option maxRecDepth 100000 in
theorem qb_matchCall {X : rx} {ar : Int → Int} {cn fn : Int} {g : Nat → Int} {N : Nat} {R k : Nat} {d : Nat} (hd : 3 ≤ d) {H : hp} (hI : Inv H) {t n : Nat} {a : Int} (ht : isT t n) (ha : -2147483648 ≤ a ∧ a ≤ 2147483647) (ha0 : 0 ≤ a) (htc : t + 1 < 366 ∨ 368 ≤ t) (hu9 : CM H t X N g) (hK : ∀ s, m_sg cn fn 40 s → KF9 X s ∧ aC (kcd X s) = ar s) (hC9 : CR H X R) (hR9 : ∀ r : Nat, r < R → RW9r ar cn fn X r) (hX0 : X 0 6 = (R : Int)) (hk9 : tm ar (m_sg cn fn 0) g k a.toNat 1) (hN9 : a.toNat + k ≤ N ∧ N ≤ 400) (hgc : 100 ≤ g a.toNat ∧ g a.toNat < 1000) (har : ∀ s, 1000 ≤ s → ar s = 0) : hG (zs zK) d mt_94 0 (zargs 0 [.inr (.inr 366), .inr (.inr t), .inl a]) [] H (fun r9 H9 => ∃ z : Int, r9 = some (.inl z) ∧ ((-2147483648 ≤ z ∧ z ≤ 2147483647)) ∧ Inv H9 ∧ fq [(366, 4), (366, 5)] [367] false H H9 ∧ (∃ w0 r : Nat, mR ar X g a.toNat = (z, w0, r) ∧ (z = 2 → H9.1 366 5 = (w0 : Int)) ∧ (z = 0 → BV ar (LL X r) g (a.toNat + 1) (kL X r) (H9.1 367) ∧ H9.2 366 4 = 25 + 6 * r + 3 ∧ r < R) ∧ (z = 1 → H9.2 366 4 = 368) ∧ PGw H H9)) := by
  have htb := ht.2.2.2.2
  have hu91 := hu9.1
  have hkp : 0 < k := tm_le hk9
  obtain ⟨Q9, hQ9⟩ : ∃ Q9 : Option zv → hp → Prop, Q9 = (fun r9 H9 => ∃ z : Int, r9 = some (.inl z) ∧ ((-2147483648 ≤ z ∧ z ≤ 2147483647)) ∧ Inv H9 ∧ fq [(366, 4), (366, 5)] [367] false H H9 ∧ (∃ w0 r : Nat, mR ar X g a.toNat = (z, w0, r) ∧ (z = 2 → H9.1 366 5 = (w0 : Int)) ∧ (z = 0 → BV ar (LL X r) g (a.toNat + 1) (kL X r) (H9.1 367) ∧ H9.2 366 4 = 25 + 6 * r + 3 ∧ r < R) ∧ (z = 1 → H9.2 366 4 = 368) ∧ PGw H H9)) := ⟨_, rfl⟩
  rw [← hQ9]
  refine k_run 0 (pc' := 0) (l' := [(0, .inr (.inr 366)), (1, .inr (.inr t)), (2, .inl a)]) (st' := []) rfl ?_
  refine k_run 3 (pc' := 5) (l' := [(0, .inr (.inr 366)), (1, .inr (.inr t)), (2, .inl a)]) (st' := [.inr (.inr 368), .inr (.inr 366)]) rfl ?_
  refine k_putrx (t := 368) (a := 366) (x := kx_366) rfl rfl rfl (by decide) (by decide) rfl rfl (fun g9 e9 => congrArg Value.ref e9) rfl rfl hI (show ∃ n, isT 368 n from ⟨_, iT_368⟩) (fun H1 hI2 hw3 hv4 => ?_)
  have hf5 : fq [(366, 4), (366, 5)] [367] false H H1 := fq_r (fq_rf _ _ _ _) hw3 (fpo (by decide) rfl)
  refine k_run 0 (pc' := 8) (l' := [(0, .inr (.inr 366)), (1, .inr (.inr t)), (2, .inl a)]) (st' := []) rfl ?_
  have eU0 : H1.1 t 1 = H.1 t 1 := by rw [hw3.1]
  refine k_run 2 (pc' := 10) (l' := [(0, .inr (.inr 366)), (1, .inr (.inr t)), (2, .inl a)]) (st' := [.inl a, .inr (.inr t)]) rfl ?_
  refine h_cv (i := 41) (j := 51) (b := t) (M' := mt_51) (xs := [.inl a]) (rest := []) rfl rfl rfl rfl (by rw [zs_K ht.1 (iT0 ht)]; rfl) rfl (Nat.le_of_ble_eq_true rfl) (Nat.le_of_ble_eq_true rfl) (by omega) (q_Term_codeAt (by omega) hI2 ht (by omega) (by omega)) ?_
  rintro _ _ ⟨z12, rfl, g6, hx11, rfl⟩
  refine k_run 0 (pc' := 13) (l' := [(0, .inr (.inr 366)), (1, .inr (.inr t)), (2, .inl a)]) (st' := [.inl z12]) rfl ?_
  have eG : z12 = kcd X (g a.toNat) := by rw [hx11, hw3.1, hu9.2 _ (by omega)]
  have hsg9 : m_sg cn fn 0 (g a.toNat) := by have q9 := tm_ok hk9 0 hkp; rw [Nat.add_zero] at q9; exact q9
  obtain ⟨kf2, -⟩ := hK _ (m_sg_0 hsg9)
  unfold KF9 at kf2
  rw [← eG] at kf2
  refine k_run 2 (pc' := 15) (l' := [(0, .inr (.inr 366)), (1, .inr (.inr t)), (2, .inl a), (3, .inl z12)]) (st' := [.inl z12]) rfl ?_
  refine h_cs (i := 45) (j := 49) (M' := mt_49) (xs := [.inl z12]) (rest := []) rfl rfl rfl rfl rfl (Nat.le_of_ble_eq_true rfl) (Nat.le_of_ble_eq_true rfl) (by omega) (q_Term_kindOf (by omega)  (by omega)) ?_
  rintro _ _ ⟨z19, rfl, g13, hx18, rfl⟩
  refine k_run 0 (pc' := 18) (l' := [(0, .inr (.inr 366)), (1, .inr (.inr t)), (2, .inl a), (3, .inl z12)]) (st' := [.inl z19]) rfl ?_
  refine k_run 1 (pc' := 19) (l' := [(0, .inr (.inr 366)), (1, .inr (.inr t)), (2, .inl a), (3, .inl z12)]) (st' := [.inl 2, .inl z19]) rfl ?_
  refine h_ieq (off := 5) (t := 24) rfl rfl (by omega) (by decide) (fun c20 => ?_) (fun c20 => ?_)
  · refine k_run 0 (pc' := 24) (l' := [(0, .inr (.inr 366)), (1, .inr (.inr t)), (2, .inl a), (3, .inl z12)]) (st' := []) rfl ?_
    refine k_run 1 (pc' := 25) (l' := [(0, .inr (.inr 366)), (1, .inr (.inr t)), (2, .inl a), (3, .inl z12)]) (st' := [.inl z12]) rfl ?_
    refine h_cs (i := 48) (j := 50) (M' := mt_50) (xs := [.inl z12]) (rest := []) rfl rfl rfl rfl rfl (Nat.le_of_ble_eq_true rfl) (Nat.le_of_ble_eq_true rfl) (by omega) (q_Term_indexOf (by omega)  (by omega)) ?_
    rintro _ _ ⟨z27, rfl, g21, hx26, rfl⟩
    refine k_run 0 (pc' := 28) (l' := [(0, .inr (.inr 366)), (1, .inr (.inr t)), (2, .inl a), (3, .inl z12)]) (st' := [.inl z27]) rfl ?_
    refine k_run 3 (pc' := 33) (l' := [(0, .inr (.inr 366)), (1, .inr (.inr t)), (2, .inl a), (3, .inl z12), (4, .inl z27), (5, .inl 0)]) (st' := []) rfl ?_
    rw [hQ9]
    exact (qb_matchCall_cut hd hI ht ha ha0 htc hu9 hK hC9 hR9 hX0 hk9 hN9 hgc har _) H1 hI2 hf5 z12 z27 (0 : Int) (by omega) (by omega) (by decide) (by omega) ⟨PG_o hw3, hv4, rfl⟩ (Nat.lt_succ_self _)
  · refine k_run 0 (pc' := 22) (l' := [(0, .inr (.inr 366)), (1, .inr (.inr t)), (2, .inl a), (3, .inl z12)]) (st' := []) rfl ?_
    refine k_run 1 (pc' := 23) (l' := [(0, .inr (.inr 366)), (1, .inr (.inr t)), (2, .inl a), (3, .inl z12)]) (st' := [.inl 1]) rfl ?_
    refine h_reti (x := 1) rfl rfl ?_
    rw [hQ9]
    exact ⟨_, rfl, (by omega), hI2, hf5, (by first | (exfalso; omega) | exact (by exfalso; omega))⟩
