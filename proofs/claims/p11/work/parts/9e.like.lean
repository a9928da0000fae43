/-! the reference: is a term like a side of a law? -/
def fre (ar : Int → Int) (ok : Int → Prop) (row fa : Nat → Int) (N : Nat) : Prop := ∀ v, v < 60 → fa v = -1 ∨ ∃ b kb : Nat, fa v = b ∧ b + kb ≤ N ∧ tm ar ok row kb b 1
theorem fre_up {ar : Int → Int} {ok : Int → Prop} {row fa : Nat → Int} {N u k v : Nat} (h : fre ar ok row fa N) (hu : u + k ≤ N) (ht : tm ar ok row k u 1) : fre ar ok row (up fa v u) N := by
  intro x hx
  by_cases e : x = v
  · rw [e, up_eq]
    exact Or.inr ⟨u, k, rfl, hu, ht⟩
  · rw [up_ne _ _ e]
    exact h x hx

/-! isLike -/
set_option maxRecDepth 100000 in
theorem m_isLike_cut {zC : Nat → Option zsh} {d : Nat} (hd : 5 ≤ d) {H : hp} {c n p ln i N k V : Nat} {ba root su : Int} {okp : Int → Prop} (hc : zs zC c = some (.inr (.int, n))) (hn : n ≤ 100000) (hcm : c ≠ 1826 ∧ c ∉ [1852, 1853, 1886]) (hP : PWc H) (hT : tm (ma (H.1 1833) (H.1 1830)) (m_sg (H.1 1826 3) (H.1 1826 8) 60) (H.1 1884) N 0 1) (hN : N ≤ 60 ∧ (H.1 1826 93) = N) (hTi : tm (ma (H.1 1833) (H.1 1830)) (m_sg (H.1 1826 3) (H.1 1826 8) 60) (H.1 1884) k i 1) (hik : i + k ≤ N) (hpat : tm (ma (H.1 1833) (H.1 1830)) okp (H.1 c) ln p 1) (hpn : p + ln ≤ n ∧ ln ≤ 60) (hba : ba = 1000 ∨ ba = 2000) (hV : ((H.1 1826 97) = -1 ∧ V ≤ 60) ∨ (0 ≤ (H.1 1826 97) ∧ (H.1 1826 97) ≤ 15 ∧ V ≤ 6)) (hokp : ∀ s, okp s → s < ba ∨ (ba ≤ s ∧ s < ba + V)) (hsu : 0 ≤ su ∧ su ≤ 2) : ∀ w : Nat, (∀ (H1 : hp) (j : Nat), (fr [] [1852, 1853, 1886] H H1) → (j ≤ 60) → (∀ x, x < j → (H1.1 1886) x = -1) → 1000 + (60 - j) < w → hG (zs zC) d mt_239 3 [(0, .inr (.inr 1826)), (1, .inr (.inr c)), (2, .inl (p : Int)), (3, .inl (ln : Int)), (4, .inl ba), (5, .inl (i : Int)), (6, .inl root), (7, .inl su), (8, .inl (j : Int))] [] H1 (fun r9 H2 => (r9 = some (.inl 0) ∨ (r9 = some (.inl 1) ∧ fre (ma (H.1 1833) (H.1 1830)) (m_sg (H.1 1826 3) (H.1 1826 8) 60) (H.1 1884) (H2.1 1886) N)) ∧ fr [] [1852, 1853, 1886] H H2)) ∧ (∀ (H1 : hp) (u : Nat) (z : Nat) (m : Nat) (kk : Nat), (fr [] [1852, 1853, 1886] H H1) → (p ≤ z ∧ z ≤ p + ln) → (tm (ma (H.1 1833) (H.1 1830)) okp (H.1 c) (p + ln - z) z m) → (tm (ma (H.1 1833) (H.1 1830)) (m_sg (H.1 1826 3) (H.1 1826 8) 60) (H.1 1884) kk u m) → (u + kk ≤ N) → (fre (ma (H.1 1833) (H.1 1830)) (m_sg (H.1 1826 3) (H.1 1826 8) 60) (H.1 1884) (H1.1 1886) N) → p + ln - z < w → hG (zs zC) d mt_239 31 [(0, .inr (.inr 1826)), (1, .inr (.inr c)), (2, .inl (p : Int)), (3, .inl (ln : Int)), (4, .inl ba), (6, .inl root), (7, .inl su), (8, .inl (u : Int)), (9, .inl (z : Int))] [] H1 (fun r9 H2 => (r9 = some (.inl 0) ∨ (r9 = some (.inl 1) ∧ fre (ma (H.1 1833) (H.1 1830)) (m_sg (H.1 1826 3) (H.1 1826 8) 60) (H.1 1884) (H2.1 1886) N)) ∧ fr [] [1852, 1853, 1886] H H2)) := by
  intro w
  induction w with
  | zero => exact ⟨fun _ _ _ _ _ h => absurd h (Nat.not_lt_zero _), fun _ _ _ _ _ _ _ _ _ _ _ h => absurd h (Nat.not_lt_zero _)⟩
  | succ w ih =>
    refine ⟨?_, ?_⟩
    · intro H1 j hf hj hz hw
      refine h_rng (fun hrg1 => ?_)
      refine h_run 2 (pc' := 7) (l' := [(0, .inr (.inr 1826)), (1, .inr (.inr c)), (2, .inl (p : Int)), (3, .inl (ln : Int)), (4, .inl ba), (5, .inl (i : Int)), (6, .inl root), (7, .inl su), (8, .inl (j : Int))]) (st' := [.inl 60, .inl (j : Int)]) rfl ?_
      refine h_ige (off := 17) (t := 24) rfl rfl (by omega) (by decide) (fun c2 => ?_) (fun c2 => ?_)
      · refine h_run 4 (pc' := 31) (l' := [(0, .inr (.inr 1826)), (1, .inr (.inr c)), (2, .inl (p : Int)), (3, .inl (ln : Int)), (4, .inl ba), (5, .inl (i : Int)), (6, .inl root), (7, .inl su), (8, .inl (i : Int)), (9, .inl (p : Int))]) (st' := []) rfl ?_
        refine h_loc [0, 1, 2, 3, 4, 6, 7, 8, 9] rfl ?_
        exact ih.2 _ i p (1) (k) hf (by omega) (by rw [show p + ln - p = ln by omega]; exact hpat) hTi (by omega) (fun v hv => Or.inl (hz v (by omega))) (by omega : p + ln - p < w)
      · refine h_run 4 (pc' := 17) (l' := [(0, .inr (.inr 1826)), (1, .inr (.inr c)), (2, .inl (p : Int)), (3, .inl (ln : Int)), (4, .inl ba), (5, .inl (i : Int)), (6, .inl root), (7, .inl su), (8, .inl (j : Int))]) (st' := [.inl (-1), .inl (j : Int), .inr (.inr 1886)]) rfl ?_
        refine h_ist (c := 1886) (j := j) (i := (j : Int)) (x := (-1)) rfl rfl (by decide) (by decide) rfl (by omega) (by decide) ?_
        refine h_run 2 (pc' := 3) (l' := [(0, .inr (.inr 1826)), (1, .inr (.inr c)), (2, .inl (p : Int)), (3, .inl (ln : Int)), (4, .inl ba), (5, .inl (i : Int)), (6, .inl root), (7, .inl su), (8, .inl ((j : Int) + 1))]) (st' := []) rfl ?_
        rw [show ((j : Int) + 1) = (((j + 1) : Nat) : Int) by omega]
        exact ih.1 _ (j + 1) (fr_a hf (by decide)) (by omega) (fun x hx => by show up (H1.1 1886) j (-1) x = -1; rw [up_if]; by_cases e9 : x = j; { rw [if_pos e9] }; { rw [if_neg e9]; exact hz x (by omega) }) (by omega : 1000 + (60 - (j + 1)) < w)
    · intro H1 u z m kk hf hz2 hp2 hT2 hu hfre hw
      refine h_rng (fun hrg3 => ?_)
      obtain ⟨⟨pb1, pb2, pb3, pb4, pb5⟩, pw1, pw2, pw3, pw4⟩ := (id hP : PW H (H.1 1826 1) (H.1 1826 3) (H.1 1826 8) (H.1 1826 13) (H.1 1826 19))
      have e_funArity : (H1.1 1833) = (H.1 1833) := hf.2.1 1833 (by decide) (by decide)
      have e_conArity : (H1.1 1830) = (H.1 1830) := hf.2.1 1830 (by decide) (by decide)
      have e_now : (H1.1 1884) = (H.1 1884) := hf.2.1 1884 (by decide) (by decide)
      have eC : H1.1 c = H.1 c := hf.2.1 c hcm.1 hcm.2
      have f_ns : (H1.1 1826 93) = (H.1 1826 93) := hf.2.2 93 (by decide)
      have f_lu : (H1.1 1826 97) = (H.1 1826 97) := hf.2.2 97 (by decide)
      have f_cons : (H1.1 1826 3) = (H.1 1826 3) := hf.2.2 3 (by decide)
      have f_funs : (H1.1 1826 8) = (H.1 1826 8) := hf.2.2 8 (by decide)
      have hP1 := PWc_fr hP hf (by decide) (by decide)
      refine h_run 4 (pc' := 36) (l' := [(0, .inr (.inr 1826)), (1, .inr (.inr c)), (2, .inl (p : Int)), (3, .inl (ln : Int)), (4, .inl ba), (6, .inl root), (7, .inl su), (8, .inl (u : Int)), (9, .inl (z : Int))]) (st' := [.inl ((p : Int) + (ln : Int)), .inl (z : Int)]) rfl ?_
      refine h_ige (off := 158) (t := 194) rfl rfl (by omega) (by omega) (fun c4 => ?_) (fun c4 => ?_)
      · refine h_run 1 (pc' := 195) (l' := [(0, .inr (.inr 1826)), (1, .inr (.inr c)), (2, .inl (p : Int)), (3, .inl (ln : Int)), (4, .inl ba), (6, .inl root), (7, .inl su), (8, .inl (u : Int)), (9, .inl (z : Int))]) (st' := [.inl 1]) rfl ?_
        refine h_retz (x := 1) rfl rfl (by decide) ?_
        exact ⟨Or.inr ⟨rfl, hfre⟩, hf⟩
      · obtain ⟨y2, hy2⟩ : ∃ y2, p + ln - z = y2 + 1 := ⟨p + ln - z - 1, by omega⟩
        rw [hy2] at hp2
        obtain ⟨hm0, hsp, qp, hqp, hq4, hp3⟩ := hp2
        have hp4 : tm (ma (H.1 1833) (H.1 1830)) okp (H.1 c) (p + ln - (z + 1)) (z + 1) (m - 1 + qp) := by rw [show p + ln - (z + 1) = y2 by omega]; exact hp3
        have hkk := tm_le hT2
        obtain ⟨kk1, rfl⟩ : ∃ kk1, kk = kk1 + 1 := ⟨kk - 1, by omega⟩
        obtain ⟨-, hsok, qs, hqs, hqs4, hT3⟩ := id hT2
        have hspo := hokp _ hsp
        refine h_run 2 (pc' := 42) (l' := [(0, .inr (.inr 1826)), (1, .inr (.inr c)), (2, .inl (p : Int)), (3, .inl (ln : Int)), (4, .inl ba), (6, .inl root), (7, .inl su), (8, .inl (u : Int)), (9, .inl (z : Int))]) (st' := [.inl (z : Int), .inr (.inr c)]) rfl ?_
        refine h_ild (c := c) (j := z) (i := (z : Int)) rfl hc (by omega) rfl (by omega) ?_
        have g5 : -2147483648 ≤ (H1.1 c z) ∧ (H1.1 c z) ≤ 2147483647 := hrg3.2 c z n .int hc (by omega)
        refine h_run 0 (pc' := 43) (l' := [(0, .inr (.inr 1826)), (1, .inr (.inr c)), (2, .inl (p : Int)), (3, .inl (ln : Int)), (4, .inl ba), (6, .inl root), (7, .inl su), (8, .inl (u : Int)), (9, .inl (z : Int))]) (st' := [.inl (H1.1 c z)]) rfl ?_
        refine h_run 1 (pc' := 45) (l' := [(0, .inr (.inr 1826)), (1, .inr (.inr c)), (2, .inl (p : Int)), (3, .inl (ln : Int)), (4, .inl ba), (6, .inl root), (7, .inl su), (8, .inl (u : Int)), (9, .inl (z : Int)), (10, .inl (H1.1 c z))]) (st' := []) rfl ?_
        have es : H1.1 c z = H.1 c z := by rw [eC]
        refine h_run 2 (pc' := 49) (l' := [(0, .inr (.inr 1826)), (1, .inr (.inr c)), (2, .inl (p : Int)), (3, .inl (ln : Int)), (4, .inl ba), (6, .inl root), (7, .inl su), (8, .inl (u : Int)), (9, .inl (z : Int)), (10, .inl (H1.1 c z))]) (st' := [.inl ba, .inl (H1.1 c z)]) rfl ?_
        refine h_ige (off := 32) (t := 81) rfl rfl (by omega) (by omega) (fun c6 => ?_) (fun c6 => ?_)
        · refine h_run 4 (pc' := 88) (l' := [(0, .inr (.inr 1826)), (1, .inr (.inr c)), (2, .inl (p : Int)), (3, .inl (ln : Int)), (4, .inl ba), (6, .inl root), (7, .inl su), (8, .inl (u : Int)), (9, .inl (z : Int)), (10, .inl (H1.1 c z)), (11, .inl ((H1.1 c z) - ba))]) (st' := []) rfl ?_
          obtain ⟨v9, hv9⟩ : ∃ k9 : Nat, ((H1.1 c z) - ba) = (k9 : Int) := ⟨(((H1.1 c z) - ba)).toNat, by omega⟩
          rw [show ((H1.1 c z) - ba) = (v9 : Int) from hv9]
          have hq0 : qp = 0 := by rw [ma_0 (by omega)] at hqp; omega
          obtain ⟨k1, k2, hkk2, g3, g4⟩ := tm_split (n := 1) (n2 := m - 1 + qp) (by rw [show 1 + (m - 1 + qp) = m by omega]; exact hT2)
          have hk1 : 1 ≤ k1 := tm_le g3
          refine h_run 4 (pc' := 95) (l' := [(0, .inr (.inr 1826)), (1, .inr (.inr c)), (2, .inl (p : Int)), (3, .inl (ln : Int)), (4, .inl ba), (6, .inl root), (7, .inl su), (8, .inl (u : Int)), (9, .inl (z : Int)), (10, .inl (H1.1 c z)), (11, .inl (v9 : Int))]) (st' := [.inl (u : Int), .inr (.inr 1884), .inr (.inr 1826)]) rfl ?_
          refine h_cv (i := 427) (j := 155) (b := 1826) (M' := mt_155) (xs := [.inl (u : Int), .inr (.inr 1884)]) (rest := []) rfl rfl rfl rfl rfl rfl (Nat.le_of_ble_eq_true rfl) (Nat.le_of_ble_eq_true rfl) (by omega) (m_behind (by omega) (n := 128) (a := u) (k := k1) rfl (by decide) (by rw [e_funArity, e_conArity, e_now]; exact tm_sg0 g3 (fun s9 h9 => by unfold m_sg at h9; unfold sg0; omega)) (by omega)) ?_
          rintro _ _ ⟨rfl, rfl⟩
          refine h_run 0 (pc' := 98) (l' := [(0, .inr (.inr 1826)), (1, .inr (.inr c)), (2, .inl (p : Int)), (3, .inl (ln : Int)), (4, .inl ba), (6, .inl root), (7, .inl su), (8, .inl (u : Int)), (9, .inl (z : Int)), (10, .inl (H1.1 c z)), (11, .inl (v9 : Int))]) (st' := [.inl ((u + k1 : Nat) : Int)]) rfl ?_
          refine h_run 4 (pc' := 106) (l' := [(0, .inr (.inr 1826)), (1, .inr (.inr c)), (2, .inl (p : Int)), (3, .inl (ln : Int)), (4, .inl ba), (6, .inl root), (7, .inl su), (8, .inl (u : Int)), (9, .inl (z : Int)), (10, .inl (H1.1 c z)), (11, .inl (v9 : Int)), (12, .inl ((u + k1 : Nat) : Int))]) (st' := [.inl (v9 : Int), .inr (.inr 1886)]) rfl ?_
          refine h_ild (c := 1886) (j := v9) (i := (v9 : Int)) rfl rfl (by decide) rfl (by omega) ?_
          have g7 : -2147483648 ≤ (H1.1 1886 v9) ∧ (H1.1 1886 v9) ≤ 2147483647 := hrg3.2 1886 v9 60 .int rfl (by omega)
          refine h_run 0 (pc' := 107) (l' := [(0, .inr (.inr 1826)), (1, .inr (.inr c)), (2, .inl (p : Int)), (3, .inl (ln : Int)), (4, .inl ba), (6, .inl root), (7, .inl su), (8, .inl (u : Int)), (9, .inl (z : Int)), (10, .inl (H1.1 c z)), (11, .inl (v9 : Int)), (12, .inl ((u + k1 : Nat) : Int))]) (st' := [.inl (H1.1 1886 v9)]) rfl ?_
          refine h_run 1 (pc' := 108) (l' := [(0, .inr (.inr 1826)), (1, .inr (.inr c)), (2, .inl (p : Int)), (3, .inl (ln : Int)), (4, .inl ba), (6, .inl root), (7, .inl su), (8, .inl (u : Int)), (9, .inl (z : Int)), (10, .inl (H1.1 c z)), (11, .inl (v9 : Int)), (12, .inl ((u + k1 : Nat) : Int))]) (st' := [.inl (-1), .inl (H1.1 1886 v9)]) rfl ?_
          refine h_ine (off := 34) (t := 142) rfl rfl (by omega) (by decide) (fun c8 => ?_) (fun c8 => ?_)
          · obtain ⟨b, kb, b1, b3, b4⟩ : ∃ b kb : Nat, (H1.1 1886) v9 = b ∧ b + kb ≤ N ∧ tm (ma (H.1 1833) (H.1 1830)) (m_sg (H.1 1826 3) (H.1 1826 8) 60) (H.1 1884) kb b 1 := by rcases hfre v9 (by omega) with h9 | h9; { omega }; { exact h9 }
            refine h_run 5 (pc' := 152) (l' := [(0, .inr (.inr 1826)), (1, .inr (.inr c)), (2, .inl (p : Int)), (3, .inl (ln : Int)), (4, .inl ba), (6, .inl root), (7, .inl su), (8, .inl (u : Int)), (9, .inl (z : Int)), (10, .inl (H1.1 c z)), (11, .inl (v9 : Int)), (12, .inl ((u + k1 : Nat) : Int))]) (st' := [.inl (v9 : Int), .inr (.inr 1886), .inr (.inr 1884)]) rfl ?_
            refine h_ild (c := 1886) (j := v9) (i := (v9 : Int)) rfl rfl (by decide) rfl (by omega) ?_
            refine h_run 0 (pc' := 153) (l' := [(0, .inr (.inr 1826)), (1, .inr (.inr c)), (2, .inl (p : Int)), (3, .inl (ln : Int)), (4, .inl ba), (6, .inl root), (7, .inl su), (8, .inl (u : Int)), (9, .inl (z : Int)), (10, .inl (H1.1 c z)), (11, .inl (v9 : Int)), (12, .inl ((u + k1 : Nat) : Int))]) (st' := [.inl (H1.1 1886 v9), .inr (.inr 1884)]) rfl ?_
            rw [show (H1.1 1886 v9) = (b : Int) by omega]
            refine h_run 6 (pc' := 164) (l' := [(0, .inr (.inr 1826)), (1, .inr (.inr c)), (2, .inl (p : Int)), (3, .inl (ln : Int)), (4, .inl ba), (6, .inl root), (7, .inl su), (8, .inl (u : Int)), (9, .inl (z : Int)), (10, .inl (H1.1 c z)), (11, .inl (v9 : Int)), (12, .inl ((u + k1 : Nat) : Int))]) (st' := [.inl (v9 : Int), .inr (.inr 1886), .inr (.inr 1884), .inr (.inr 1826), .inl (b : Int), .inr (.inr 1884)]) rfl ?_
            refine h_ild (c := 1886) (j := v9) (i := (v9 : Int)) rfl rfl (by decide) rfl (by omega) ?_
            refine h_run 0 (pc' := 165) (l' := [(0, .inr (.inr 1826)), (1, .inr (.inr c)), (2, .inl (p : Int)), (3, .inl (ln : Int)), (4, .inl ba), (6, .inl root), (7, .inl su), (8, .inl (u : Int)), (9, .inl (z : Int)), (10, .inl (H1.1 c z)), (11, .inl (v9 : Int)), (12, .inl ((u + k1 : Nat) : Int))]) (st' := [.inl (H1.1 1886 v9), .inr (.inr 1884), .inr (.inr 1826), .inl (b : Int), .inr (.inr 1884)]) rfl ?_
            rw [show (H1.1 1886 v9) = (b : Int) by omega]
            refine h_cv (i := 427) (j := 155) (b := 1826) (M' := mt_155) (xs := [.inl (b : Int), .inr (.inr 1884)]) (rest := [.inl (b : Int), .inr (.inr 1884)]) rfl rfl rfl rfl rfl rfl (Nat.le_of_ble_eq_true rfl) (Nat.le_of_ble_eq_true rfl) (by omega) (m_behind (by omega) (n := 128) (a := b) (k := kb) rfl (by decide) (by rw [e_funArity, e_conArity, e_now]; exact tm_sg0 b4 (fun s9 h9 => by unfold m_sg at h9; unfold sg0; omega)) (by omega)) ?_
            rintro _ _ ⟨rfl, rfl⟩
            refine h_run 0 (pc' := 168) (l' := [(0, .inr (.inr 1826)), (1, .inr (.inr c)), (2, .inl (p : Int)), (3, .inl (ln : Int)), (4, .inl ba), (6, .inl root), (7, .inl su), (8, .inl (u : Int)), (9, .inl (z : Int)), (10, .inl (H1.1 c z)), (11, .inl (v9 : Int)), (12, .inl ((u + k1 : Nat) : Int))]) (st' := [.inl ((b + kb : Nat) : Int), .inl (b : Int), .inr (.inr 1884)]) rfl ?_
            refine h_run 4 (pc' := 176) (l' := [(0, .inr (.inr 1826)), (1, .inr (.inr c)), (2, .inl (p : Int)), (3, .inl (ln : Int)), (4, .inl ba), (6, .inl root), (7, .inl su), (8, .inl (u : Int)), (9, .inl (z : Int)), (10, .inl (H1.1 c z)), (11, .inl (v9 : Int)), (12, .inl ((u + k1 : Nat) : Int))]) (st' := [.inl ((u + k1 : Nat) : Int), .inl (u : Int), .inr (.inr 1884), .inl ((b + kb : Nat) : Int), .inl (b : Int), .inr (.inr 1884)]) rfl ?_
            refine h_cs (i := 582) (j := 241) (M' := mt_241) (xs := [.inl ((u + k1 : Nat) : Int), .inl (u : Int), .inr (.inr 1884), .inl ((b + kb : Nat) : Int), .inl (b : Int), .inr (.inr 1884)]) (rest := []) rfl rfl rfl rfl rfl (Nat.le_of_ble_eq_true rfl) (Nat.le_of_ble_eq_true rfl) (by omega) (m_isSame (by omega) (na := 128) (nb := 128) rfl rfl (by decide) (by omega) (by omega)) ?_
            rintro _ _ ⟨⟨rfl, sm9, sm9x⟩ | rfl, rfl⟩
            · refine h_run 0 (pc' := 179) (l' := [(0, .inr (.inr 1826)), (1, .inr (.inr c)), (2, .inl (p : Int)), (3, .inl (ln : Int)), (4, .inl ba), (6, .inl root), (7, .inl su), (8, .inl (u : Int)), (9, .inl (z : Int)), (10, .inl (H1.1 c z)), (11, .inl (v9 : Int)), (12, .inl ((u + k1 : Nat) : Int))]) (st' := [.inl 1]) rfl ?_
              refine h_zne (off := 5) (t := 184) rfl rfl (by decide) (fun _ => ?_) (fun c => absurd c (by decide))
              refine h_run 4 (pc' := 31) (l' := [(0, .inr (.inr 1826)), (1, .inr (.inr c)), (2, .inl (p : Int)), (3, .inl (ln : Int)), (4, .inl ba), (6, .inl root), (7, .inl su), (8, .inl ((u + k1 : Nat) : Int)), (9, .inl ((z : Int) + 1)), (10, .inl (H1.1 c z)), (11, .inl (v9 : Int)), (12, .inl ((u + k1 : Nat) : Int))]) (st' := []) rfl ?_
              refine h_loc [0, 1, 2, 3, 4, 6, 7, 8, 9] rfl ?_
              rw [show ((z : Int) + 1) = (((z + 1) : Nat) : Int) by omega]
              exact ih.2 _ (u + k1) (z + 1) (m - 1 + qp) (k2) hf (by omega) hp4 g4 (by omega) hfre (by omega : p + ln - (z + 1) < w)
            · refine h_run 0 (pc' := 179) (l' := [(0, .inr (.inr 1826)), (1, .inr (.inr c)), (2, .inl (p : Int)), (3, .inl (ln : Int)), (4, .inl ba), (6, .inl root), (7, .inl su), (8, .inl (u : Int)), (9, .inl (z : Int)), (10, .inl (H1.1 c z)), (11, .inl (v9 : Int)), (12, .inl ((u + k1 : Nat) : Int))]) (st' := [.inl 0]) rfl ?_
              refine h_zne (off := 5) (t := 184) rfl rfl (by decide) (fun c => absurd c (by decide)) (fun _ => ?_)
              refine h_run 1 (pc' := 183) (l' := [(0, .inr (.inr 1826)), (1, .inr (.inr c)), (2, .inl (p : Int)), (3, .inl (ln : Int)), (4, .inl ba), (6, .inl root), (7, .inl su), (8, .inl (u : Int)), (9, .inl (z : Int)), (10, .inl (H1.1 c z)), (11, .inl (v9 : Int)), (12, .inl ((u + k1 : Nat) : Int))]) (st' := [.inl 0]) rfl ?_
              refine h_retz (x := 0) rfl rfl (by decide) ?_
              exact ⟨Or.inl rfl, hf⟩
          · refine h_run 6 (pc' := 122) (l' := [(0, .inr (.inr 1826)), (1, .inr (.inr c)), (2, .inl (p : Int)), (3, .inl (ln : Int)), (4, .inl ba), (6, .inl root), (7, .inl su), (8, .inl (u : Int)), (9, .inl (z : Int)), (10, .inl (H1.1 c z)), (11, .inl (v9 : Int)), (12, .inl ((u + k1 : Nat) : Int))]) (st' := [.inl su, .inl root, .inl (v9 : Int), .inl ((u + k1 : Nat) : Int), .inl (u : Int), .inr (.inr 1826)]) rfl ?_
            refine h_cv (i := 578) (j := 240) (b := 1826) (M' := mt_240) (xs := [.inl su, .inl root, .inl (v9 : Int), .inl ((u + k1 : Nat) : Int), .inl (u : Int)]) (rest := []) rfl rfl rfl rfl rfl rfl (Nat.le_of_ble_eq_true rfl) (Nat.le_of_ble_eq_true rfl) (by omega) (m_isFit (by omega) (a := u) (e := u + k1) (v := v9) (N := N) hP1 (by rw [e_funArity, e_conArity, e_now, f_cons, f_funs]; exact hT) (by omega) (by rw [f_lu]; omega) hsu) ?_
            rintro _ H10 ⟨rfl | rfl, hx10f⟩
            · refine h_rng (fun hrg11 => ?_)
              have hf12 : fr [] [1852, 1853, 1886] H H10 := fr_t hf hx10f (by decide) (by decide)
              refine h_run 0 (pc' := 125) (l' := [(0, .inr (.inr 1826)), (1, .inr (.inr c)), (2, .inl (p : Int)), (3, .inl (ln : Int)), (4, .inl ba), (6, .inl root), (7, .inl su), (8, .inl (u : Int)), (9, .inl (z : Int)), (10, .inl (H1.1 c z)), (11, .inl (v9 : Int)), (12, .inl ((u + k1 : Nat) : Int))]) (st' := [.inl 0]) rfl ?_
              refine h_zne (off := 5) (t := 130) rfl rfl (by decide) (fun c => absurd c (by decide)) (fun _ => ?_)
              refine h_run 1 (pc' := 129) (l' := [(0, .inr (.inr 1826)), (1, .inr (.inr c)), (2, .inl (p : Int)), (3, .inl (ln : Int)), (4, .inl ba), (6, .inl root), (7, .inl su), (8, .inl (u : Int)), (9, .inl (z : Int)), (10, .inl (H1.1 c z)), (11, .inl (v9 : Int)), (12, .inl ((u + k1 : Nat) : Int))]) (st' := [.inl 0]) rfl ?_
              refine h_retz (x := 0) rfl rfl (by decide) ?_
              exact ⟨Or.inl rfl, hf12⟩
            · refine h_rng (fun hrg13 => ?_)
              have hf14 : fr [] [1852, 1853, 1886] H H10 := fr_t hf hx10f (by decide) (by decide)
              refine h_run 0 (pc' := 125) (l' := [(0, .inr (.inr 1826)), (1, .inr (.inr c)), (2, .inl (p : Int)), (3, .inl (ln : Int)), (4, .inl ba), (6, .inl root), (7, .inl su), (8, .inl (u : Int)), (9, .inl (z : Int)), (10, .inl (H1.1 c z)), (11, .inl (v9 : Int)), (12, .inl ((u + k1 : Nat) : Int))]) (st' := [.inl 1]) rfl ?_
              refine h_zne (off := 5) (t := 130) rfl rfl (by decide) (fun _ => ?_) (fun c => absurd c (by decide))
              refine h_run 4 (pc' := 138) (l' := [(0, .inr (.inr 1826)), (1, .inr (.inr c)), (2, .inl (p : Int)), (3, .inl (ln : Int)), (4, .inl ba), (6, .inl root), (7, .inl su), (8, .inl (u : Int)), (9, .inl (z : Int)), (10, .inl (H1.1 c z)), (11, .inl (v9 : Int)), (12, .inl ((u + k1 : Nat) : Int))]) (st' := [.inl (u : Int), .inl (v9 : Int), .inr (.inr 1886)]) rfl ?_
              refine h_ist (c := 1886) (j := v9) (i := (v9 : Int)) (x := (u : Int)) rfl rfl (by decide) (by decide) rfl (by omega) (by omega) ?_
              refine h_run 5 (pc' := 31) (l' := [(0, .inr (.inr 1826)), (1, .inr (.inr c)), (2, .inl (p : Int)), (3, .inl (ln : Int)), (4, .inl ba), (6, .inl root), (7, .inl su), (8, .inl ((u + k1 : Nat) : Int)), (9, .inl ((z : Int) + 1)), (10, .inl (H1.1 c z)), (11, .inl (v9 : Int)), (12, .inl ((u + k1 : Nat) : Int))]) (st' := []) rfl ?_
              refine h_loc [0, 1, 2, 3, 4, 6, 7, 8, 9] rfl ?_
              rw [show ((z : Int) + 1) = (((z + 1) : Nat) : Int) by omega]
              exact ih.2 _ (u + k1) (z + 1) (m - 1 + qp) (k2) (fr_a hf14 (by decide)) (by omega) hp4 g4 (by omega) (by show fre _ _ _ (up (H10.1 1886) v9 u) N; rw [(show (H10.1 1886) = (H1.1 1886) from hx10f.2.1 1886 (by decide) (by decide))]; exact fre_up hfre (by omega) g3) (by omega : p + ln - (z + 1) < w)
        · refine h_run 3 (pc' := 58) (l' := [(0, .inr (.inr 1826)), (1, .inr (.inr c)), (2, .inl (p : Int)), (3, .inl (ln : Int)), (4, .inl ba), (6, .inl root), (7, .inl su), (8, .inl (u : Int)), (9, .inl (z : Int)), (10, .inl (H1.1 c z))]) (st' := [.inl (H1.1 1826 93), .inl (u : Int)]) rfl ?_
          have g15 : -2147483648 ≤ (H1.1 1826 93) ∧ (H1.1 1826 93) ≤ 2147483647 := hrg3.1 1826 13 93 _ .int rfl rfl
          have e16 : (H1.1 1826 93) = (H.1 1826 93) := hf.2.2 93 (by decide)
          refine h_ige (off := 15) (t := 73) rfl rfl (by omega) (by omega) (fun c17 => ?_) (fun c17 => ?_)
          · refine h_run 1 (pc' := 74) (l' := [(0, .inr (.inr 1826)), (1, .inr (.inr c)), (2, .inl (p : Int)), (3, .inl (ln : Int)), (4, .inl ba), (6, .inl root), (7, .inl su), (8, .inl (u : Int)), (9, .inl (z : Int)), (10, .inl (H1.1 c z))]) (st' := [.inl 0]) rfl ?_
            refine h_retz (x := 0) rfl rfl (by decide) ?_
            exact ⟨Or.inl rfl, hf⟩
          · refine h_run 3 (pc' := 67) (l' := [(0, .inr (.inr 1826)), (1, .inr (.inr c)), (2, .inl (p : Int)), (3, .inl (ln : Int)), (4, .inl ba), (6, .inl root), (7, .inl su), (8, .inl (u : Int)), (9, .inl (z : Int)), (10, .inl (H1.1 c z))]) (st' := [.inl (u : Int), .inr (.inr 1884)]) rfl ?_
            refine h_ild (c := 1884) (j := u) (i := (u : Int)) rfl rfl (by decide) rfl (by omega) ?_
            have g18 : -2147483648 ≤ (H1.1 1884 u) ∧ (H1.1 1884 u) ≤ 2147483647 := hrg3.2 1884 u 128 .int rfl (by omega)
            have e19 : (H1.1 1884 u) = (H.1 1884 u) := congrFun (hf.2.1 1884 (by decide) (by decide)) u
            refine h_run 0 (pc' := 68) (l' := [(0, .inr (.inr 1826)), (1, .inr (.inr c)), (2, .inl (p : Int)), (3, .inl (ln : Int)), (4, .inl ba), (6, .inl root), (7, .inl su), (8, .inl (u : Int)), (9, .inl (z : Int)), (10, .inl (H1.1 c z))]) (st' := [.inl (H1.1 1884 u)]) rfl ?_
            refine h_run 1 (pc' := 70) (l' := [(0, .inr (.inr 1826)), (1, .inr (.inr c)), (2, .inl (p : Int)), (3, .inl (ln : Int)), (4, .inl ba), (6, .inl root), (7, .inl su), (8, .inl (u : Int)), (9, .inl (z : Int)), (10, .inl (H1.1 c z))]) (st' := [.inl (H1.1 c z), .inl (H1.1 1884 u)]) rfl ?_
            refine h_ieq (off := 5) (t := 75) rfl rfl (by omega) (by omega) (fun c20 => ?_) (fun c20 => ?_)
            · have en : (H1.1 1884) u = (H.1 1884) u := by rw [e_now]
              have hqq : qs = qp := by have e8 : (H.1 1884) u = H.1 c z := (by omega); rw [e8, hqp] at hqs; omega
              have hT4 : tm (ma (H.1 1833) (H.1 1830)) (m_sg (H.1 1826 3) (H.1 1826 8) 60) (H.1 1884) kk1 (u + 1) (m - 1 + qp) := by rw [← hqq]; exact hT3
              refine h_run 4 (pc' := 31) (l' := [(0, .inr (.inr 1826)), (1, .inr (.inr c)), (2, .inl (p : Int)), (3, .inl (ln : Int)), (4, .inl ba), (6, .inl root), (7, .inl su), (8, .inl ((u : Int) + 1)), (9, .inl ((z : Int) + 1)), (10, .inl (H1.1 c z))]) (st' := []) rfl ?_
              refine h_loc [0, 1, 2, 3, 4, 6, 7, 8, 9] rfl ?_
              rw [show ((u : Int) + 1) = (((u + 1) : Nat) : Int) by omega]
              rw [show ((z : Int) + 1) = (((z + 1) : Nat) : Int) by omega]
              exact ih.2 _ (u + 1) (z + 1) (m - 1 + qp) (kk1) hf (by omega) hp4 hT4 (by omega) hfre (by omega : p + ln - (z + 1) < w)
            · refine h_run 1 (pc' := 74) (l' := [(0, .inr (.inr 1826)), (1, .inr (.inr c)), (2, .inl (p : Int)), (3, .inl (ln : Int)), (4, .inl ba), (6, .inl root), (7, .inl su), (8, .inl (u : Int)), (9, .inl (z : Int)), (10, .inl (H1.1 c z))]) (st' := [.inl 0]) rfl ?_
              refine h_retz (x := 0) rfl rfl (by decide) ?_
              exact ⟨Or.inl rfl, hf⟩
set_option maxRecDepth 100000 in
theorem m_isLike {zC : Nat → Option zsh} {d : Nat} (hd : 5 ≤ d) {H : hp} {c n p ln i N k V : Nat} {ba root su : Int} {okp : Int → Prop} (hc : zs zC c = some (.inr (.int, n))) (hn : n ≤ 100000) (hcm : c ≠ 1826 ∧ c ∉ [1852, 1853, 1886]) (hP : PWc H) (hT : tm (ma (H.1 1833) (H.1 1830)) (m_sg (H.1 1826 3) (H.1 1826 8) 60) (H.1 1884) N 0 1) (hN : N ≤ 60 ∧ (H.1 1826 93) = N) (hTi : tm (ma (H.1 1833) (H.1 1830)) (m_sg (H.1 1826 3) (H.1 1826 8) 60) (H.1 1884) k i 1) (hik : i + k ≤ N) (hpat : tm (ma (H.1 1833) (H.1 1830)) okp (H.1 c) ln p 1) (hpn : p + ln ≤ n ∧ ln ≤ 60) (hba : ba = 1000 ∨ ba = 2000) (hV : ((H.1 1826 97) = -1 ∧ V ≤ 60) ∨ (0 ≤ (H.1 1826 97) ∧ (H.1 1826 97) ≤ 15 ∧ V ≤ 6)) (hokp : ∀ s, okp s → s < ba ∨ (ba ≤ s ∧ s < ba + V)) (hsu : 0 ≤ su ∧ su ≤ 2) : hG (zs zC) d mt_239 0 (zargs 0 [.inr (.inr 1826), .inr (.inr c), .inl (p : Int), .inl (ln : Int), .inl ba, .inl (i : Int), .inl root, .inl su]) [] H (fun r9 H2 => (r9 = some (.inl 0) ∨ (r9 = some (.inl 1) ∧ fre (ma (H.1 1833) (H.1 1830)) (m_sg (H.1 1826 3) (H.1 1826 8) 60) (H.1 1884) (H2.1 1886) N)) ∧ fr [] [1852, 1853, 1886] H H2) := by
  refine h_rng (fun hrg0 => ?_)
  refine h_run 0 (pc' := 0) (l' := [(0, .inr (.inr 1826)), (1, .inr (.inr c)), (2, .inl (p : Int)), (3, .inl (ln : Int)), (4, .inl ba), (5, .inl (i : Int)), (6, .inl root), (7, .inl su)]) (st' := []) rfl ?_
  obtain ⟨⟨pb1, pb2, pb3, pb4, pb5⟩, pw1, pw2, pw3, pw4⟩ := (id hP : PW H (H.1 1826 1) (H.1 1826 3) (H.1 1826 8) (H.1 1826 13) (H.1 1826 19))
  refine h_run 2 (pc' := 3) (l' := [(0, .inr (.inr 1826)), (1, .inr (.inr c)), (2, .inl (p : Int)), (3, .inl (ln : Int)), (4, .inl ba), (5, .inl (i : Int)), (6, .inl root), (7, .inl su), (8, .inl 0)]) (st' := []) rfl ?_
  exact (m_isLike_cut (root := root) hd hc hn hcm hP hT hN hTi hik hpat hpn hba hV hokp hsu _).1 _ 0 (fr_rf _ _ _) (by omega) (fun x hx => absurd hx (Nat.not_lt_zero _)) (Nat.lt_succ_self _)
