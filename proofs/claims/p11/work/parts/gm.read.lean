/-! the class reads a text: the whole -/
/-! Reader.readText -/
set_option maxRecDepth 100000 in
set_option maxHeartbeats 4000000 in
theorem q_Reader_readText_cut {X : rx} {d : Nat} (hd : 42 ≤ d) {H : hp} (hI : Inv H)   (hT : TC H X) (hE : ER H) (hA : AB X) (hX0 : X 0 0 = 0) (hJ : ∀ (K : List tq) (X1 : rx), rch (H.1 3, (H.1 2 1).toNat) ([(6, 0, 0, 0)], X) (K, X1) → JB X X1) (hV : ∀ (n : Int) (X1 : rx), rch (H.1 3, (H.1 2 1).toNat) ([(6, 0, 0, 0)], X) ([(6, n, 0, 0)], X1) → n ≤ X1 0 0) (hS : SC H X) (hL : ∀ (n : Int) (X1 : rx), rch (H.1 3, (H.1 2 1).toNat) ([(6, 0, 0, 0)], X) ([(6, n, 0, 0)], X1) → MI X1 ∧ P0 X1 ∧ ∀ (K : List tq) (X2 : rx), rch (H.1 3, (H.1 2 1).toNat) ([(6, n, 0, 0)], X1) (K, X2) → JB X1 X2 ∧ LB X1 X2) : ∀ w : Nat, (∀ (H1 : hp), Inv H1 → fq [(2, 5), (7, 5), (7, 6), (8, 4), (13, 4), (18, 4), (361, 3), (361, 4), (361, 5), (361, 6), (361, 7), (361, 8), (361, 9)] [4, 5, 6, 9, 10, 11, 14, 15, 16, 17, 19, 20, 21, 22, 362] true H H1 → ∀ (x1 : Int) (x2 : Int) (x3 : Int) (x4 : Int) (x5 : Int) (x6 : Int) (x7 : Int) , (-2147483648 ≤ x1 ∧ x1 ≤ 2147483647) → (-2147483648 ≤ x2 ∧ x2 ≤ 2147483647) → (-2147483648 ≤ x3 ∧ x3 ≤ 2147483647) → (-2147483648 ≤ x4 ∧ x4 ≤ 2147483647) → (-2147483648 ≤ x5 ∧ x5 ≤ 2147483647) → (-2147483648 ≤ x6 ∧ x6 ≤ 2147483647) → (-2147483648 ≤ x7 ∧ x7 ≤ 2147483647) → (x1 = X 0 3 ∧ x2 = X 0 4 ∧ x3 = X 0 5 ∧ x4 = X 0 6 ∧ x5 = X 0 7) → (0 ≤ x7 ∧ x7 ≤ 1) → (0 ≤ x6 ∧ x6 ≤ 1001) → ((x7 = 1 ∧ ∃ (q : Nat) (X1 : rx), rch (H.1 3, (H.1 2 1).toNat) ([(6, 0, 0, 0)], X) ([(6, x6, 0, 0)], X1) ∧ RB (H.1 3, (H.1 2 1).toNat) q H1 X1 ∧ AB X1 ∧ SC H1 X1) ∨ (x7 = 0 ∧ FB (H.1 3, (H.1 2 1).toNat) ([(6, 0, 0, 0)], X) H1)) → (oS X H H1) → (((2000 - x6).toNat) < w) → hG (zs zK) d mt_62 69 [(0, .inr (.inr 361)), (1, .inl x1), (2, .inl x2), (3, .inl x3), (4, .inl x4), (5, .inl x5), (6, .inl x6), (7, .inl x7)] [] H1 (fun r9 H9 => ∃ z : Int, r9 = some (.inl z) ∧ ((-2147483648 ≤ z ∧ z ≤ 2147483647)) ∧ Inv H9 ∧ fq [(2, 5), (7, 5), (7, 6), (8, 4), (13, 4), (18, 4), (361, 3), (361, 4), (361, 5), (361, 6), (361, 7), (361, 8), (361, 9)] [4, 5, 6, 9, 10, 11, 14, 15, 16, 17, 19, 20, 21, 22, 362] true H H9 ∧ (RX (H.1 3, (H.1 2 1).toNat) X z H9))) := by
  intro w
  induction w with
  | zero => exact fun _ _ _ _ _ _ _ _ _ _ _ _ _ _ _ _ _ _ _ _ _ _ h => absurd h (Nat.not_lt_zero _)
  | succ w ih =>
    intro H1 hI1 hf1 x1 x2 x3 x4 x5 x6 x7 hx1 hx2 hx3 hx4 hx5 hx6 hx7 hi0 hi1 hi2 hi3 hi4 hw
    obtain ⟨Q9, hQ9⟩ : ∃ Q9 : Option zv → hp → Prop, Q9 = (fun r9 H9 => ∃ z : Int, r9 = some (.inl z) ∧ ((-2147483648 ≤ z ∧ z ≤ 2147483647)) ∧ Inv H9 ∧ fq [(2, 5), (7, 5), (7, 6), (8, 4), (13, 4), (18, 4), (361, 3), (361, 4), (361, 5), (361, 6), (361, 7), (361, 8), (361, 9)] [4, 5, 6, 9, 10, 11, 14, 15, 16, 17, 19, 20, 21, 22, 362] true H H9 ∧ (RX (H.1 3, (H.1 2 1).toNat) X z H9)) := ⟨_, rfl⟩
    rw [← hQ9]
    have hcnt := hT.1
    have b8 : 0 ≤ H.1 8 4 ∧ H.1 8 4 ≤ 6 := kn (x := kx_8) hI rfl 4
    have b13 : 0 ≤ H.1 13 4 ∧ H.1 13 4 ≤ 16 := kn (x := kx_13) hI rfl 4
    have b18 : 0 ≤ H.1 18 4 ∧ H.1 18 4 ≤ 16 := kn (x := kx_18) hI rfl 4
    have b75 : 0 ≤ H.1 7 5 ∧ H.1 7 5 ≤ 40 := kn (x := kx_7) hI rfl 5
    have b76 : 0 ≤ H.1 7 6 ∧ H.1 7 6 ≤ 16 := kn (x := kx_7) hI rfl 6
    refine k_run 1 (pc' := 71) (l' := [(0, .inr (.inr 361)), (1, .inl x1), (2, .inl x2), (3, .inl x3), (4, .inl x4), (5, .inl x5), (6, .inl x6), (7, .inl x7)]) (st' := [.inl x7]) rfl ?_
    refine h_zeq (off := 155) (t := 226) rfl rfl (by omega) (fun c18 => ?_) (fun c18 => ?_)
    · refine k_run 0 (pc' := 226) (l' := [(0, .inr (.inr 361)), (1, .inl x1), (2, .inl x2), (3, .inl x3), (4, .inl x4), (5, .inl x5), (6, .inl x6), (7, .inl x7)]) (st' := []) rfl ?_
      refine k_run 1 (pc' := 228) (l' := [(0, .inr (.inr 361)), (1, .inl x1), (2, .inl x2), (3, .inl x3), (4, .inl x4), (5, .inl x5), (6, .inl x6), (7, .inl x7)]) (st' := [.inl x7]) rfl ?_
      refine h_zne (off := 63) (t := 291) rfl rfl (by omega) (fun c19 => ?_) (fun c19 => ?_)
      · exfalso
        omega
      · refine k_run 0 (pc' := 231) (l' := [(0, .inr (.inr 361)), (1, .inl x1), (2, .inl x2), (3, .inl x3), (4, .inl x4), (5, .inl x5), (6, .inl x6), (7, .inl x7)]) (st' := []) rfl ?_
        obtain ⟨Xf, X2, K2, kk, pp, f1, f2, f3, f4, f5, f6, f7⟩ := (hi3.resolve_left (fun q9 => by have := q9.1; omega)).2
        refine k_run 4 (pc' := 239) (l' := [(0, .inr (.inr 361)), (1, .inl x1), (2, .inl x2), (3, .inl x3), (4, .inl x4), (5, .inl x5), (6, .inl x6), (7, .inl x7)]) (st' := [.inl x1, .inr (.inr 8)]) rfl ?_
        refine k_puti (z := x1) (a := 8) (x := kx_8) rfl rfl rfl (by decide) (by decide) rfl rfl rfl rfl hI1 (by omega) (show 0 ≤ x1 ∧ x1 ≤ 6 by omega) (fun H20 hI21 hw22 hv23 => ?_)
        have hf24 : fq [(2, 5), (7, 5), (7, 6), (8, 4), (13, 4), (18, 4), (361, 3), (361, 4), (361, 5), (361, 6), (361, 7), (361, 8), (361, 9)] [4, 5, 6, 9, 10, 11, 14, 15, 16, 17, 19, 20, 21, 22, 362] true H H20 := fq_w hf1 hw22 (fpo (by decide) rfl)
        refine k_run 0 (pc' := 242) (l' := [(0, .inr (.inr 361)), (1, .inl x1), (2, .inl x2), (3, .inl x3), (4, .inl x4), (5, .inl x5), (6, .inl x6), (7, .inl x7)]) (st' := []) rfl ?_
        refine k_run 4 (pc' := 250) (l' := [(0, .inr (.inr 361)), (1, .inl x1), (2, .inl x2), (3, .inl x3), (4, .inl x4), (5, .inl x5), (6, .inl x6), (7, .inl x7)]) (st' := [.inl x2, .inr (.inr 13)]) rfl ?_
        refine k_puti (z := x2) (a := 13) (x := kx_13) rfl rfl rfl (by decide) (by decide) rfl rfl rfl rfl hI21 (by omega) (show 0 ≤ x2 ∧ x2 ≤ 16 by omega) (fun H25 hI26 hw27 hv28 => ?_)
        have hf29 : fq [(2, 5), (7, 5), (7, 6), (8, 4), (13, 4), (18, 4), (361, 3), (361, 4), (361, 5), (361, 6), (361, 7), (361, 8), (361, 9)] [4, 5, 6, 9, 10, 11, 14, 15, 16, 17, 19, 20, 21, 22, 362] true H H25 := fq_w hf24 hw27 (fpo (by decide) rfl)
        refine k_run 0 (pc' := 253) (l' := [(0, .inr (.inr 361)), (1, .inl x1), (2, .inl x2), (3, .inl x3), (4, .inl x4), (5, .inl x5), (6, .inl x6), (7, .inl x7)]) (st' := []) rfl ?_
        refine k_run 4 (pc' := 261) (l' := [(0, .inr (.inr 361)), (1, .inl x1), (2, .inl x2), (3, .inl x3), (4, .inl x4), (5, .inl x5), (6, .inl x6), (7, .inl x7)]) (st' := [.inl x3, .inr (.inr 18)]) rfl ?_
        refine k_puti (z := x3) (a := 18) (x := kx_18) rfl rfl rfl (by decide) (by decide) rfl rfl rfl rfl hI26 (by omega) (show 0 ≤ x3 ∧ x3 ≤ 16 by omega) (fun H30 hI31 hw32 hv33 => ?_)
        have hf34 : fq [(2, 5), (7, 5), (7, 6), (8, 4), (13, 4), (18, 4), (361, 3), (361, 4), (361, 5), (361, 6), (361, 7), (361, 8), (361, 9)] [4, 5, 6, 9, 10, 11, 14, 15, 16, 17, 19, 20, 21, 22, 362] true H H30 := fq_w hf29 hw32 (fpo (by decide) rfl)
        refine k_run 0 (pc' := 264) (l' := [(0, .inr (.inr 361)), (1, .inl x1), (2, .inl x2), (3, .inl x3), (4, .inl x4), (5, .inl x5), (6, .inl x6), (7, .inl x7)]) (st' := []) rfl ?_
        refine k_run 3 (pc' := 270) (l' := [(0, .inr (.inr 361)), (1, .inl x1), (2, .inl x2), (3, .inl x3), (4, .inl x4), (5, .inl x5), (6, .inl x6), (7, .inl x7)]) (st' := [.inl x4, .inr (.inr 7)]) rfl ?_
        refine k_puti (z := x4) (a := 7) (x := kx_7) rfl rfl rfl (by decide) (by decide) rfl rfl rfl rfl hI31 (by omega) (show 0 ≤ x4 ∧ x4 ≤ 40 by omega) (fun H35 hI36 hw37 hv38 => ?_)
        have hf39 : fq [(2, 5), (7, 5), (7, 6), (8, 4), (13, 4), (18, 4), (361, 3), (361, 4), (361, 5), (361, 6), (361, 7), (361, 8), (361, 9)] [4, 5, 6, 9, 10, 11, 14, 15, 16, 17, 19, 20, 21, 22, 362] true H H35 := fq_w hf34 hw37 (fpo (by decide) rfl)
        refine k_run 0 (pc' := 273) (l' := [(0, .inr (.inr 361)), (1, .inl x1), (2, .inl x2), (3, .inl x3), (4, .inl x4), (5, .inl x5), (6, .inl x6), (7, .inl x7)]) (st' := []) rfl ?_
        refine k_run 3 (pc' := 279) (l' := [(0, .inr (.inr 361)), (1, .inl x1), (2, .inl x2), (3, .inl x3), (4, .inl x4), (5, .inl x5), (6, .inl x6), (7, .inl x7)]) (st' := [.inl x5, .inr (.inr 7)]) rfl ?_
        refine k_puti (z := x5) (a := 7) (x := kx_7) rfl rfl rfl (by decide) (by decide) rfl rfl rfl rfl hI36 (by omega) (show 0 ≤ x5 ∧ x5 ≤ 16 by omega) (fun H40 hI41 hw42 hv43 => ?_)
        have hf44 : fq [(2, 5), (7, 5), (7, 6), (8, 4), (13, 4), (18, 4), (361, 3), (361, 4), (361, 5), (361, 6), (361, 7), (361, 8), (361, 9)] [4, 5, 6, 9, 10, 11, 14, 15, 16, 17, 19, 20, 21, 22, 362] true H H40 := fq_w hf39 hw42 (fpo (by decide) rfl)
        refine k_run 0 (pc' := 282) (l' := [(0, .inr (.inr 361)), (1, .inl x1), (2, .inl x2), (3, .inl x3), (4, .inl x4), (5, .inl x5), (6, .inl x6), (7, .inl x7)]) (st' := []) rfl ?_
        have hfw := (fw_w (fw_w (fw_w (fw_w (fw_w (fw_rf [(8, 4), (13, 4), (18, 4), (7, 5), (7, 6)] _) hw22 (by simp)) hw27 (by simp)) hw32 (by simp)) hw37 (by simp)) hw42 (by simp))
        have hfw5 := hfw.2 361 5 (by simp)
        refine k_run 3 (pc' := 289) (l' := [(0, .inr (.inr 361)), (1, .inl x1), (2, .inl x2), (3, .inl x3), (4, .inl x4), (5, .inl x5), (6, .inl x6), (7, .inl x7)]) (st' := [.inl (H40.1 361 5), .inl (-1000)]) rfl ?_
        have g45 : -2147483648 ≤ (H40.1 361 5) ∧ (H40.1 361 5) ≤ 2147483647 := kn (x := kx_361) hI41 rfl 5
        have e46 : (H40.1 361 5) = (H35.1 361 5) := hw42.2 _ _ (fun q => absurd q.1 (by decide))
        have e47 : (H35.1 361 5) = (H30.1 361 5) := hw37.2 _ _ (fun q => absurd q.1 (by decide))
        have e48 : (H30.1 361 5) = (H25.1 361 5) := hw32.2 _ _ (fun q => absurd q.1 (by decide))
        have e49 : (H25.1 361 5) = (H20.1 361 5) := hw27.2 _ _ (fun q => absurd q.1 (by decide))
        have e50 : (H20.1 361 5) = (H1.1 361 5) := hw22.2 _ _ (fun q => absurd q.1 (by decide))
        refine k_run 1 (pc' := 290) (l' := [(0, .inr (.inr 361)), (1, .inl x1), (2, .inl x2), (3, .inl x3), (4, .inl x4), (5, .inl x5), (6, .inl x6), (7, .inl x7)]) (st' := [.inl ((-1000) - (H40.1 361 5))]) rfl ?_
        refine h_reti (x := ((-1000) - (H40.1 361 5))) rfl rfl ?_
        rw [hQ9]
        exact ⟨_, rfl, (by omega), hI41, hf44, (by first | (exfalso; omega) | exact (Or.inr ⟨Xf, kk, pp, f1, (by omega), (hfw.2 361 4 (by simp)).trans f5, TC_back f3 (hJ _ _ f2) hA hfw (((hw42.2 _ _ (fun q => absurd q.1 (by first | decide | omega))).trans ((hw37.2 _ _ (fun q => absurd q.1 (by first | decide | omega))).trans ((hw32.2 _ _ (fun q => absurd q.1 (by first | decide | omega))).trans ((hw27.2 _ _ (fun q => absurd q.1 (by first | decide | omega))).trans hv23)))).trans (by omega)) (((hw42.2 _ _ (fun q => absurd q.1 (by first | decide | omega))).trans ((hw37.2 _ _ (fun q => absurd q.1 (by first | decide | omega))).trans ((hw32.2 _ _ (fun q => absurd q.1 (by first | decide | omega))).trans hv28))).trans (by omega)) (((hw42.2 _ _ (fun q => absurd q.1 (by first | decide | omega))).trans ((hw37.2 _ _ (fun q => absurd q.1 (by first | decide | omega))).trans hv33)).trans (by omega)) (((hw42.2 _ _ (fun q => absurd q.2 (by decide))).trans hv38).trans (by omega)) (hv43.trans (by omega)), ER_fw f4 hfw, SC_OS hS (oS_tr hi4 (oS_NE (e := 0) (NE_fwo hfw (by simp)) (by omega) (Or.inl rfl)))⟩))⟩
    · refine k_run 0 (pc' := 74) (l' := [(0, .inr (.inr 361)), (1, .inl x1), (2, .inl x2), (3, .inl x3), (4, .inl x4), (5, .inl x5), (6, .inl x6), (7, .inl x7)]) (st' := []) rfl ?_
      refine k_run 2 (pc' := 79) (l' := [(0, .inr (.inr 361)), (1, .inl x1), (2, .inl x2), (3, .inl x3), (4, .inl x4), (5, .inl x5), (6, .inl x6), (7, .inl x7)]) (st' := [.inl 1000, .inl x6]) rfl ?_
      refine h_igt (off := 147) (t := 226) rfl rfl (by omega) (by decide) (fun c51 => ?_) (fun c51 => ?_)
      · refine k_run 0 (pc' := 226) (l' := [(0, .inr (.inr 361)), (1, .inl x1), (2, .inl x2), (3, .inl x3), (4, .inl x4), (5, .inl x5), (6, .inl x6), (7, .inl x7)]) (st' := []) rfl ?_
        refine k_run 1 (pc' := 228) (l' := [(0, .inr (.inr 361)), (1, .inl x1), (2, .inl x2), (3, .inl x3), (4, .inl x4), (5, .inl x5), (6, .inl x6), (7, .inl x7)]) (st' := [.inl x7]) rfl ?_
        refine h_zne (off := 63) (t := 291) rfl rfl (by omega) (fun c52 => ?_) (fun c52 => ?_)
        · refine k_run 0 (pc' := 291) (l' := [(0, .inr (.inr 361)), (1, .inl x1), (2, .inl x2), (3, .inl x3), (4, .inl x4), (5, .inl x5), (6, .inl x6), (7, .inl x7)]) (st' := []) rfl ?_
          obtain ⟨k0, q, X1, k1, k2, k3, k4⟩ := hi3.resolve_right (fun q9 => by have := q9.1; omega)
          refine k_run 3 (pc' := 298) (l' := [(0, .inr (.inr 361)), (1, .inl x1), (2, .inl x2), (3, .inl x3), (4, .inl x4), (5, .inl x5), (6, .inl x6), (7, .inl x7)]) (st' := [.inl (H1.1 7 5)]) rfl ?_
          have g53 : 0 ≤ (H1.1 7 5) ∧ (H1.1 7 5) ≤ 40 := kn (x := kx_7) hI1 rfl 5
          refine k_run 1 (pc' := 300) (l' := [(0, .inr (.inr 361)), (1, .inl x1), (2, .inl x2), (3, .inl x3), (4, .inl x4), (5, .inl x5), (6, .inl x6), (7, .inl x7)]) (st' := [.inl x4, .inl (H1.1 7 5)]) rfl ?_
          refine h_ile (off := 10) (t := 310) rfl rfl (by omega) (by omega) (fun c54 => ?_) (fun c54 => ?_)
          · refine k_run 0 (pc' := 310) (l' := [(0, .inr (.inr 361)), (1, .inl x1), (2, .inl x2), (3, .inl x3), (4, .inl x4), (5, .inl x5), (6, .inl x6), (7, .inl x7)]) (st' := []) rfl ?_
            refine k_run 1 (pc' := 312) (l' := [(0, .inr (.inr 361)), (1, .inl x1), (2, .inl x2), (3, .inl x3), (4, .inl x4), (5, .inl x5), (6, .inl x6), (7, .inl x7)]) (st' := [.inl x6]) rfl ?_
            refine h_reti (x := x6) rfl rfl ?_
            rw [hQ9]
            exact ⟨_, rfl, (by omega), hI1, hf1, (by first | (exfalso; omega) | exact (by exfalso; have q8 := hV _ _ k1; have q7 := k2.2.2.1; have q6 := k2.1.1.2; omega))⟩
          · refine k_run 0 (pc' := 303) (l' := [(0, .inr (.inr 361)), (1, .inl x1), (2, .inl x2), (3, .inl x3), (4, .inl x4), (5, .inl x5), (6, .inl x6), (7, .inl x7)]) (st' := []) rfl ?_
            refine k_run 2 (pc' := 307) (l' := [(0, .inr (.inr 361)), (1, .inl x1), (2, .inl x2), (3, .inl x3), (4, .inl x4), (5, .inl x5), (6, .inl x6), (7, .inl x7)]) (st' := [.inr (.inr 7)]) rfl ?_
            refine h_cv (i := 99) (j := 39) (b := 7) (M' := mt_39) (xs := []) (rest := []) rfl rfl rfl rfl (zs_K (x := kx_7) rfl (by decide)) rfl (Nat.le_of_ble_eq_true rfl) (Nat.le_of_ble_eq_true rfl) (by omega) (q_Program_forgetProofs (by omega) hI1 k2.2.2.2) ?_
            rintro _ H56 ⟨rfl, hI57, hq58, hx60⟩
            have hf61 : fq [(2, 5), (7, 5), (7, 6), (8, 4), (13, 4), (18, 4), (361, 3), (361, 4), (361, 5), (361, 6), (361, 7), (361, 8), (361, 9)] [4, 5, 6, 9, 10, 11, 14, 15, 16, 17, 19, 20, 21, 22, 362] true H H56 := fq_t hf1 hq58 rfl rfl rfl
            refine k_run 0 (pc' := 310) (l' := [(0, .inr (.inr 361)), (1, .inl x1), (2, .inl x2), (3, .inl x3), (4, .inl x4), (5, .inl x5), (6, .inl x6), (7, .inl x7)]) (st' := []) rfl ?_
            refine k_run 1 (pc' := 312) (l' := [(0, .inr (.inr 361)), (1, .inl x1), (2, .inl x2), (3, .inl x3), (4, .inl x4), (5, .inl x5), (6, .inl x6), (7, .inl x7)]) (st' := [.inl x6]) rfl ?_
            refine h_reti (x := x6) rfl rfl ?_
            rw [hQ9]
            exact ⟨_, rfl, (by omega), hI57, hf61, (by first | (exfalso; omega) | exact (by exfalso; have q8 := hV _ _ k1; have q7 := k2.2.2.1; have q6 := k2.1.1.2; omega))⟩
        · exfalso
          omega
      · refine k_run 0 (pc' := 82) (l' := [(0, .inr (.inr 361)), (1, .inl x1), (2, .inl x2), (3, .inl x3), (4, .inl x4), (5, .inl x5), (6, .inl x6), (7, .inl x7)]) (st' := []) rfl ?_
        obtain ⟨k0, q, X1, k1, k2, k3, k4⟩ := hi3.resolve_right (fun q9 => by have := q9.1; omega)
        have hpa1 := RB_pa k2
        have htk1 := RB_tk k2
        obtain ⟨hM1, hP1, hJL⟩ := hL _ _ k1
        have hj0 := (hJ _ _ k1).1
        have p16 := hP1.2.2.2.1
        have p17 := hP1.2.2.2.2
        have c16 := k2.2.1.1.2.2.2.1
        have c17 := k2.2.1.1.2.2.2.2
        have b16 : 0 ≤ H1.1 7 5 ∧ H1.1 7 5 ≤ 40 := kn (x := kx_7) hI1 rfl 5
        have b17 : 0 ≤ H1.1 7 6 ∧ H1.1 7 6 ≤ 16 := kn (x := kx_7) hI1 rfl 6
        refine k_run 1 (pc' := 83) (l' := [(0, .inr (.inr 361)), (1, .inl x1), (2, .inl x2), (3, .inl x3), (4, .inl x4), (5, .inl x5), (6, .inl x6), (7, .inl x7)]) (st' := [.inr (.inr 361)]) rfl ?_
        have g62 : -2147483648 ≤ (H1.1 361 3) ∧ (H1.1 361 3) ≤ 2147483647 := kn (x := kx_361) hI1 rfl 3
        have g63 : 0 ≤ (H1.1 2 5) ∧ (H1.1 2 5) ≤ 1001 := kn (x := kx_2) hI1 rfl 5
        refine h_cv (i := 72) (j := 83) (b := 361) (M' := mt_83) (xs := []) (rest := []) rfl rfl rfl rfl (zs_K (x := kx_361) rfl (by decide)) rfl (Nat.le_of_ble_eq_true rfl) (Nat.le_of_ble_eq_true rfl) (by omega) (q_Reader_token (by omega) hI1 (by omega)) ?_
        rintro _ _ ⟨z70, rfl, g64, hx69, rfl⟩
        refine k_run 0 (pc' := 86) (l' := [(0, .inr (.inr 361)), (1, .inl x1), (2, .inl x2), (3, .inl x3), (4, .inl x4), (5, .inl x5), (6, .inl x6), (7, .inl x7)]) (st' := [.inl z70]) rfl ?_
        rw [htk1] at hx69
        refine h_zeq (off := 140) (t := 226) rfl rfl (by omega) (fun c71 => ?_) (fun c71 => ?_)
        · refine k_run 0 (pc' := 226) (l' := [(0, .inr (.inr 361)), (1, .inl x1), (2, .inl x2), (3, .inl x3), (4, .inl x4), (5, .inl x5), (6, .inl x6), (7, .inl x7)]) (st' := []) rfl ?_
          refine k_run 1 (pc' := 228) (l' := [(0, .inr (.inr 361)), (1, .inl x1), (2, .inl x2), (3, .inl x3), (4, .inl x4), (5, .inl x5), (6, .inl x6), (7, .inl x7)]) (st' := [.inl x7]) rfl ?_
          refine h_zne (off := 63) (t := 291) rfl rfl (by omega) (fun c72 => ?_) (fun c72 => ?_)
          · refine k_run 0 (pc' := 291) (l' := [(0, .inr (.inr 361)), (1, .inl x1), (2, .inl x2), (3, .inl x3), (4, .inl x4), (5, .inl x5), (6, .inl x6), (7, .inl x7)]) (st' := []) rfl ?_
            refine k_run 3 (pc' := 298) (l' := [(0, .inr (.inr 361)), (1, .inl x1), (2, .inl x2), (3, .inl x3), (4, .inl x4), (5, .inl x5), (6, .inl x6), (7, .inl x7)]) (st' := [.inl (H1.1 7 5)]) rfl ?_
            have g73 : 0 ≤ (H1.1 7 5) ∧ (H1.1 7 5) ≤ 40 := kn (x := kx_7) hI1 rfl 5
            refine k_run 1 (pc' := 300) (l' := [(0, .inr (.inr 361)), (1, .inl x1), (2, .inl x2), (3, .inl x3), (4, .inl x4), (5, .inl x5), (6, .inl x6), (7, .inl x7)]) (st' := [.inl x4, .inl (H1.1 7 5)]) rfl ?_
            refine h_ile (off := 10) (t := 310) rfl rfl (by omega) (by omega) (fun c74 => ?_) (fun c74 => ?_)
            · refine k_run 0 (pc' := 310) (l' := [(0, .inr (.inr 361)), (1, .inl x1), (2, .inl x2), (3, .inl x3), (4, .inl x4), (5, .inl x5), (6, .inl x6), (7, .inl x7)]) (st' := []) rfl ?_
              refine k_run 1 (pc' := 312) (l' := [(0, .inr (.inr 361)), (1, .inl x1), (2, .inl x2), (3, .inl x3), (4, .inl x4), (5, .inl x5), (6, .inl x6), (7, .inl x7)]) (st' := [.inl x6]) rfl ?_
              refine h_reti (x := x6) rfl rfl ?_
              rw [hQ9]
              exact ⟨_, rfl, (by omega), hI1, hf1, (by first | (exfalso; omega) | exact (Or.inl ⟨X1, rch_st k1 (by show stDec (H.1 3, (H.1 2 1).toNat) x6 [] X1 = _; unfold stDec; rw [if_pos (by omega)]), by omega, k2.2.1, k3, k2.2.2.2, k4⟩))⟩
            · refine k_run 0 (pc' := 303) (l' := [(0, .inr (.inr 361)), (1, .inl x1), (2, .inl x2), (3, .inl x3), (4, .inl x4), (5, .inl x5), (6, .inl x6), (7, .inl x7)]) (st' := []) rfl ?_
              refine k_run 2 (pc' := 307) (l' := [(0, .inr (.inr 361)), (1, .inl x1), (2, .inl x2), (3, .inl x3), (4, .inl x4), (5, .inl x5), (6, .inl x6), (7, .inl x7)]) (st' := [.inr (.inr 7)]) rfl ?_
              refine h_cv (i := 99) (j := 39) (b := 7) (M' := mt_39) (xs := []) (rest := []) rfl rfl rfl rfl (zs_K (x := kx_7) rfl (by decide)) rfl (Nat.le_of_ble_eq_true rfl) (Nat.le_of_ble_eq_true rfl) (by omega) (q_Program_forgetProofs (by omega) hI1 k2.2.2.2) ?_
              rintro _ H76 ⟨rfl, hI77, hq78, hx80⟩
              have hf81 : fq [(2, 5), (7, 5), (7, 6), (8, 4), (13, 4), (18, 4), (361, 3), (361, 4), (361, 5), (361, 6), (361, 7), (361, 8), (361, 9)] [4, 5, 6, 9, 10, 11, 14, 15, 16, 17, 19, 20, 21, 22, 362] true H H76 := fq_t hf1 hq78 rfl rfl rfl
              refine k_run 0 (pc' := 310) (l' := [(0, .inr (.inr 361)), (1, .inl x1), (2, .inl x2), (3, .inl x3), (4, .inl x4), (5, .inl x5), (6, .inl x6), (7, .inl x7)]) (st' := []) rfl ?_
              refine k_run 1 (pc' := 312) (l' := [(0, .inr (.inr 361)), (1, .inl x1), (2, .inl x2), (3, .inl x3), (4, .inl x4), (5, .inl x5), (6, .inl x6), (7, .inl x7)]) (st' := [.inl x6]) rfl ?_
              refine h_reti (x := x6) rfl rfl ?_
              rw [hQ9]
              exact ⟨_, rfl, (by omega), hI77, hf81, (by first | (exfalso; omega) | exact (Or.inl ⟨X1, rch_st k1 (by show stDec (H.1 3, (H.1 2 1).toNat) x6 [] X1 = _; unfold stDec; rw [if_pos (by omega)]), by omega, (TC_FP k2.2.1 hx80), k3, (ER_FP k2.2.2.2 hx80), (SC_fr k4 (NE_FP hx80))⟩))⟩
          · exfalso
            omega
        · refine k_run 0 (pc' := 89) (l' := [(0, .inr (.inr 361)), (1, .inl x1), (2, .inl x2), (3, .inl x3), (4, .inl x4), (5, .inl x5), (6, .inl x6), (7, .inl x7)]) (st' := []) rfl ?_
          refine k_run 1 (pc' := 90) (l' := [(0, .inr (.inr 361)), (1, .inl x1), (2, .inl x2), (3, .inl x3), (4, .inl x4), (5, .inl x5), (6, .inl x6), (7, .inl x7)]) (st' := [.inr (.inr 361)]) rfl ?_
          refine h_cv (i := 72) (j := 83) (b := 361) (M' := mt_83) (xs := []) (rest := []) rfl rfl rfl rfl (zs_K (x := kx_361) rfl (by decide)) rfl (Nat.le_of_ble_eq_true rfl) (Nat.le_of_ble_eq_true rfl) (by omega) (q_Reader_token (by omega) hI1 (by omega)) ?_
          rintro _ _ ⟨z88, rfl, g82, hx87, rfl⟩
          refine k_run 0 (pc' := 93) (l' := [(0, .inr (.inr 361)), (1, .inl x1), (2, .inl x2), (3, .inl x3), (4, .inl x4), (5, .inl x5), (6, .inl x6), (7, .inl x7)]) (st' := [.inl z88]) rfl ?_
          rw [htk1] at hx87
          refine k_run 2 (pc' := 97) (l' := [(0, .inr (.inr 361)), (1, .inl x1), (2, .inl x2), (3, .inl x3), (4, .inl x4), (5, .inl x5), (6, .inl x6), (7, .inl x7), (8, .inl z88)]) (st' := [.inl z88]) rfl ?_
          rcases (show z88 < 4 ∨ 7 < z88 ∨ z88 = 4 ∨ z88 = 5 ∨ z88 = 6 ∨ z88 = 7 by omega) with c89 | c89 | c89 | c89 | c89 | c89
          · refine h_tout (t := 164) rfl (by omega) (Or.inl c89) rfl ?_
            refine k_run 1 (pc' := 165) (l' := [(0, .inr (.inr 361)), (1, .inl x1), (2, .inl x2), (3, .inl x3), (4, .inl x4), (5, .inl x5), (6, .inl x6), (7, .inl x7), (8, .inl z88)]) (st' := [.inr (.inr 361)]) rfl ?_
            refine h_cv (i := 89) (j := 85) (b := 361) (M' := mt_85) (xs := []) (rest := []) rfl rfl rfl rfl (zs_K (x := kx_361) rfl (by decide)) rfl (Nat.le_of_ble_eq_true rfl) (Nat.le_of_ble_eq_true rfl) (by omega) (q_Reader_misplaced (by omega) hI1 (by omega)) ?_
            rintro _ H91 ⟨z96, rfl, g90, hI92, hq93, hp94, hx95⟩
            have hf97 : fq [(2, 5), (7, 5), (7, 6), (8, 4), (13, 4), (18, 4), (361, 3), (361, 4), (361, 5), (361, 6), (361, 7), (361, 8), (361, 9)] [4, 5, 6, 9, 10, 11, 14, 15, 16, 17, 19, 20, 21, 22, 362] true H H91 := fq_t hf1 hq93 rfl rfl rfl
            refine k_run 0 (pc' := 168) (l' := [(0, .inr (.inr 361)), (1, .inl x1), (2, .inl x2), (3, .inl x3), (4, .inl x4), (5, .inl x5), (6, .inl x6), (7, .inl x7), (8, .inl z88)]) (st' := [.inl z96]) rfl ?_
            refine k_run 2 (pc' := 172) (l' := [(0, .inr (.inr 361)), (1, .inl x1), (2, .inl x2), (3, .inl x3), (4, .inl x4), (5, .inl x5), (6, .inl x6), (7, .inl z96), (8, .inl z88)]) (st' := [.inl z96]) rfl ?_
            refine h_zeq (off := 16) (t := 188) rfl rfl (by omega) (fun c98 => ?_) (fun c98 => ?_)
            · refine k_run 0 (pc' := 188) (l' := [(0, .inr (.inr 361)), (1, .inl x1), (2, .inl x2), (3, .inl x3), (4, .inl x4), (5, .inl x5), (6, .inl x6), (7, .inl z96), (8, .inl z88)]) (st' := []) rfl ?_
              refine k_run 6 (pc' := 199) (l' := [(0, .inr (.inr 361)), (1, .inl x1), (2, .inl x2), (3, .inl x3), (4, .inl x4), (5, .inl x5), (6, .inl x6), (7, .inl 0), (8, .inl z88)]) (st' := [.inl (H91.1 7 6), .inr (.inr 7)]) rfl ?_
              have g99 : 0 ≤ (H91.1 7 6) ∧ (H91.1 7 6) ≤ 16 := kn (x := kx_7) hI92 rfl 6
              have e100 : (H91.1 7 6) = (H1.1 7 6) := (hq93.1 7 6 rfl (by decide) (by decide)).1
              refine k_run 1 (pc' := 201) (l' := [(0, .inr (.inr 361)), (1, .inl x1), (2, .inl x2), (3, .inl x3), (4, .inl x4), (5, .inl x5), (6, .inl x6), (7, .inl 0), (8, .inl z88)]) (st' := [.inl 0, .inl (H91.1 7 6), .inr (.inr 7)]) rfl ?_
              refine h_zeq (off := 14) (t := 215) rfl rfl (by decide) (fun _ => ?_) (fun c => absurd c (by decide))
              refine k_run 0 (pc' := 215) (l' := [(0, .inr (.inr 361)), (1, .inl x1), (2, .inl x2), (3, .inl x3), (4, .inl x4), (5, .inl x5), (6, .inl x6), (7, .inl 0), (8, .inl z88)]) (st' := [.inl (H91.1 7 6), .inr (.inr 7)]) rfl ?_
              refine k_run 2 (pc' := 217) (l' := [(0, .inr (.inr 361)), (1, .inl x1), (2, .inl x2), (3, .inl x3), (4, .inl x4), (5, .inl x5), (6, .inl x6), (7, .inl 0), (8, .inl z88)]) (st' := [.inl ((H91.1 7 6) + 0), .inr (.inr 7)]) rfl ?_
              refine k_puti (z := ((H91.1 7 6) + 0)) (a := 7) (x := kx_7) rfl rfl rfl (by decide) (by decide) rfl rfl rfl rfl hI92 (by omega) (show 0 ≤ ((H91.1 7 6) + 0) ∧ ((H91.1 7 6) + 0) ≤ 16 by omega) (fun H101 hI102 hw103 hv104 => ?_)
              have hf105 : fq [(2, 5), (7, 5), (7, 6), (8, 4), (13, 4), (18, 4), (361, 3), (361, 4), (361, 5), (361, 6), (361, 7), (361, 8), (361, 9)] [4, 5, 6, 9, 10, 11, 14, 15, 16, 17, 19, 20, 21, 22, 362] true H H101 := fq_w hf97 hw103 (fpo (by decide) rfl)
              refine k_run 0 (pc' := 220) (l' := [(0, .inr (.inr 361)), (1, .inl x1), (2, .inl x2), (3, .inl x3), (4, .inl x4), (5, .inl x5), (6, .inl x6), (7, .inl 0), (8, .inl z88)]) (st' := []) rfl ?_
              refine k_run 2 (pc' := 69) (l' := [(0, .inr (.inr 361)), (1, .inl x1), (2, .inl x2), (3, .inl x3), (4, .inl x4), (5, .inl x5), (6, .inl (x6 + 1)), (7, .inl 0), (8, .inl z88)]) (st' := []) rfl ?_
              refine h_loc [0, 1, 2, 3, 4, 5, 6, 7] rfl ?_
              rw [hQ9]
              exact ih H101 hI102 hf105 x1 x2 x3 x4 x5 (x6 + 1) (0 : Int) (by omega) (by omega) (by omega) (by omega) (by omega) (by omega) (by decide) (by omega) (by omega) (by omega) (by first | (exfalso; omega) | exact Or.inr ⟨rfl, FB_l0 (FB_mk (k := if tk (H.1 3, (H.1 2 1).toNat) (xi X1) = 1 then 1 else 2) k2 hp94 nF45 (rch_st k1 (by show stDec (H.1 3, (H.1 2 1).toNat) x6 [] X1 = _; unfold stDec; rw [if_neg (by omega), if_neg (by omega), if_neg (by omega), if_neg (by omega), if_neg (by omega)]; rfl)) (hx95.1.trans (by rw [htk1])) hx95.2) hw103 (by have q9 := hv104; omega)⟩) (oS_tr hi4 (oS_NE (e := 0) (NE_tr (NE_fwo hp94 (by simp)) (NE_w hw103 (sc_no (by omega)))) (by omega) (Or.inl rfl))) (by omega)
            · refine k_run 0 (pc' := 175) (l' := [(0, .inr (.inr 361)), (1, .inl x1), (2, .inl x2), (3, .inl x3), (4, .inl x4), (5, .inl x5), (6, .inl x6), (7, .inl z96), (8, .inl z88)]) (st' := []) rfl ?_
              refine k_run 2 (pc' := 178) (l' := [(0, .inr (.inr 361)), (1, .inl x1), (2, .inl x2), (3, .inl x3), (4, .inl x4), (5, .inl x5), (6, .inl x6), (7, .inl z96), (8, .inl z88)]) (st' := [.inl 59, .inr (.inr 361)]) rfl ?_
              have g106 : -2147483648 ≤ (H91.1 361 3) ∧ (H91.1 361 3) ≤ 2147483647 := kn (x := kx_361) hI92 rfl 3
              have e107 : (H91.1 361 3) = (H1.1 361 3) := (hq93.1 361 3 rfl (by decide) (by decide)).1
              have g108 : 0 ≤ (H91.1 2 5) ∧ (H91.1 2 5) ≤ 1001 := kn (x := kx_2) hI92 rfl 5
              have e109 : (H91.1 2 5) = (H1.1 2 5) := (hq93.1 2 5 rfl (by decide) (by decide)).1
              refine h_cv (i := 92) (j := 82) (b := 361) (M' := mt_82) (xs := [.inl 59]) (rest := []) rfl rfl rfl rfl (zs_K (x := kx_361) rfl (by decide)) rfl (Nat.le_of_ble_eq_true rfl) (Nat.le_of_ble_eq_true rfl) (by omega) (q_Reader_take (by omega) hI92 (by decide) (by omega)) ?_
              rintro _ H111 ⟨z116, rfl, g110, hI112, hq113, hp114, hx115⟩
              have hf117 : fq [(2, 5), (7, 5), (7, 6), (8, 4), (13, 4), (18, 4), (361, 3), (361, 4), (361, 5), (361, 6), (361, 7), (361, 8), (361, 9)] [4, 5, 6, 9, 10, 11, 14, 15, 16, 17, 19, 20, 21, 22, 362] true H H111 := fq_t hf97 hq113 rfl rfl rfl
              refine k_run 0 (pc' := 181) (l' := [(0, .inr (.inr 361)), (1, .inl x1), (2, .inl x2), (3, .inl x3), (4, .inl x4), (5, .inl x5), (6, .inl x6), (7, .inl z96), (8, .inl z88)]) (st' := [.inl z116]) rfl ?_
              refine h_zeq (off := 7) (t := 188) rfl rfl (by omega) (fun c118 => ?_) (fun c118 => ?_)
              · refine k_run 0 (pc' := 188) (l' := [(0, .inr (.inr 361)), (1, .inl x1), (2, .inl x2), (3, .inl x3), (4, .inl x4), (5, .inl x5), (6, .inl x6), (7, .inl z96), (8, .inl z88)]) (st' := []) rfl ?_
                refine k_run 6 (pc' := 199) (l' := [(0, .inr (.inr 361)), (1, .inl x1), (2, .inl x2), (3, .inl x3), (4, .inl x4), (5, .inl x5), (6, .inl x6), (7, .inl 0), (8, .inl z88)]) (st' := [.inl (H111.1 7 6), .inr (.inr 7)]) rfl ?_
                have g119 : 0 ≤ (H111.1 7 6) ∧ (H111.1 7 6) ≤ 16 := kn (x := kx_7) hI112 rfl 6
                have e120 : (H111.1 7 6) = (H91.1 7 6) := (hq113.1 7 6 rfl (by decide) (by decide)).1
                have e121 : (H91.1 7 6) = (H1.1 7 6) := (hq93.1 7 6 rfl (by decide) (by decide)).1
                refine k_run 1 (pc' := 201) (l' := [(0, .inr (.inr 361)), (1, .inl x1), (2, .inl x2), (3, .inl x3), (4, .inl x4), (5, .inl x5), (6, .inl x6), (7, .inl 0), (8, .inl z88)]) (st' := [.inl 0, .inl (H111.1 7 6), .inr (.inr 7)]) rfl ?_
                refine h_zeq (off := 14) (t := 215) rfl rfl (by decide) (fun _ => ?_) (fun c => absurd c (by decide))
                refine k_run 0 (pc' := 215) (l' := [(0, .inr (.inr 361)), (1, .inl x1), (2, .inl x2), (3, .inl x3), (4, .inl x4), (5, .inl x5), (6, .inl x6), (7, .inl 0), (8, .inl z88)]) (st' := [.inl (H111.1 7 6), .inr (.inr 7)]) rfl ?_
                refine k_run 2 (pc' := 217) (l' := [(0, .inr (.inr 361)), (1, .inl x1), (2, .inl x2), (3, .inl x3), (4, .inl x4), (5, .inl x5), (6, .inl x6), (7, .inl 0), (8, .inl z88)]) (st' := [.inl ((H111.1 7 6) + 0), .inr (.inr 7)]) rfl ?_
                refine k_puti (z := ((H111.1 7 6) + 0)) (a := 7) (x := kx_7) rfl rfl rfl (by decide) (by decide) rfl rfl rfl rfl hI112 (by omega) (show 0 ≤ ((H111.1 7 6) + 0) ∧ ((H111.1 7 6) + 0) ≤ 16 by omega) (fun H122 hI123 hw124 hv125 => ?_)
                have hf126 : fq [(2, 5), (7, 5), (7, 6), (8, 4), (13, 4), (18, 4), (361, 3), (361, 4), (361, 5), (361, 6), (361, 7), (361, 8), (361, 9)] [4, 5, 6, 9, 10, 11, 14, 15, 16, 17, 19, 20, 21, 22, 362] true H H122 := fq_w hf117 hw124 (fpo (by decide) rfl)
                refine k_run 0 (pc' := 220) (l' := [(0, .inr (.inr 361)), (1, .inl x1), (2, .inl x2), (3, .inl x3), (4, .inl x4), (5, .inl x5), (6, .inl x6), (7, .inl 0), (8, .inl z88)]) (st' := []) rfl ?_
                refine k_run 2 (pc' := 69) (l' := [(0, .inr (.inr 361)), (1, .inl x1), (2, .inl x2), (3, .inl x3), (4, .inl x4), (5, .inl x5), (6, .inl (x6 + 1)), (7, .inl 0), (8, .inl z88)]) (st' := []) rfl ?_
                refine h_loc [0, 1, 2, 3, 4, 5, 6, 7] rfl ?_
                rw [hQ9]
                exact ih H122 hI123 hf126 x1 x2 x3 x4 x5 (x6 + 1) (0 : Int) (by omega) (by omega) (by omega) (by omega) (by omega) (by omega) (by decide) (by omega) (by omega) (by omega) (by exfalso; omega) (by exfalso; omega) (by omega)
              · refine k_run 0 (pc' := 184) (l' := [(0, .inr (.inr 361)), (1, .inl x1), (2, .inl x2), (3, .inl x3), (4, .inl x4), (5, .inl x5), (6, .inl x6), (7, .inl z96), (8, .inl z88)]) (st' := []) rfl ?_
                refine k_run 7 (pc' := 199) (l' := [(0, .inr (.inr 361)), (1, .inl x1), (2, .inl x2), (3, .inl x3), (4, .inl x4), (5, .inl x5), (6, .inl x6), (7, .inl 1), (8, .inl z88)]) (st' := [.inl (H111.1 7 6), .inr (.inr 7)]) rfl ?_
                have g127 : 0 ≤ (H111.1 7 6) ∧ (H111.1 7 6) ≤ 16 := kn (x := kx_7) hI112 rfl 6
                have e128 : (H111.1 7 6) = (H91.1 7 6) := (hq113.1 7 6 rfl (by decide) (by decide)).1
                have e129 : (H91.1 7 6) = (H1.1 7 6) := (hq93.1 7 6 rfl (by decide) (by decide)).1
                refine k_run 1 (pc' := 201) (l' := [(0, .inr (.inr 361)), (1, .inl x1), (2, .inl x2), (3, .inl x3), (4, .inl x4), (5, .inl x5), (6, .inl x6), (7, .inl 1), (8, .inl z88)]) (st' := [.inl 1, .inl (H111.1 7 6), .inr (.inr 7)]) rfl ?_
                refine h_zeq (off := 14) (t := 215) rfl rfl (by decide) (fun c => absurd c (by decide)) (fun _ => ?_)
                refine k_run 0 (pc' := 204) (l' := [(0, .inr (.inr 361)), (1, .inl x1), (2, .inl x2), (3, .inl x3), (4, .inl x4), (5, .inl x5), (6, .inl x6), (7, .inl 1), (8, .inl z88)]) (st' := [.inl (H111.1 7 6), .inr (.inr 7)]) rfl ?_
                refine k_run 2 (pc' := 208) (l' := [(0, .inr (.inr 361)), (1, .inl x1), (2, .inl x2), (3, .inl x3), (4, .inl x4), (5, .inl x5), (6, .inl x6), (7, .inl 1), (8, .inl z88)]) (st' := [.inl 7, .inl z88, .inl (H111.1 7 6), .inr (.inr 7)]) rfl ?_
                refine h_ine (off := 7) (t := 215) rfl rfl (by omega) (by decide) (fun c130 => ?_) (fun c130 => ?_)
                · refine k_run 0 (pc' := 215) (l' := [(0, .inr (.inr 361)), (1, .inl x1), (2, .inl x2), (3, .inl x3), (4, .inl x4), (5, .inl x5), (6, .inl x6), (7, .inl 1), (8, .inl z88)]) (st' := [.inl (H111.1 7 6), .inr (.inr 7)]) rfl ?_
                  refine k_run 2 (pc' := 217) (l' := [(0, .inr (.inr 361)), (1, .inl x1), (2, .inl x2), (3, .inl x3), (4, .inl x4), (5, .inl x5), (6, .inl x6), (7, .inl 1), (8, .inl z88)]) (st' := [.inl ((H111.1 7 6) + 0), .inr (.inr 7)]) rfl ?_
                  refine k_puti (z := ((H111.1 7 6) + 0)) (a := 7) (x := kx_7) rfl rfl rfl (by decide) (by decide) rfl rfl rfl rfl hI112 (by omega) (show 0 ≤ ((H111.1 7 6) + 0) ∧ ((H111.1 7 6) + 0) ≤ 16 by omega) (fun H131 hI132 hw133 hv134 => ?_)
                  have hf135 : fq [(2, 5), (7, 5), (7, 6), (8, 4), (13, 4), (18, 4), (361, 3), (361, 4), (361, 5), (361, 6), (361, 7), (361, 8), (361, 9)] [4, 5, 6, 9, 10, 11, 14, 15, 16, 17, 19, 20, 21, 22, 362] true H H131 := fq_w hf117 hw133 (fpo (by decide) rfl)
                  refine k_run 0 (pc' := 220) (l' := [(0, .inr (.inr 361)), (1, .inl x1), (2, .inl x2), (3, .inl x3), (4, .inl x4), (5, .inl x5), (6, .inl x6), (7, .inl 1), (8, .inl z88)]) (st' := []) rfl ?_
                  refine k_run 2 (pc' := 69) (l' := [(0, .inr (.inr 361)), (1, .inl x1), (2, .inl x2), (3, .inl x3), (4, .inl x4), (5, .inl x5), (6, .inl (x6 + 1)), (7, .inl 1), (8, .inl z88)]) (st' := []) rfl ?_
                  refine h_loc [0, 1, 2, 3, 4, 5, 6, 7] rfl ?_
                  rw [hQ9]
                  exact ih H131 hI132 hf135 x1 x2 x3 x4 x5 (x6 + 1) (1 : Int) (by omega) (by omega) (by omega) (by omega) (by omega) (by omega) (by decide) (by omega) (by omega) (by omega) (by exfalso; omega) (by exfalso; omega) (by omega)
                · refine k_run 0 (pc' := 211) (l' := [(0, .inr (.inr 361)), (1, .inl x1), (2, .inl x2), (3, .inl x3), (4, .inl x4), (5, .inl x5), (6, .inl x6), (7, .inl 1), (8, .inl z88)]) (st' := [.inl (H111.1 7 6), .inr (.inr 7)]) rfl ?_
                  refine k_run 3 (pc' := 217) (l' := [(0, .inr (.inr 361)), (1, .inl x1), (2, .inl x2), (3, .inl x3), (4, .inl x4), (5, .inl x5), (6, .inl x6), (7, .inl 1), (8, .inl z88)]) (st' := [.inl ((H111.1 7 6) + 1), .inr (.inr 7)]) rfl ?_
                  refine k_puti (z := ((H111.1 7 6) + 1)) (a := 7) (x := kx_7) rfl rfl rfl (by decide) (by decide) rfl rfl rfl rfl hI112 (by omega) (show 0 ≤ ((H111.1 7 6) + 1) ∧ ((H111.1 7 6) + 1) ≤ 16 by omega) (fun H136 hI137 hw138 hv139 => ?_)
                  have hf140 : fq [(2, 5), (7, 5), (7, 6), (8, 4), (13, 4), (18, 4), (361, 3), (361, 4), (361, 5), (361, 6), (361, 7), (361, 8), (361, 9)] [4, 5, 6, 9, 10, 11, 14, 15, 16, 17, 19, 20, 21, 22, 362] true H H136 := fq_w hf117 hw138 (fpo (by decide) rfl)
                  refine k_run 0 (pc' := 220) (l' := [(0, .inr (.inr 361)), (1, .inl x1), (2, .inl x2), (3, .inl x3), (4, .inl x4), (5, .inl x5), (6, .inl x6), (7, .inl 1), (8, .inl z88)]) (st' := []) rfl ?_
                  refine k_run 2 (pc' := 69) (l' := [(0, .inr (.inr 361)), (1, .inl x1), (2, .inl x2), (3, .inl x3), (4, .inl x4), (5, .inl x5), (6, .inl (x6 + 1)), (7, .inl 1), (8, .inl z88)]) (st' := []) rfl ?_
                  refine h_loc [0, 1, 2, 3, 4, 5, 6, 7] rfl ?_
                  rw [hQ9]
                  exact ih H136 hI137 hf140 x1 x2 x3 x4 x5 (x6 + 1) (1 : Int) (by omega) (by omega) (by omega) (by omega) (by omega) (by omega) (by decide) (by omega) (by omega) (by omega) (by exfalso; omega) (by exfalso; omega) (by omega)
          · refine h_tout (t := 164) rfl (by omega) (Or.inr c89) rfl ?_
            refine k_run 1 (pc' := 165) (l' := [(0, .inr (.inr 361)), (1, .inl x1), (2, .inl x2), (3, .inl x3), (4, .inl x4), (5, .inl x5), (6, .inl x6), (7, .inl x7), (8, .inl z88)]) (st' := [.inr (.inr 361)]) rfl ?_
            refine h_cv (i := 89) (j := 85) (b := 361) (M' := mt_85) (xs := []) (rest := []) rfl rfl rfl rfl (zs_K (x := kx_361) rfl (by decide)) rfl (Nat.le_of_ble_eq_true rfl) (Nat.le_of_ble_eq_true rfl) (by omega) (q_Reader_misplaced (by omega) hI1 (by omega)) ?_
            rintro _ H142 ⟨z147, rfl, g141, hI143, hq144, hp145, hx146⟩
            have hf148 : fq [(2, 5), (7, 5), (7, 6), (8, 4), (13, 4), (18, 4), (361, 3), (361, 4), (361, 5), (361, 6), (361, 7), (361, 8), (361, 9)] [4, 5, 6, 9, 10, 11, 14, 15, 16, 17, 19, 20, 21, 22, 362] true H H142 := fq_t hf1 hq144 rfl rfl rfl
            refine k_run 0 (pc' := 168) (l' := [(0, .inr (.inr 361)), (1, .inl x1), (2, .inl x2), (3, .inl x3), (4, .inl x4), (5, .inl x5), (6, .inl x6), (7, .inl x7), (8, .inl z88)]) (st' := [.inl z147]) rfl ?_
            refine k_run 2 (pc' := 172) (l' := [(0, .inr (.inr 361)), (1, .inl x1), (2, .inl x2), (3, .inl x3), (4, .inl x4), (5, .inl x5), (6, .inl x6), (7, .inl z147), (8, .inl z88)]) (st' := [.inl z147]) rfl ?_
            refine h_zeq (off := 16) (t := 188) rfl rfl (by omega) (fun c149 => ?_) (fun c149 => ?_)
            · refine k_run 0 (pc' := 188) (l' := [(0, .inr (.inr 361)), (1, .inl x1), (2, .inl x2), (3, .inl x3), (4, .inl x4), (5, .inl x5), (6, .inl x6), (7, .inl z147), (8, .inl z88)]) (st' := []) rfl ?_
              refine k_run 6 (pc' := 199) (l' := [(0, .inr (.inr 361)), (1, .inl x1), (2, .inl x2), (3, .inl x3), (4, .inl x4), (5, .inl x5), (6, .inl x6), (7, .inl 0), (8, .inl z88)]) (st' := [.inl (H142.1 7 6), .inr (.inr 7)]) rfl ?_
              have g150 : 0 ≤ (H142.1 7 6) ∧ (H142.1 7 6) ≤ 16 := kn (x := kx_7) hI143 rfl 6
              have e151 : (H142.1 7 6) = (H1.1 7 6) := (hq144.1 7 6 rfl (by decide) (by decide)).1
              refine k_run 1 (pc' := 201) (l' := [(0, .inr (.inr 361)), (1, .inl x1), (2, .inl x2), (3, .inl x3), (4, .inl x4), (5, .inl x5), (6, .inl x6), (7, .inl 0), (8, .inl z88)]) (st' := [.inl 0, .inl (H142.1 7 6), .inr (.inr 7)]) rfl ?_
              refine h_zeq (off := 14) (t := 215) rfl rfl (by decide) (fun _ => ?_) (fun c => absurd c (by decide))
              refine k_run 0 (pc' := 215) (l' := [(0, .inr (.inr 361)), (1, .inl x1), (2, .inl x2), (3, .inl x3), (4, .inl x4), (5, .inl x5), (6, .inl x6), (7, .inl 0), (8, .inl z88)]) (st' := [.inl (H142.1 7 6), .inr (.inr 7)]) rfl ?_
              refine k_run 2 (pc' := 217) (l' := [(0, .inr (.inr 361)), (1, .inl x1), (2, .inl x2), (3, .inl x3), (4, .inl x4), (5, .inl x5), (6, .inl x6), (7, .inl 0), (8, .inl z88)]) (st' := [.inl ((H142.1 7 6) + 0), .inr (.inr 7)]) rfl ?_
              refine k_puti (z := ((H142.1 7 6) + 0)) (a := 7) (x := kx_7) rfl rfl rfl (by decide) (by decide) rfl rfl rfl rfl hI143 (by omega) (show 0 ≤ ((H142.1 7 6) + 0) ∧ ((H142.1 7 6) + 0) ≤ 16 by omega) (fun H152 hI153 hw154 hv155 => ?_)
              have hf156 : fq [(2, 5), (7, 5), (7, 6), (8, 4), (13, 4), (18, 4), (361, 3), (361, 4), (361, 5), (361, 6), (361, 7), (361, 8), (361, 9)] [4, 5, 6, 9, 10, 11, 14, 15, 16, 17, 19, 20, 21, 22, 362] true H H152 := fq_w hf148 hw154 (fpo (by decide) rfl)
              refine k_run 0 (pc' := 220) (l' := [(0, .inr (.inr 361)), (1, .inl x1), (2, .inl x2), (3, .inl x3), (4, .inl x4), (5, .inl x5), (6, .inl x6), (7, .inl 0), (8, .inl z88)]) (st' := []) rfl ?_
              refine k_run 2 (pc' := 69) (l' := [(0, .inr (.inr 361)), (1, .inl x1), (2, .inl x2), (3, .inl x3), (4, .inl x4), (5, .inl x5), (6, .inl (x6 + 1)), (7, .inl 0), (8, .inl z88)]) (st' := []) rfl ?_
              refine h_loc [0, 1, 2, 3, 4, 5, 6, 7] rfl ?_
              rw [hQ9]
              exact ih H152 hI153 hf156 x1 x2 x3 x4 x5 (x6 + 1) (0 : Int) (by omega) (by omega) (by omega) (by omega) (by omega) (by omega) (by decide) (by omega) (by omega) (by omega) (by first | (exfalso; omega) | exact Or.inr ⟨rfl, FB_l0 (FB_mk (k := if tk (H.1 3, (H.1 2 1).toNat) (xi X1) = 1 then 1 else 2) k2 hp145 nF45 (rch_st k1 (by show stDec (H.1 3, (H.1 2 1).toNat) x6 [] X1 = _; unfold stDec; rw [if_neg (by omega), if_neg (by omega), if_neg (by omega), if_neg (by omega), if_neg (by omega)]; rfl)) (hx146.1.trans (by rw [htk1])) hx146.2) hw154 (by have q9 := hv155; omega)⟩) (oS_tr hi4 (oS_NE (e := 0) (NE_tr (NE_fwo hp145 (by simp)) (NE_w hw154 (sc_no (by omega)))) (by omega) (Or.inl rfl))) (by omega)
            · refine k_run 0 (pc' := 175) (l' := [(0, .inr (.inr 361)), (1, .inl x1), (2, .inl x2), (3, .inl x3), (4, .inl x4), (5, .inl x5), (6, .inl x6), (7, .inl z147), (8, .inl z88)]) (st' := []) rfl ?_
              refine k_run 2 (pc' := 178) (l' := [(0, .inr (.inr 361)), (1, .inl x1), (2, .inl x2), (3, .inl x3), (4, .inl x4), (5, .inl x5), (6, .inl x6), (7, .inl z147), (8, .inl z88)]) (st' := [.inl 59, .inr (.inr 361)]) rfl ?_
              have g157 : -2147483648 ≤ (H142.1 361 3) ∧ (H142.1 361 3) ≤ 2147483647 := kn (x := kx_361) hI143 rfl 3
              have e158 : (H142.1 361 3) = (H1.1 361 3) := (hq144.1 361 3 rfl (by decide) (by decide)).1
              have g159 : 0 ≤ (H142.1 2 5) ∧ (H142.1 2 5) ≤ 1001 := kn (x := kx_2) hI143 rfl 5
              have e160 : (H142.1 2 5) = (H1.1 2 5) := (hq144.1 2 5 rfl (by decide) (by decide)).1
              refine h_cv (i := 92) (j := 82) (b := 361) (M' := mt_82) (xs := [.inl 59]) (rest := []) rfl rfl rfl rfl (zs_K (x := kx_361) rfl (by decide)) rfl (Nat.le_of_ble_eq_true rfl) (Nat.le_of_ble_eq_true rfl) (by omega) (q_Reader_take (by omega) hI143 (by decide) (by omega)) ?_
              rintro _ H162 ⟨z167, rfl, g161, hI163, hq164, hp165, hx166⟩
              have hf168 : fq [(2, 5), (7, 5), (7, 6), (8, 4), (13, 4), (18, 4), (361, 3), (361, 4), (361, 5), (361, 6), (361, 7), (361, 8), (361, 9)] [4, 5, 6, 9, 10, 11, 14, 15, 16, 17, 19, 20, 21, 22, 362] true H H162 := fq_t hf148 hq164 rfl rfl rfl
              refine k_run 0 (pc' := 181) (l' := [(0, .inr (.inr 361)), (1, .inl x1), (2, .inl x2), (3, .inl x3), (4, .inl x4), (5, .inl x5), (6, .inl x6), (7, .inl z147), (8, .inl z88)]) (st' := [.inl z167]) rfl ?_
              refine h_zeq (off := 7) (t := 188) rfl rfl (by omega) (fun c169 => ?_) (fun c169 => ?_)
              · refine k_run 0 (pc' := 188) (l' := [(0, .inr (.inr 361)), (1, .inl x1), (2, .inl x2), (3, .inl x3), (4, .inl x4), (5, .inl x5), (6, .inl x6), (7, .inl z147), (8, .inl z88)]) (st' := []) rfl ?_
                refine k_run 6 (pc' := 199) (l' := [(0, .inr (.inr 361)), (1, .inl x1), (2, .inl x2), (3, .inl x3), (4, .inl x4), (5, .inl x5), (6, .inl x6), (7, .inl 0), (8, .inl z88)]) (st' := [.inl (H162.1 7 6), .inr (.inr 7)]) rfl ?_
                have g170 : 0 ≤ (H162.1 7 6) ∧ (H162.1 7 6) ≤ 16 := kn (x := kx_7) hI163 rfl 6
                have e171 : (H162.1 7 6) = (H142.1 7 6) := (hq164.1 7 6 rfl (by decide) (by decide)).1
                have e172 : (H142.1 7 6) = (H1.1 7 6) := (hq144.1 7 6 rfl (by decide) (by decide)).1
                refine k_run 1 (pc' := 201) (l' := [(0, .inr (.inr 361)), (1, .inl x1), (2, .inl x2), (3, .inl x3), (4, .inl x4), (5, .inl x5), (6, .inl x6), (7, .inl 0), (8, .inl z88)]) (st' := [.inl 0, .inl (H162.1 7 6), .inr (.inr 7)]) rfl ?_
                refine h_zeq (off := 14) (t := 215) rfl rfl (by decide) (fun _ => ?_) (fun c => absurd c (by decide))
                refine k_run 0 (pc' := 215) (l' := [(0, .inr (.inr 361)), (1, .inl x1), (2, .inl x2), (3, .inl x3), (4, .inl x4), (5, .inl x5), (6, .inl x6), (7, .inl 0), (8, .inl z88)]) (st' := [.inl (H162.1 7 6), .inr (.inr 7)]) rfl ?_
                refine k_run 2 (pc' := 217) (l' := [(0, .inr (.inr 361)), (1, .inl x1), (2, .inl x2), (3, .inl x3), (4, .inl x4), (5, .inl x5), (6, .inl x6), (7, .inl 0), (8, .inl z88)]) (st' := [.inl ((H162.1 7 6) + 0), .inr (.inr 7)]) rfl ?_
                refine k_puti (z := ((H162.1 7 6) + 0)) (a := 7) (x := kx_7) rfl rfl rfl (by decide) (by decide) rfl rfl rfl rfl hI163 (by omega) (show 0 ≤ ((H162.1 7 6) + 0) ∧ ((H162.1 7 6) + 0) ≤ 16 by omega) (fun H173 hI174 hw175 hv176 => ?_)
                have hf177 : fq [(2, 5), (7, 5), (7, 6), (8, 4), (13, 4), (18, 4), (361, 3), (361, 4), (361, 5), (361, 6), (361, 7), (361, 8), (361, 9)] [4, 5, 6, 9, 10, 11, 14, 15, 16, 17, 19, 20, 21, 22, 362] true H H173 := fq_w hf168 hw175 (fpo (by decide) rfl)
                refine k_run 0 (pc' := 220) (l' := [(0, .inr (.inr 361)), (1, .inl x1), (2, .inl x2), (3, .inl x3), (4, .inl x4), (5, .inl x5), (6, .inl x6), (7, .inl 0), (8, .inl z88)]) (st' := []) rfl ?_
                refine k_run 2 (pc' := 69) (l' := [(0, .inr (.inr 361)), (1, .inl x1), (2, .inl x2), (3, .inl x3), (4, .inl x4), (5, .inl x5), (6, .inl (x6 + 1)), (7, .inl 0), (8, .inl z88)]) (st' := []) rfl ?_
                refine h_loc [0, 1, 2, 3, 4, 5, 6, 7] rfl ?_
                rw [hQ9]
                exact ih H173 hI174 hf177 x1 x2 x3 x4 x5 (x6 + 1) (0 : Int) (by omega) (by omega) (by omega) (by omega) (by omega) (by omega) (by decide) (by omega) (by omega) (by omega) (by exfalso; omega) (by exfalso; omega) (by omega)
              · refine k_run 0 (pc' := 184) (l' := [(0, .inr (.inr 361)), (1, .inl x1), (2, .inl x2), (3, .inl x3), (4, .inl x4), (5, .inl x5), (6, .inl x6), (7, .inl z147), (8, .inl z88)]) (st' := []) rfl ?_
                refine k_run 7 (pc' := 199) (l' := [(0, .inr (.inr 361)), (1, .inl x1), (2, .inl x2), (3, .inl x3), (4, .inl x4), (5, .inl x5), (6, .inl x6), (7, .inl 1), (8, .inl z88)]) (st' := [.inl (H162.1 7 6), .inr (.inr 7)]) rfl ?_
                have g178 : 0 ≤ (H162.1 7 6) ∧ (H162.1 7 6) ≤ 16 := kn (x := kx_7) hI163 rfl 6
                have e179 : (H162.1 7 6) = (H142.1 7 6) := (hq164.1 7 6 rfl (by decide) (by decide)).1
                have e180 : (H142.1 7 6) = (H1.1 7 6) := (hq144.1 7 6 rfl (by decide) (by decide)).1
                refine k_run 1 (pc' := 201) (l' := [(0, .inr (.inr 361)), (1, .inl x1), (2, .inl x2), (3, .inl x3), (4, .inl x4), (5, .inl x5), (6, .inl x6), (7, .inl 1), (8, .inl z88)]) (st' := [.inl 1, .inl (H162.1 7 6), .inr (.inr 7)]) rfl ?_
                refine h_zeq (off := 14) (t := 215) rfl rfl (by decide) (fun c => absurd c (by decide)) (fun _ => ?_)
                refine k_run 0 (pc' := 204) (l' := [(0, .inr (.inr 361)), (1, .inl x1), (2, .inl x2), (3, .inl x3), (4, .inl x4), (5, .inl x5), (6, .inl x6), (7, .inl 1), (8, .inl z88)]) (st' := [.inl (H162.1 7 6), .inr (.inr 7)]) rfl ?_
                refine k_run 2 (pc' := 208) (l' := [(0, .inr (.inr 361)), (1, .inl x1), (2, .inl x2), (3, .inl x3), (4, .inl x4), (5, .inl x5), (6, .inl x6), (7, .inl 1), (8, .inl z88)]) (st' := [.inl 7, .inl z88, .inl (H162.1 7 6), .inr (.inr 7)]) rfl ?_
                refine h_ine (off := 7) (t := 215) rfl rfl (by omega) (by decide) (fun c181 => ?_) (fun c181 => ?_)
                · refine k_run 0 (pc' := 215) (l' := [(0, .inr (.inr 361)), (1, .inl x1), (2, .inl x2), (3, .inl x3), (4, .inl x4), (5, .inl x5), (6, .inl x6), (7, .inl 1), (8, .inl z88)]) (st' := [.inl (H162.1 7 6), .inr (.inr 7)]) rfl ?_
                  refine k_run 2 (pc' := 217) (l' := [(0, .inr (.inr 361)), (1, .inl x1), (2, .inl x2), (3, .inl x3), (4, .inl x4), (5, .inl x5), (6, .inl x6), (7, .inl 1), (8, .inl z88)]) (st' := [.inl ((H162.1 7 6) + 0), .inr (.inr 7)]) rfl ?_
                  refine k_puti (z := ((H162.1 7 6) + 0)) (a := 7) (x := kx_7) rfl rfl rfl (by decide) (by decide) rfl rfl rfl rfl hI163 (by omega) (show 0 ≤ ((H162.1 7 6) + 0) ∧ ((H162.1 7 6) + 0) ≤ 16 by omega) (fun H182 hI183 hw184 hv185 => ?_)
                  have hf186 : fq [(2, 5), (7, 5), (7, 6), (8, 4), (13, 4), (18, 4), (361, 3), (361, 4), (361, 5), (361, 6), (361, 7), (361, 8), (361, 9)] [4, 5, 6, 9, 10, 11, 14, 15, 16, 17, 19, 20, 21, 22, 362] true H H182 := fq_w hf168 hw184 (fpo (by decide) rfl)
                  refine k_run 0 (pc' := 220) (l' := [(0, .inr (.inr 361)), (1, .inl x1), (2, .inl x2), (3, .inl x3), (4, .inl x4), (5, .inl x5), (6, .inl x6), (7, .inl 1), (8, .inl z88)]) (st' := []) rfl ?_
                  refine k_run 2 (pc' := 69) (l' := [(0, .inr (.inr 361)), (1, .inl x1), (2, .inl x2), (3, .inl x3), (4, .inl x4), (5, .inl x5), (6, .inl (x6 + 1)), (7, .inl 1), (8, .inl z88)]) (st' := []) rfl ?_
                  refine h_loc [0, 1, 2, 3, 4, 5, 6, 7] rfl ?_
                  rw [hQ9]
                  exact ih H182 hI183 hf186 x1 x2 x3 x4 x5 (x6 + 1) (1 : Int) (by omega) (by omega) (by omega) (by omega) (by omega) (by omega) (by decide) (by omega) (by omega) (by omega) (by exfalso; omega) (by exfalso; omega) (by omega)
                · refine k_run 0 (pc' := 211) (l' := [(0, .inr (.inr 361)), (1, .inl x1), (2, .inl x2), (3, .inl x3), (4, .inl x4), (5, .inl x5), (6, .inl x6), (7, .inl 1), (8, .inl z88)]) (st' := [.inl (H162.1 7 6), .inr (.inr 7)]) rfl ?_
                  refine k_run 3 (pc' := 217) (l' := [(0, .inr (.inr 361)), (1, .inl x1), (2, .inl x2), (3, .inl x3), (4, .inl x4), (5, .inl x5), (6, .inl x6), (7, .inl 1), (8, .inl z88)]) (st' := [.inl ((H162.1 7 6) + 1), .inr (.inr 7)]) rfl ?_
                  refine k_puti (z := ((H162.1 7 6) + 1)) (a := 7) (x := kx_7) rfl rfl rfl (by decide) (by decide) rfl rfl rfl rfl hI163 (by omega) (show 0 ≤ ((H162.1 7 6) + 1) ∧ ((H162.1 7 6) + 1) ≤ 16 by omega) (fun H187 hI188 hw189 hv190 => ?_)
                  have hf191 : fq [(2, 5), (7, 5), (7, 6), (8, 4), (13, 4), (18, 4), (361, 3), (361, 4), (361, 5), (361, 6), (361, 7), (361, 8), (361, 9)] [4, 5, 6, 9, 10, 11, 14, 15, 16, 17, 19, 20, 21, 22, 362] true H H187 := fq_w hf168 hw189 (fpo (by decide) rfl)
                  refine k_run 0 (pc' := 220) (l' := [(0, .inr (.inr 361)), (1, .inl x1), (2, .inl x2), (3, .inl x3), (4, .inl x4), (5, .inl x5), (6, .inl x6), (7, .inl 1), (8, .inl z88)]) (st' := []) rfl ?_
                  refine k_run 2 (pc' := 69) (l' := [(0, .inr (.inr 361)), (1, .inl x1), (2, .inl x2), (3, .inl x3), (4, .inl x4), (5, .inl x5), (6, .inl (x6 + 1)), (7, .inl 1), (8, .inl z88)]) (st' := []) rfl ?_
                  refine h_loc [0, 1, 2, 3, 4, 5, 6, 7] rfl ?_
                  rw [hQ9]
                  exact ih H187 hI188 hf191 x1 x2 x3 x4 x5 (x6 + 1) (1 : Int) (by omega) (by omega) (by omega) (by omega) (by omega) (by omega) (by decide) (by omega) (by omega) (by omega) (by exfalso; omega) (by exfalso; omega) (by omega)
          · refine h_tin (k := 0) (t := 128) rfl (by omega) (show z88 = 4 + ((0 : Nat) : Int) by omega) (by decide) rfl rfl ?_
            refine k_run 1 (pc' := 129) (l' := [(0, .inr (.inr 361)), (1, .inl x1), (2, .inl x2), (3, .inl x3), (4, .inl x4), (5, .inl x5), (6, .inl x6), (7, .inl x7), (8, .inl z88)]) (st' := [.inr (.inr 361)]) rfl ?_
            refine h_cv (i := 76) (j := 64) (b := 361) (M' := mt_64) (xs := []) (rest := []) rfl rfl rfl rfl (zs_K (x := kx_361) rfl (by decide)) rfl (Nat.le_of_ble_eq_true rfl) (Nat.le_of_ble_eq_true rfl) (by omega) (q_Reader_readData (by omega) hI1 k2 (show rch (H.1 3, (H.1 2 1).toNat) ([(6, x6, 0, 0)], X1) ((6, x6, 0, 0) :: [], X1) from rch_rf _ _) (by omega) k3) ?_
            rintro _ H193 ⟨z198, rfl, g192, hI194, hq195, hx197⟩
            have hf199 : fq [(2, 5), (7, 5), (7, 6), (8, 4), (13, 4), (18, 4), (361, 3), (361, 4), (361, 5), (361, 6), (361, 7), (361, 8), (361, 9)] [4, 5, 6, 9, 10, 11, 14, 15, 16, 17, 19, 20, 21, 22, 362] true H H193 := fq_t hf1 hq195 rfl rfl rfl
            refine k_run 0 (pc' := 132) (l' := [(0, .inr (.inr 361)), (1, .inl x1), (2, .inl x2), (3, .inl x3), (4, .inl x4), (5, .inl x5), (6, .inl x6), (7, .inl x7), (8, .inl z88)]) (st' := [.inl z198]) rfl ?_
            refine k_run 3 (pc' := 172) (l' := [(0, .inr (.inr 361)), (1, .inl x1), (2, .inl x2), (3, .inl x3), (4, .inl x4), (5, .inl x5), (6, .inl x6), (7, .inl z198), (8, .inl z88)]) (st' := [.inl z198]) rfl ?_
            refine h_zeq (off := 16) (t := 188) rfl rfl (by omega) (fun c200 => ?_) (fun c200 => ?_)
            · refine k_run 0 (pc' := 188) (l' := [(0, .inr (.inr 361)), (1, .inl x1), (2, .inl x2), (3, .inl x3), (4, .inl x4), (5, .inl x5), (6, .inl x6), (7, .inl z198), (8, .inl z88)]) (st' := []) rfl ?_
              refine k_run 6 (pc' := 199) (l' := [(0, .inr (.inr 361)), (1, .inl x1), (2, .inl x2), (3, .inl x3), (4, .inl x4), (5, .inl x5), (6, .inl x6), (7, .inl 0), (8, .inl z88)]) (st' := [.inl (H193.1 7 6), .inr (.inr 7)]) rfl ?_
              have g201 : 0 ≤ (H193.1 7 6) ∧ (H193.1 7 6) ≤ 16 := kn (x := kx_7) hI194 rfl 6
              have e202 : (H193.1 7 6) = (H1.1 7 6) := (hq195.1 7 6 rfl (by decide) (by decide)).1
              refine k_run 1 (pc' := 201) (l' := [(0, .inr (.inr 361)), (1, .inl x1), (2, .inl x2), (3, .inl x3), (4, .inl x4), (5, .inl x5), (6, .inl x6), (7, .inl 0), (8, .inl z88)]) (st' := [.inl 0, .inl (H193.1 7 6), .inr (.inr 7)]) rfl ?_
              refine h_zeq (off := 14) (t := 215) rfl rfl (by decide) (fun _ => ?_) (fun c => absurd c (by decide))
              refine k_run 0 (pc' := 215) (l' := [(0, .inr (.inr 361)), (1, .inl x1), (2, .inl x2), (3, .inl x3), (4, .inl x4), (5, .inl x5), (6, .inl x6), (7, .inl 0), (8, .inl z88)]) (st' := [.inl (H193.1 7 6), .inr (.inr 7)]) rfl ?_
              refine k_run 2 (pc' := 217) (l' := [(0, .inr (.inr 361)), (1, .inl x1), (2, .inl x2), (3, .inl x3), (4, .inl x4), (5, .inl x5), (6, .inl x6), (7, .inl 0), (8, .inl z88)]) (st' := [.inl ((H193.1 7 6) + 0), .inr (.inr 7)]) rfl ?_
              refine k_puti (z := ((H193.1 7 6) + 0)) (a := 7) (x := kx_7) rfl rfl rfl (by decide) (by decide) rfl rfl rfl rfl hI194 (by omega) (show 0 ≤ ((H193.1 7 6) + 0) ∧ ((H193.1 7 6) + 0) ≤ 16 by omega) (fun H203 hI204 hw205 hv206 => ?_)
              have hf207 : fq [(2, 5), (7, 5), (7, 6), (8, 4), (13, 4), (18, 4), (361, 3), (361, 4), (361, 5), (361, 6), (361, 7), (361, 8), (361, 9)] [4, 5, 6, 9, 10, 11, 14, 15, 16, 17, 19, 20, 21, 22, 362] true H H203 := fq_w hf199 hw205 (fpo (by decide) rfl)
              refine k_run 0 (pc' := 220) (l' := [(0, .inr (.inr 361)), (1, .inl x1), (2, .inl x2), (3, .inl x3), (4, .inl x4), (5, .inl x5), (6, .inl x6), (7, .inl 0), (8, .inl z88)]) (st' := []) rfl ?_
              refine k_run 2 (pc' := 69) (l' := [(0, .inr (.inr 361)), (1, .inl x1), (2, .inl x2), (3, .inl x3), (4, .inl x4), (5, .inl x5), (6, .inl (x6 + 1)), (7, .inl 0), (8, .inl z88)]) (st' := []) rfl ?_
              refine h_loc [0, 1, 2, 3, 4, 5, 6, 7] rfl ?_
              rw [hQ9]
              exact ih H203 hI204 hf207 x1 x2 x3 x4 x5 (x6 + 1) (0 : Int) (by omega) (by omega) (by omega) (by omega) (by omega) (by omega) (by decide) (by omega) (by omega) (by omega) (by first | (exfalso; omega) | exact Or.inr ⟨rfl, FB_l0 (FB_tr k1 (Or.resolve_left hx197.1 (fun q9 => by have := q9.1; omega)).2) hw205 (by have q9 := hv206; omega)⟩) (by first | (exfalso; omega) | exact oS_tr hi4 (oS_tr (oS_NE (X := X) hx197.2 (by omega) (Or.inl rfl)) (oS_NE (NE_w (e := 0) hw205 (sc_no (by omega))) (by omega) (Or.inl rfl)))) (by omega)
            · refine k_run 0 (pc' := 175) (l' := [(0, .inr (.inr 361)), (1, .inl x1), (2, .inl x2), (3, .inl x3), (4, .inl x4), (5, .inl x5), (6, .inl x6), (7, .inl z198), (8, .inl z88)]) (st' := []) rfl ?_
              obtain ⟨X2, m1, m2, m3⟩ := (Or.resolve_right hx197.1 (fun q9 => by have := q9.1; omega)).2
              have hpa2 := RB_pa m2
              have htk2 := RB_tk m2
              have hl2 := m2.2.1.1.2.2.2.2
              have hl26 := m2.2.1.1.2.2.2.1
              have m1t := rch_tr k1 m1
              obtain ⟨hj2, hl2b⟩ := hJL _ _ m1
              have b26 : 0 ≤ H193.1 7 5 ∧ H193.1 7 5 ≤ 40 := kn (x := kx_7) hI194 rfl 5
              have b27 : 0 ≤ H193.1 7 6 ∧ H193.1 7 6 ≤ 16 := kn (x := kx_7) hI194 rfl 6
              have f26 : H193.1 7 6 = H1.1 7 6 := (hq195.1 7 6 rfl (by decide) (by decide)).1
              have f25 : H193.1 7 5 = H1.1 7 5 := (hq195.1 7 5 rfl (by decide) (by decide)).1
              have hS2 : SC H193 X2 := SC_new k4 hM1 hj2 hl2b (oS_NE (X := X1) hx197.2 (by omega) (Or.inl rfl)) (fun r r1 r2 r3 => absurd r3 (by omega)) (by omega)
              refine k_run 2 (pc' := 178) (l' := [(0, .inr (.inr 361)), (1, .inl x1), (2, .inl x2), (3, .inl x3), (4, .inl x4), (5, .inl x5), (6, .inl x6), (7, .inl z198), (8, .inl z88)]) (st' := [.inl 59, .inr (.inr 361)]) rfl ?_
              have g208 : -2147483648 ≤ (H193.1 361 3) ∧ (H193.1 361 3) ≤ 2147483647 := kn (x := kx_361) hI194 rfl 3
              have g209 : 0 ≤ (H193.1 2 5) ∧ (H193.1 2 5) ≤ 1001 := kn (x := kx_2) hI194 rfl 5
              have e210 : (H193.1 2 5) = (H1.1 2 5) := (hq195.1 2 5 rfl (by decide) (by decide)).1
              refine h_cv (i := 92) (j := 82) (b := 361) (M' := mt_82) (xs := [.inl 59]) (rest := []) rfl rfl rfl rfl (zs_K (x := kx_361) rfl (by decide)) rfl (Nat.le_of_ble_eq_true rfl) (Nat.le_of_ble_eq_true rfl) (by omega) (q_Reader_take (by omega) hI194 (by decide) (by omega)) ?_
              rintro _ H212 ⟨z217, rfl, g211, hI213, hq214, hp215, hx216⟩
              have hf218 : fq [(2, 5), (7, 5), (7, 6), (8, 4), (13, 4), (18, 4), (361, 3), (361, 4), (361, 5), (361, 6), (361, 7), (361, 8), (361, 9)] [4, 5, 6, 9, 10, 11, 14, 15, 16, 17, 19, 20, 21, 22, 362] true H H212 := fq_t hf199 hq214 rfl rfl rfl
              refine k_run 0 (pc' := 181) (l' := [(0, .inr (.inr 361)), (1, .inl x1), (2, .inl x2), (3, .inl x3), (4, .inl x4), (5, .inl x5), (6, .inl x6), (7, .inl z198), (8, .inl z88)]) (st' := [.inl z217]) rfl ?_
              refine h_zeq (off := 7) (t := 188) rfl rfl (by omega) (fun c219 => ?_) (fun c219 => ?_)
              · refine k_run 0 (pc' := 188) (l' := [(0, .inr (.inr 361)), (1, .inl x1), (2, .inl x2), (3, .inl x3), (4, .inl x4), (5, .inl x5), (6, .inl x6), (7, .inl z198), (8, .inl z88)]) (st' := []) rfl ?_
                refine k_run 6 (pc' := 199) (l' := [(0, .inr (.inr 361)), (1, .inl x1), (2, .inl x2), (3, .inl x3), (4, .inl x4), (5, .inl x5), (6, .inl x6), (7, .inl 0), (8, .inl z88)]) (st' := [.inl (H212.1 7 6), .inr (.inr 7)]) rfl ?_
                have g220 : 0 ≤ (H212.1 7 6) ∧ (H212.1 7 6) ≤ 16 := kn (x := kx_7) hI213 rfl 6
                have e221 : (H212.1 7 6) = (H193.1 7 6) := (hq214.1 7 6 rfl (by decide) (by decide)).1
                have e222 : (H193.1 7 6) = (H1.1 7 6) := (hq195.1 7 6 rfl (by decide) (by decide)).1
                refine k_run 1 (pc' := 201) (l' := [(0, .inr (.inr 361)), (1, .inl x1), (2, .inl x2), (3, .inl x3), (4, .inl x4), (5, .inl x5), (6, .inl x6), (7, .inl 0), (8, .inl z88)]) (st' := [.inl 0, .inl (H212.1 7 6), .inr (.inr 7)]) rfl ?_
                refine h_zeq (off := 14) (t := 215) rfl rfl (by decide) (fun _ => ?_) (fun c => absurd c (by decide))
                refine k_run 0 (pc' := 215) (l' := [(0, .inr (.inr 361)), (1, .inl x1), (2, .inl x2), (3, .inl x3), (4, .inl x4), (5, .inl x5), (6, .inl x6), (7, .inl 0), (8, .inl z88)]) (st' := [.inl (H212.1 7 6), .inr (.inr 7)]) rfl ?_
                refine k_run 2 (pc' := 217) (l' := [(0, .inr (.inr 361)), (1, .inl x1), (2, .inl x2), (3, .inl x3), (4, .inl x4), (5, .inl x5), (6, .inl x6), (7, .inl 0), (8, .inl z88)]) (st' := [.inl ((H212.1 7 6) + 0), .inr (.inr 7)]) rfl ?_
                refine k_puti (z := ((H212.1 7 6) + 0)) (a := 7) (x := kx_7) rfl rfl rfl (by decide) (by decide) rfl rfl rfl rfl hI213 (by omega) (show 0 ≤ ((H212.1 7 6) + 0) ∧ ((H212.1 7 6) + 0) ≤ 16 by omega) (fun H223 hI224 hw225 hv226 => ?_)
                have hf227 : fq [(2, 5), (7, 5), (7, 6), (8, 4), (13, 4), (18, 4), (361, 3), (361, 4), (361, 5), (361, 6), (361, 7), (361, 8), (361, 9)] [4, 5, 6, 9, 10, 11, 14, 15, 16, 17, 19, 20, 21, 22, 362] true H H223 := fq_w hf218 hw225 (fpo (by decide) rfl)
                refine k_run 0 (pc' := 220) (l' := [(0, .inr (.inr 361)), (1, .inl x1), (2, .inl x2), (3, .inl x3), (4, .inl x4), (5, .inl x5), (6, .inl x6), (7, .inl 0), (8, .inl z88)]) (st' := []) rfl ?_
                refine k_run 2 (pc' := 69) (l' := [(0, .inr (.inr 361)), (1, .inl x1), (2, .inl x2), (3, .inl x3), (4, .inl x4), (5, .inl x5), (6, .inl (x6 + 1)), (7, .inl 0), (8, .inl z88)]) (st' := []) rfl ?_
                refine h_loc [0, 1, 2, 3, 4, 5, 6, 7] rfl ?_
                rw [htk2] at hx216
                rw [hQ9]
                exact ih H223 hI224 hf227 x1 x2 x3 x4 x5 (x6 + 1) (0 : Int) (by omega) (by omega) (by omega) (by omega) (by omega) (by omega) (by decide) (by omega) (by omega) (by omega) (by first | (exfalso; omega) | exact Or.inr ⟨rfl, FB_l0 (Or.elim hx216 (fun e => absurd e.1 (by omega)) (fun e => FB_mk m2 hp215 nT345 (rch_st m1t (by show (if tk (H.1 3, (H.1 2 1).toNat) (xi X2) = 59 then _ else _) = _; rw [if_neg e.2.1]; rfl)) e.2.2.2.1 e.2.2.2.2)) hw225 (by have q9 := hv226; omega)⟩) (by first | (exfalso; omega) | exact oS_tr hi4 (oS_tr (oS_NE (X := X) hx197.2 (by omega) (Or.inl rfl)) (oS_NE (NE_tr (NE_fwo hp215 (by simp)) (NE_w hw225 (sc_no (by omega)))) (by omega) (Or.inl rfl)))) (by omega)
              · refine k_run 0 (pc' := 184) (l' := [(0, .inr (.inr 361)), (1, .inl x1), (2, .inl x2), (3, .inl x3), (4, .inl x4), (5, .inl x5), (6, .inl x6), (7, .inl z198), (8, .inl z88)]) (st' := []) rfl ?_
                refine k_run 7 (pc' := 199) (l' := [(0, .inr (.inr 361)), (1, .inl x1), (2, .inl x2), (3, .inl x3), (4, .inl x4), (5, .inl x5), (6, .inl x6), (7, .inl 1), (8, .inl z88)]) (st' := [.inl (H212.1 7 6), .inr (.inr 7)]) rfl ?_
                have g228 : 0 ≤ (H212.1 7 6) ∧ (H212.1 7 6) ≤ 16 := kn (x := kx_7) hI213 rfl 6
                have e229 : (H212.1 7 6) = (H193.1 7 6) := (hq214.1 7 6 rfl (by decide) (by decide)).1
                have e230 : (H193.1 7 6) = (H1.1 7 6) := (hq195.1 7 6 rfl (by decide) (by decide)).1
                refine k_run 1 (pc' := 201) (l' := [(0, .inr (.inr 361)), (1, .inl x1), (2, .inl x2), (3, .inl x3), (4, .inl x4), (5, .inl x5), (6, .inl x6), (7, .inl 1), (8, .inl z88)]) (st' := [.inl 1, .inl (H212.1 7 6), .inr (.inr 7)]) rfl ?_
                refine h_zeq (off := 14) (t := 215) rfl rfl (by decide) (fun c => absurd c (by decide)) (fun _ => ?_)
                refine k_run 0 (pc' := 204) (l' := [(0, .inr (.inr 361)), (1, .inl x1), (2, .inl x2), (3, .inl x3), (4, .inl x4), (5, .inl x5), (6, .inl x6), (7, .inl 1), (8, .inl z88)]) (st' := [.inl (H212.1 7 6), .inr (.inr 7)]) rfl ?_
                refine k_run 2 (pc' := 208) (l' := [(0, .inr (.inr 361)), (1, .inl x1), (2, .inl x2), (3, .inl x3), (4, .inl x4), (5, .inl x5), (6, .inl x6), (7, .inl 1), (8, .inl z88)]) (st' := [.inl 7, .inl z88, .inl (H212.1 7 6), .inr (.inr 7)]) rfl ?_
                refine h_ine (off := 7) (t := 215) rfl rfl (by omega) (by decide) (fun c231 => ?_) (fun c231 => ?_)
                · refine k_run 0 (pc' := 215) (l' := [(0, .inr (.inr 361)), (1, .inl x1), (2, .inl x2), (3, .inl x3), (4, .inl x4), (5, .inl x5), (6, .inl x6), (7, .inl 1), (8, .inl z88)]) (st' := [.inl (H212.1 7 6), .inr (.inr 7)]) rfl ?_
                  refine k_run 2 (pc' := 217) (l' := [(0, .inr (.inr 361)), (1, .inl x1), (2, .inl x2), (3, .inl x3), (4, .inl x4), (5, .inl x5), (6, .inl x6), (7, .inl 1), (8, .inl z88)]) (st' := [.inl ((H212.1 7 6) + 0), .inr (.inr 7)]) rfl ?_
                  refine k_puti (z := ((H212.1 7 6) + 0)) (a := 7) (x := kx_7) rfl rfl rfl (by decide) (by decide) rfl rfl rfl rfl hI213 (by omega) (show 0 ≤ ((H212.1 7 6) + 0) ∧ ((H212.1 7 6) + 0) ≤ 16 by omega) (fun H232 hI233 hw234 hv235 => ?_)
                  have hf236 : fq [(2, 5), (7, 5), (7, 6), (8, 4), (13, 4), (18, 4), (361, 3), (361, 4), (361, 5), (361, 6), (361, 7), (361, 8), (361, 9)] [4, 5, 6, 9, 10, 11, 14, 15, 16, 17, 19, 20, 21, 22, 362] true H H232 := fq_w hf218 hw234 (fpo (by decide) rfl)
                  refine k_run 0 (pc' := 220) (l' := [(0, .inr (.inr 361)), (1, .inl x1), (2, .inl x2), (3, .inl x3), (4, .inl x4), (5, .inl x5), (6, .inl x6), (7, .inl 1), (8, .inl z88)]) (st' := []) rfl ?_
                  refine k_run 2 (pc' := 69) (l' := [(0, .inr (.inr 361)), (1, .inl x1), (2, .inl x2), (3, .inl x3), (4, .inl x4), (5, .inl x5), (6, .inl (x6 + 1)), (7, .inl 1), (8, .inl z88)]) (st' := []) rfl ?_
                  refine h_loc [0, 1, 2, 3, 4, 5, 6, 7] rfl ?_
                  rw [htk2] at hx216
                  obtain ⟨t11, t12, t13⟩ := Or.resolve_right hx216 (fun q9 => by have := q9.1; omega)
                  have hR3 : RB (H.1 3, (H.1 2 1).toNat) q H212 (adv X2) := RB_adv m2 hp215 nB345 t13 (RB_lt m2 (by omega) (by omega))
                  rw [hQ9]
                  exact ih H232 hI233 hf236 x1 x2 x3 x4 x5 (x6 + 1) (1 : Int) (by omega) (by omega) (by omega) (by omega) (by omega) (by omega) (by decide) (by omega) (by omega) (by omega) (by first | (exfalso; omega) | exact Or.inl ⟨rfl, q, adv X2, rch_st m1t (show step (H.1 3, (H.1 2 1).toNat) _ = _ from if_pos t12), RB_l0 hR3 hw234 (by have q9 := hv235; omega), AB_adv m3, SC_fr (SC_adv hS2) (NE_tr (NE_fwo hp215 (by simp)) (NE_w hw234 (sc_no (by omega))))⟩) (by first | (exfalso; omega) | exact oS_tr hi4 (oS_tr (oS_NE (X := X) hx197.2 (by omega) (Or.inl rfl)) (oS_NE (NE_tr (NE_fwo hp215 (by simp)) (NE_w hw234 (sc_no (by omega)))) (by omega) (Or.inl rfl)))) (by omega)
                · refine k_run 0 (pc' := 211) (l' := [(0, .inr (.inr 361)), (1, .inl x1), (2, .inl x2), (3, .inl x3), (4, .inl x4), (5, .inl x5), (6, .inl x6), (7, .inl 1), (8, .inl z88)]) (st' := [.inl (H212.1 7 6), .inr (.inr 7)]) rfl ?_
                  refine k_run 3 (pc' := 217) (l' := [(0, .inr (.inr 361)), (1, .inl x1), (2, .inl x2), (3, .inl x3), (4, .inl x4), (5, .inl x5), (6, .inl x6), (7, .inl 1), (8, .inl z88)]) (st' := [.inl ((H212.1 7 6) + 1), .inr (.inr 7)]) rfl ?_
                  refine k_puti (z := ((H212.1 7 6) + 1)) (a := 7) (x := kx_7) rfl rfl rfl (by decide) (by decide) rfl rfl rfl rfl hI213 (by omega) (show 0 ≤ ((H212.1 7 6) + 1) ∧ ((H212.1 7 6) + 1) ≤ 16 by omega) (fun H237 hI238 hw239 hv240 => ?_)
                  have hf241 : fq [(2, 5), (7, 5), (7, 6), (8, 4), (13, 4), (18, 4), (361, 3), (361, 4), (361, 5), (361, 6), (361, 7), (361, 8), (361, 9)] [4, 5, 6, 9, 10, 11, 14, 15, 16, 17, 19, 20, 21, 22, 362] true H H237 := fq_w hf218 hw239 (fpo (by decide) rfl)
                  refine k_run 0 (pc' := 220) (l' := [(0, .inr (.inr 361)), (1, .inl x1), (2, .inl x2), (3, .inl x3), (4, .inl x4), (5, .inl x5), (6, .inl x6), (7, .inl 1), (8, .inl z88)]) (st' := []) rfl ?_
                  refine k_run 2 (pc' := 69) (l' := [(0, .inr (.inr 361)), (1, .inl x1), (2, .inl x2), (3, .inl x3), (4, .inl x4), (5, .inl x5), (6, .inl (x6 + 1)), (7, .inl 1), (8, .inl z88)]) (st' := []) rfl ?_
                  refine h_loc [0, 1, 2, 3, 4, 5, 6, 7] rfl ?_
                  rw [htk2] at hx216
                  obtain ⟨t11, t12, t13⟩ := Or.resolve_right hx216 (fun q9 => by have := q9.1; omega)
                  have hR3 : RB (H.1 3, (H.1 2 1).toNat) q H212 (adv X2) := RB_adv m2 hp215 nB345 t13 (RB_lt m2 (by omega) (by omega))
                  rw [hQ9]
                  exact ih H237 hI238 hf241 x1 x2 x3 x4 x5 (x6 + 1) (1 : Int) (by omega) (by omega) (by omega) (by omega) (by omega) (by omega) (by decide) (by omega) (by omega) (by omega) (by first | (exfalso; omega) | exact Or.inl ⟨rfl, q, adv X2, rch_st m1t (show step (H.1 3, (H.1 2 1).toNat) _ = _ from if_pos t12), RB_l0 hR3 hw239 (by have q9 := hv240; omega), AB_adv m3, SC_fr (SC_adv hS2) (NE_tr (NE_fwo hp215 (by simp)) (NE_w hw239 (sc_no (by omega))))⟩) (by first | (exfalso; omega) | exact oS_tr hi4 (oS_tr (oS_NE (X := X) hx197.2 (by omega) (Or.inl rfl)) (oS_NE (NE_tr (NE_fwo hp215 (by simp)) (NE_w hw239 (sc_no (by omega)))) (by omega) (Or.inl rfl)))) (by omega)
          · refine h_tin (k := 1) (t := 137) rfl (by omega) (show z88 = 4 + ((1 : Nat) : Int) by omega) (by decide) rfl rfl ?_
            refine k_run 1 (pc' := 138) (l' := [(0, .inr (.inr 361)), (1, .inl x1), (2, .inl x2), (3, .inl x3), (4, .inl x4), (5, .inl x5), (6, .inl x6), (7, .inl x7), (8, .inl z88)]) (st' := [.inr (.inr 361)]) rfl ?_
            refine h_cv (i := 80) (j := 66) (b := 361) (M' := mt_66) (xs := []) (rest := []) rfl rfl rfl rfl (zs_K (x := kx_361) rfl (by decide)) rfl (Nat.le_of_ble_eq_true rfl) (Nat.le_of_ble_eq_true rfl) (by omega) (q_Reader_readFunction (by omega) hI1 k2 (show rch (H.1 3, (H.1 2 1).toNat) ([(6, x6, 0, 0)], X1) ((6, x6, 0, 0) :: [], X1) from rch_rf _ _) (by omega) k3) ?_
            rintro _ H243 ⟨z248, rfl, g242, hI244, hq245, hx247⟩
            have hf249 : fq [(2, 5), (7, 5), (7, 6), (8, 4), (13, 4), (18, 4), (361, 3), (361, 4), (361, 5), (361, 6), (361, 7), (361, 8), (361, 9)] [4, 5, 6, 9, 10, 11, 14, 15, 16, 17, 19, 20, 21, 22, 362] true H H243 := fq_t hf1 hq245 rfl rfl rfl
            refine k_run 0 (pc' := 141) (l' := [(0, .inr (.inr 361)), (1, .inl x1), (2, .inl x2), (3, .inl x3), (4, .inl x4), (5, .inl x5), (6, .inl x6), (7, .inl x7), (8, .inl z88)]) (st' := [.inl z248]) rfl ?_
            refine k_run 3 (pc' := 172) (l' := [(0, .inr (.inr 361)), (1, .inl x1), (2, .inl x2), (3, .inl x3), (4, .inl x4), (5, .inl x5), (6, .inl x6), (7, .inl z248), (8, .inl z88)]) (st' := [.inl z248]) rfl ?_
            refine h_zeq (off := 16) (t := 188) rfl rfl (by omega) (fun c250 => ?_) (fun c250 => ?_)
            · refine k_run 0 (pc' := 188) (l' := [(0, .inr (.inr 361)), (1, .inl x1), (2, .inl x2), (3, .inl x3), (4, .inl x4), (5, .inl x5), (6, .inl x6), (7, .inl z248), (8, .inl z88)]) (st' := []) rfl ?_
              refine k_run 6 (pc' := 199) (l' := [(0, .inr (.inr 361)), (1, .inl x1), (2, .inl x2), (3, .inl x3), (4, .inl x4), (5, .inl x5), (6, .inl x6), (7, .inl 0), (8, .inl z88)]) (st' := [.inl (H243.1 7 6), .inr (.inr 7)]) rfl ?_
              have g251 : 0 ≤ (H243.1 7 6) ∧ (H243.1 7 6) ≤ 16 := kn (x := kx_7) hI244 rfl 6
              have e252 : (H243.1 7 6) = (H1.1 7 6) := (hq245.1 7 6 rfl (by decide) (by decide)).1
              refine k_run 1 (pc' := 201) (l' := [(0, .inr (.inr 361)), (1, .inl x1), (2, .inl x2), (3, .inl x3), (4, .inl x4), (5, .inl x5), (6, .inl x6), (7, .inl 0), (8, .inl z88)]) (st' := [.inl 0, .inl (H243.1 7 6), .inr (.inr 7)]) rfl ?_
              refine h_zeq (off := 14) (t := 215) rfl rfl (by decide) (fun _ => ?_) (fun c => absurd c (by decide))
              refine k_run 0 (pc' := 215) (l' := [(0, .inr (.inr 361)), (1, .inl x1), (2, .inl x2), (3, .inl x3), (4, .inl x4), (5, .inl x5), (6, .inl x6), (7, .inl 0), (8, .inl z88)]) (st' := [.inl (H243.1 7 6), .inr (.inr 7)]) rfl ?_
              refine k_run 2 (pc' := 217) (l' := [(0, .inr (.inr 361)), (1, .inl x1), (2, .inl x2), (3, .inl x3), (4, .inl x4), (5, .inl x5), (6, .inl x6), (7, .inl 0), (8, .inl z88)]) (st' := [.inl ((H243.1 7 6) + 0), .inr (.inr 7)]) rfl ?_
              refine k_puti (z := ((H243.1 7 6) + 0)) (a := 7) (x := kx_7) rfl rfl rfl (by decide) (by decide) rfl rfl rfl rfl hI244 (by omega) (show 0 ≤ ((H243.1 7 6) + 0) ∧ ((H243.1 7 6) + 0) ≤ 16 by omega) (fun H253 hI254 hw255 hv256 => ?_)
              have hf257 : fq [(2, 5), (7, 5), (7, 6), (8, 4), (13, 4), (18, 4), (361, 3), (361, 4), (361, 5), (361, 6), (361, 7), (361, 8), (361, 9)] [4, 5, 6, 9, 10, 11, 14, 15, 16, 17, 19, 20, 21, 22, 362] true H H253 := fq_w hf249 hw255 (fpo (by decide) rfl)
              refine k_run 0 (pc' := 220) (l' := [(0, .inr (.inr 361)), (1, .inl x1), (2, .inl x2), (3, .inl x3), (4, .inl x4), (5, .inl x5), (6, .inl x6), (7, .inl 0), (8, .inl z88)]) (st' := []) rfl ?_
              refine k_run 2 (pc' := 69) (l' := [(0, .inr (.inr 361)), (1, .inl x1), (2, .inl x2), (3, .inl x3), (4, .inl x4), (5, .inl x5), (6, .inl (x6 + 1)), (7, .inl 0), (8, .inl z88)]) (st' := []) rfl ?_
              refine h_loc [0, 1, 2, 3, 4, 5, 6, 7] rfl ?_
              rw [hQ9]
              exact ih H253 hI254 hf257 x1 x2 x3 x4 x5 (x6 + 1) (0 : Int) (by omega) (by omega) (by omega) (by omega) (by omega) (by omega) (by decide) (by omega) (by omega) (by omega) (by first | (exfalso; omega) | exact Or.inr ⟨rfl, FB_l0 (FB_tr k1 (Or.resolve_left hx247.1 (fun q9 => by have := q9.1; omega)).2) hw255 (by have q9 := hv256; omega)⟩) (by first | (exfalso; omega) | exact oS_tr hi4 (oS_tr (oS_NE (X := X) hx247.2 (by omega) (Or.inl rfl)) (oS_NE (NE_w (e := 0) hw255 (sc_no (by omega))) (by omega) (Or.inl rfl)))) (by omega)
            · refine k_run 0 (pc' := 175) (l' := [(0, .inr (.inr 361)), (1, .inl x1), (2, .inl x2), (3, .inl x3), (4, .inl x4), (5, .inl x5), (6, .inl x6), (7, .inl z248), (8, .inl z88)]) (st' := []) rfl ?_
              obtain ⟨X2, m1, m2, m3⟩ := (Or.resolve_right hx247.1 (fun q9 => by have := q9.1; omega)).2
              have hpa2 := RB_pa m2
              have htk2 := RB_tk m2
              have hl2 := m2.2.1.1.2.2.2.2
              have hl26 := m2.2.1.1.2.2.2.1
              have m1t := rch_tr k1 m1
              obtain ⟨hj2, hl2b⟩ := hJL _ _ m1
              have b26 : 0 ≤ H243.1 7 5 ∧ H243.1 7 5 ≤ 40 := kn (x := kx_7) hI244 rfl 5
              have b27 : 0 ≤ H243.1 7 6 ∧ H243.1 7 6 ≤ 16 := kn (x := kx_7) hI244 rfl 6
              have f26 : H243.1 7 6 = H1.1 7 6 := (hq245.1 7 6 rfl (by decide) (by decide)).1
              have f25 : H243.1 7 5 = H1.1 7 5 := (hq245.1 7 5 rfl (by decide) (by decide)).1
              have hS2 : SC H243 X2 := SC_new k4 hM1 hj2 hl2b (oS_NE (X := X1) hx247.2 (by omega) (Or.inl rfl)) (fun r r1 r2 r3 => absurd r3 (by omega)) (by omega)
              refine k_run 2 (pc' := 178) (l' := [(0, .inr (.inr 361)), (1, .inl x1), (2, .inl x2), (3, .inl x3), (4, .inl x4), (5, .inl x5), (6, .inl x6), (7, .inl z248), (8, .inl z88)]) (st' := [.inl 59, .inr (.inr 361)]) rfl ?_
              have g258 : -2147483648 ≤ (H243.1 361 3) ∧ (H243.1 361 3) ≤ 2147483647 := kn (x := kx_361) hI244 rfl 3
              have g259 : 0 ≤ (H243.1 2 5) ∧ (H243.1 2 5) ≤ 1001 := kn (x := kx_2) hI244 rfl 5
              have e260 : (H243.1 2 5) = (H1.1 2 5) := (hq245.1 2 5 rfl (by decide) (by decide)).1
              refine h_cv (i := 92) (j := 82) (b := 361) (M' := mt_82) (xs := [.inl 59]) (rest := []) rfl rfl rfl rfl (zs_K (x := kx_361) rfl (by decide)) rfl (Nat.le_of_ble_eq_true rfl) (Nat.le_of_ble_eq_true rfl) (by omega) (q_Reader_take (by omega) hI244 (by decide) (by omega)) ?_
              rintro _ H262 ⟨z267, rfl, g261, hI263, hq264, hp265, hx266⟩
              have hf268 : fq [(2, 5), (7, 5), (7, 6), (8, 4), (13, 4), (18, 4), (361, 3), (361, 4), (361, 5), (361, 6), (361, 7), (361, 8), (361, 9)] [4, 5, 6, 9, 10, 11, 14, 15, 16, 17, 19, 20, 21, 22, 362] true H H262 := fq_t hf249 hq264 rfl rfl rfl
              refine k_run 0 (pc' := 181) (l' := [(0, .inr (.inr 361)), (1, .inl x1), (2, .inl x2), (3, .inl x3), (4, .inl x4), (5, .inl x5), (6, .inl x6), (7, .inl z248), (8, .inl z88)]) (st' := [.inl z267]) rfl ?_
              refine h_zeq (off := 7) (t := 188) rfl rfl (by omega) (fun c269 => ?_) (fun c269 => ?_)
              · refine k_run 0 (pc' := 188) (l' := [(0, .inr (.inr 361)), (1, .inl x1), (2, .inl x2), (3, .inl x3), (4, .inl x4), (5, .inl x5), (6, .inl x6), (7, .inl z248), (8, .inl z88)]) (st' := []) rfl ?_
                refine k_run 6 (pc' := 199) (l' := [(0, .inr (.inr 361)), (1, .inl x1), (2, .inl x2), (3, .inl x3), (4, .inl x4), (5, .inl x5), (6, .inl x6), (7, .inl 0), (8, .inl z88)]) (st' := [.inl (H262.1 7 6), .inr (.inr 7)]) rfl ?_
                have g270 : 0 ≤ (H262.1 7 6) ∧ (H262.1 7 6) ≤ 16 := kn (x := kx_7) hI263 rfl 6
                have e271 : (H262.1 7 6) = (H243.1 7 6) := (hq264.1 7 6 rfl (by decide) (by decide)).1
                have e272 : (H243.1 7 6) = (H1.1 7 6) := (hq245.1 7 6 rfl (by decide) (by decide)).1
                refine k_run 1 (pc' := 201) (l' := [(0, .inr (.inr 361)), (1, .inl x1), (2, .inl x2), (3, .inl x3), (4, .inl x4), (5, .inl x5), (6, .inl x6), (7, .inl 0), (8, .inl z88)]) (st' := [.inl 0, .inl (H262.1 7 6), .inr (.inr 7)]) rfl ?_
                refine h_zeq (off := 14) (t := 215) rfl rfl (by decide) (fun _ => ?_) (fun c => absurd c (by decide))
                refine k_run 0 (pc' := 215) (l' := [(0, .inr (.inr 361)), (1, .inl x1), (2, .inl x2), (3, .inl x3), (4, .inl x4), (5, .inl x5), (6, .inl x6), (7, .inl 0), (8, .inl z88)]) (st' := [.inl (H262.1 7 6), .inr (.inr 7)]) rfl ?_
                refine k_run 2 (pc' := 217) (l' := [(0, .inr (.inr 361)), (1, .inl x1), (2, .inl x2), (3, .inl x3), (4, .inl x4), (5, .inl x5), (6, .inl x6), (7, .inl 0), (8, .inl z88)]) (st' := [.inl ((H262.1 7 6) + 0), .inr (.inr 7)]) rfl ?_
                refine k_puti (z := ((H262.1 7 6) + 0)) (a := 7) (x := kx_7) rfl rfl rfl (by decide) (by decide) rfl rfl rfl rfl hI263 (by omega) (show 0 ≤ ((H262.1 7 6) + 0) ∧ ((H262.1 7 6) + 0) ≤ 16 by omega) (fun H273 hI274 hw275 hv276 => ?_)
                have hf277 : fq [(2, 5), (7, 5), (7, 6), (8, 4), (13, 4), (18, 4), (361, 3), (361, 4), (361, 5), (361, 6), (361, 7), (361, 8), (361, 9)] [4, 5, 6, 9, 10, 11, 14, 15, 16, 17, 19, 20, 21, 22, 362] true H H273 := fq_w hf268 hw275 (fpo (by decide) rfl)
                refine k_run 0 (pc' := 220) (l' := [(0, .inr (.inr 361)), (1, .inl x1), (2, .inl x2), (3, .inl x3), (4, .inl x4), (5, .inl x5), (6, .inl x6), (7, .inl 0), (8, .inl z88)]) (st' := []) rfl ?_
                refine k_run 2 (pc' := 69) (l' := [(0, .inr (.inr 361)), (1, .inl x1), (2, .inl x2), (3, .inl x3), (4, .inl x4), (5, .inl x5), (6, .inl (x6 + 1)), (7, .inl 0), (8, .inl z88)]) (st' := []) rfl ?_
                refine h_loc [0, 1, 2, 3, 4, 5, 6, 7] rfl ?_
                rw [htk2] at hx266
                rw [hQ9]
                exact ih H273 hI274 hf277 x1 x2 x3 x4 x5 (x6 + 1) (0 : Int) (by omega) (by omega) (by omega) (by omega) (by omega) (by omega) (by decide) (by omega) (by omega) (by omega) (by first | (exfalso; omega) | exact Or.inr ⟨rfl, FB_l0 (Or.elim hx266 (fun e => absurd e.1 (by omega)) (fun e => FB_mk m2 hp265 nT345 (rch_st m1t (by show (if tk (H.1 3, (H.1 2 1).toNat) (xi X2) = 59 then _ else _) = _; rw [if_neg e.2.1]; rfl)) e.2.2.2.1 e.2.2.2.2)) hw275 (by have q9 := hv276; omega)⟩) (by first | (exfalso; omega) | exact oS_tr hi4 (oS_tr (oS_NE (X := X) hx247.2 (by omega) (Or.inl rfl)) (oS_NE (NE_tr (NE_fwo hp265 (by simp)) (NE_w hw275 (sc_no (by omega)))) (by omega) (Or.inl rfl)))) (by omega)
              · refine k_run 0 (pc' := 184) (l' := [(0, .inr (.inr 361)), (1, .inl x1), (2, .inl x2), (3, .inl x3), (4, .inl x4), (5, .inl x5), (6, .inl x6), (7, .inl z248), (8, .inl z88)]) (st' := []) rfl ?_
                refine k_run 7 (pc' := 199) (l' := [(0, .inr (.inr 361)), (1, .inl x1), (2, .inl x2), (3, .inl x3), (4, .inl x4), (5, .inl x5), (6, .inl x6), (7, .inl 1), (8, .inl z88)]) (st' := [.inl (H262.1 7 6), .inr (.inr 7)]) rfl ?_
                have g278 : 0 ≤ (H262.1 7 6) ∧ (H262.1 7 6) ≤ 16 := kn (x := kx_7) hI263 rfl 6
                have e279 : (H262.1 7 6) = (H243.1 7 6) := (hq264.1 7 6 rfl (by decide) (by decide)).1
                have e280 : (H243.1 7 6) = (H1.1 7 6) := (hq245.1 7 6 rfl (by decide) (by decide)).1
                refine k_run 1 (pc' := 201) (l' := [(0, .inr (.inr 361)), (1, .inl x1), (2, .inl x2), (3, .inl x3), (4, .inl x4), (5, .inl x5), (6, .inl x6), (7, .inl 1), (8, .inl z88)]) (st' := [.inl 1, .inl (H262.1 7 6), .inr (.inr 7)]) rfl ?_
                refine h_zeq (off := 14) (t := 215) rfl rfl (by decide) (fun c => absurd c (by decide)) (fun _ => ?_)
                refine k_run 0 (pc' := 204) (l' := [(0, .inr (.inr 361)), (1, .inl x1), (2, .inl x2), (3, .inl x3), (4, .inl x4), (5, .inl x5), (6, .inl x6), (7, .inl 1), (8, .inl z88)]) (st' := [.inl (H262.1 7 6), .inr (.inr 7)]) rfl ?_
                refine k_run 2 (pc' := 208) (l' := [(0, .inr (.inr 361)), (1, .inl x1), (2, .inl x2), (3, .inl x3), (4, .inl x4), (5, .inl x5), (6, .inl x6), (7, .inl 1), (8, .inl z88)]) (st' := [.inl 7, .inl z88, .inl (H262.1 7 6), .inr (.inr 7)]) rfl ?_
                refine h_ine (off := 7) (t := 215) rfl rfl (by omega) (by decide) (fun c281 => ?_) (fun c281 => ?_)
                · refine k_run 0 (pc' := 215) (l' := [(0, .inr (.inr 361)), (1, .inl x1), (2, .inl x2), (3, .inl x3), (4, .inl x4), (5, .inl x5), (6, .inl x6), (7, .inl 1), (8, .inl z88)]) (st' := [.inl (H262.1 7 6), .inr (.inr 7)]) rfl ?_
                  refine k_run 2 (pc' := 217) (l' := [(0, .inr (.inr 361)), (1, .inl x1), (2, .inl x2), (3, .inl x3), (4, .inl x4), (5, .inl x5), (6, .inl x6), (7, .inl 1), (8, .inl z88)]) (st' := [.inl ((H262.1 7 6) + 0), .inr (.inr 7)]) rfl ?_
                  refine k_puti (z := ((H262.1 7 6) + 0)) (a := 7) (x := kx_7) rfl rfl rfl (by decide) (by decide) rfl rfl rfl rfl hI263 (by omega) (show 0 ≤ ((H262.1 7 6) + 0) ∧ ((H262.1 7 6) + 0) ≤ 16 by omega) (fun H282 hI283 hw284 hv285 => ?_)
                  have hf286 : fq [(2, 5), (7, 5), (7, 6), (8, 4), (13, 4), (18, 4), (361, 3), (361, 4), (361, 5), (361, 6), (361, 7), (361, 8), (361, 9)] [4, 5, 6, 9, 10, 11, 14, 15, 16, 17, 19, 20, 21, 22, 362] true H H282 := fq_w hf268 hw284 (fpo (by decide) rfl)
                  refine k_run 0 (pc' := 220) (l' := [(0, .inr (.inr 361)), (1, .inl x1), (2, .inl x2), (3, .inl x3), (4, .inl x4), (5, .inl x5), (6, .inl x6), (7, .inl 1), (8, .inl z88)]) (st' := []) rfl ?_
                  refine k_run 2 (pc' := 69) (l' := [(0, .inr (.inr 361)), (1, .inl x1), (2, .inl x2), (3, .inl x3), (4, .inl x4), (5, .inl x5), (6, .inl (x6 + 1)), (7, .inl 1), (8, .inl z88)]) (st' := []) rfl ?_
                  refine h_loc [0, 1, 2, 3, 4, 5, 6, 7] rfl ?_
                  rw [htk2] at hx266
                  obtain ⟨t11, t12, t13⟩ := Or.resolve_right hx266 (fun q9 => by have := q9.1; omega)
                  have hR3 : RB (H.1 3, (H.1 2 1).toNat) q H262 (adv X2) := RB_adv m2 hp265 nB345 t13 (RB_lt m2 (by omega) (by omega))
                  rw [hQ9]
                  exact ih H282 hI283 hf286 x1 x2 x3 x4 x5 (x6 + 1) (1 : Int) (by omega) (by omega) (by omega) (by omega) (by omega) (by omega) (by decide) (by omega) (by omega) (by omega) (by first | (exfalso; omega) | exact Or.inl ⟨rfl, q, adv X2, rch_st m1t (show step (H.1 3, (H.1 2 1).toNat) _ = _ from if_pos t12), RB_l0 hR3 hw284 (by have q9 := hv285; omega), AB_adv m3, SC_fr (SC_adv hS2) (NE_tr (NE_fwo hp265 (by simp)) (NE_w hw284 (sc_no (by omega))))⟩) (by first | (exfalso; omega) | exact oS_tr hi4 (oS_tr (oS_NE (X := X) hx247.2 (by omega) (Or.inl rfl)) (oS_NE (NE_tr (NE_fwo hp265 (by simp)) (NE_w hw284 (sc_no (by omega)))) (by omega) (Or.inl rfl)))) (by omega)
                · refine k_run 0 (pc' := 211) (l' := [(0, .inr (.inr 361)), (1, .inl x1), (2, .inl x2), (3, .inl x3), (4, .inl x4), (5, .inl x5), (6, .inl x6), (7, .inl 1), (8, .inl z88)]) (st' := [.inl (H262.1 7 6), .inr (.inr 7)]) rfl ?_
                  refine k_run 3 (pc' := 217) (l' := [(0, .inr (.inr 361)), (1, .inl x1), (2, .inl x2), (3, .inl x3), (4, .inl x4), (5, .inl x5), (6, .inl x6), (7, .inl 1), (8, .inl z88)]) (st' := [.inl ((H262.1 7 6) + 1), .inr (.inr 7)]) rfl ?_
                  refine k_puti (z := ((H262.1 7 6) + 1)) (a := 7) (x := kx_7) rfl rfl rfl (by decide) (by decide) rfl rfl rfl rfl hI263 (by omega) (show 0 ≤ ((H262.1 7 6) + 1) ∧ ((H262.1 7 6) + 1) ≤ 16 by omega) (fun H287 hI288 hw289 hv290 => ?_)
                  have hf291 : fq [(2, 5), (7, 5), (7, 6), (8, 4), (13, 4), (18, 4), (361, 3), (361, 4), (361, 5), (361, 6), (361, 7), (361, 8), (361, 9)] [4, 5, 6, 9, 10, 11, 14, 15, 16, 17, 19, 20, 21, 22, 362] true H H287 := fq_w hf268 hw289 (fpo (by decide) rfl)
                  refine k_run 0 (pc' := 220) (l' := [(0, .inr (.inr 361)), (1, .inl x1), (2, .inl x2), (3, .inl x3), (4, .inl x4), (5, .inl x5), (6, .inl x6), (7, .inl 1), (8, .inl z88)]) (st' := []) rfl ?_
                  refine k_run 2 (pc' := 69) (l' := [(0, .inr (.inr 361)), (1, .inl x1), (2, .inl x2), (3, .inl x3), (4, .inl x4), (5, .inl x5), (6, .inl (x6 + 1)), (7, .inl 1), (8, .inl z88)]) (st' := []) rfl ?_
                  refine h_loc [0, 1, 2, 3, 4, 5, 6, 7] rfl ?_
                  rw [htk2] at hx266
                  obtain ⟨t11, t12, t13⟩ := Or.resolve_right hx266 (fun q9 => by have := q9.1; omega)
                  have hR3 : RB (H.1 3, (H.1 2 1).toNat) q H262 (adv X2) := RB_adv m2 hp265 nB345 t13 (RB_lt m2 (by omega) (by omega))
                  rw [hQ9]
                  exact ih H287 hI288 hf291 x1 x2 x3 x4 x5 (x6 + 1) (1 : Int) (by omega) (by omega) (by omega) (by omega) (by omega) (by omega) (by decide) (by omega) (by omega) (by omega) (by first | (exfalso; omega) | exact Or.inl ⟨rfl, q, adv X2, rch_st m1t (show step (H.1 3, (H.1 2 1).toNat) _ = _ from if_pos t12), RB_l0 hR3 hw289 (by have q9 := hv290; omega), AB_adv m3, SC_fr (SC_adv hS2) (NE_tr (NE_fwo hp265 (by simp)) (NE_w hw289 (sc_no (by omega))))⟩) (by first | (exfalso; omega) | exact oS_tr hi4 (oS_tr (oS_NE (X := X) hx247.2 (by omega) (Or.inl rfl)) (oS_NE (NE_tr (NE_fwo hp265 (by simp)) (NE_w hw289 (sc_no (by omega)))) (by omega) (Or.inl rfl)))) (by omega)
          · refine h_tin (k := 2) (t := 146) rfl (by omega) (show z88 = 4 + ((2 : Nat) : Int) by omega) (by decide) rfl rfl ?_
            refine k_run 1 (pc' := 147) (l' := [(0, .inr (.inr 361)), (1, .inl x1), (2, .inl x2), (3, .inl x3), (4, .inl x4), (5, .inl x5), (6, .inl x6), (7, .inl x7), (8, .inl z88)]) (st' := [.inr (.inr 361)]) rfl ?_
            refine h_cv (i := 83) (j := 68) (b := 361) (M' := mt_68) (xs := []) (rest := []) rfl rfl rfl rfl (zs_K (x := kx_361) rfl (by decide)) rfl (Nat.le_of_ble_eq_true rfl) (Nat.le_of_ble_eq_true rfl) (by omega) (q_Reader_readRule (by omega) hI1 k2 (show rch (H.1 3, (H.1 2 1).toNat) ([(6, x6, 0, 0)], X1) ((6, x6, 0, 0) :: [], X1) from rch_rf _ _) (by omega) k3) ?_
            rintro _ H293 ⟨z298, rfl, g292, hI294, hq295, hx297⟩
            have hf299 : fq [(2, 5), (7, 5), (7, 6), (8, 4), (13, 4), (18, 4), (361, 3), (361, 4), (361, 5), (361, 6), (361, 7), (361, 8), (361, 9)] [4, 5, 6, 9, 10, 11, 14, 15, 16, 17, 19, 20, 21, 22, 362] true H H293 := fq_t hf1 hq295 rfl rfl rfl
            refine k_run 0 (pc' := 150) (l' := [(0, .inr (.inr 361)), (1, .inl x1), (2, .inl x2), (3, .inl x3), (4, .inl x4), (5, .inl x5), (6, .inl x6), (7, .inl x7), (8, .inl z88)]) (st' := [.inl z298]) rfl ?_
            refine k_run 3 (pc' := 172) (l' := [(0, .inr (.inr 361)), (1, .inl x1), (2, .inl x2), (3, .inl x3), (4, .inl x4), (5, .inl x5), (6, .inl x6), (7, .inl z298), (8, .inl z88)]) (st' := [.inl z298]) rfl ?_
            refine h_zeq (off := 16) (t := 188) rfl rfl (by omega) (fun c300 => ?_) (fun c300 => ?_)
            · refine k_run 0 (pc' := 188) (l' := [(0, .inr (.inr 361)), (1, .inl x1), (2, .inl x2), (3, .inl x3), (4, .inl x4), (5, .inl x5), (6, .inl x6), (7, .inl z298), (8, .inl z88)]) (st' := []) rfl ?_
              refine k_run 6 (pc' := 199) (l' := [(0, .inr (.inr 361)), (1, .inl x1), (2, .inl x2), (3, .inl x3), (4, .inl x4), (5, .inl x5), (6, .inl x6), (7, .inl 0), (8, .inl z88)]) (st' := [.inl (H293.1 7 6), .inr (.inr 7)]) rfl ?_
              have g301 : 0 ≤ (H293.1 7 6) ∧ (H293.1 7 6) ≤ 16 := kn (x := kx_7) hI294 rfl 6
              have e302 : (H293.1 7 6) = (H1.1 7 6) := (hq295.1 7 6 rfl (by decide) (by decide)).1
              refine k_run 1 (pc' := 201) (l' := [(0, .inr (.inr 361)), (1, .inl x1), (2, .inl x2), (3, .inl x3), (4, .inl x4), (5, .inl x5), (6, .inl x6), (7, .inl 0), (8, .inl z88)]) (st' := [.inl 0, .inl (H293.1 7 6), .inr (.inr 7)]) rfl ?_
              refine h_zeq (off := 14) (t := 215) rfl rfl (by decide) (fun _ => ?_) (fun c => absurd c (by decide))
              refine k_run 0 (pc' := 215) (l' := [(0, .inr (.inr 361)), (1, .inl x1), (2, .inl x2), (3, .inl x3), (4, .inl x4), (5, .inl x5), (6, .inl x6), (7, .inl 0), (8, .inl z88)]) (st' := [.inl (H293.1 7 6), .inr (.inr 7)]) rfl ?_
              refine k_run 2 (pc' := 217) (l' := [(0, .inr (.inr 361)), (1, .inl x1), (2, .inl x2), (3, .inl x3), (4, .inl x4), (5, .inl x5), (6, .inl x6), (7, .inl 0), (8, .inl z88)]) (st' := [.inl ((H293.1 7 6) + 0), .inr (.inr 7)]) rfl ?_
              refine k_puti (z := ((H293.1 7 6) + 0)) (a := 7) (x := kx_7) rfl rfl rfl (by decide) (by decide) rfl rfl rfl rfl hI294 (by omega) (show 0 ≤ ((H293.1 7 6) + 0) ∧ ((H293.1 7 6) + 0) ≤ 16 by omega) (fun H303 hI304 hw305 hv306 => ?_)
              have hf307 : fq [(2, 5), (7, 5), (7, 6), (8, 4), (13, 4), (18, 4), (361, 3), (361, 4), (361, 5), (361, 6), (361, 7), (361, 8), (361, 9)] [4, 5, 6, 9, 10, 11, 14, 15, 16, 17, 19, 20, 21, 22, 362] true H H303 := fq_w hf299 hw305 (fpo (by decide) rfl)
              refine k_run 0 (pc' := 220) (l' := [(0, .inr (.inr 361)), (1, .inl x1), (2, .inl x2), (3, .inl x3), (4, .inl x4), (5, .inl x5), (6, .inl x6), (7, .inl 0), (8, .inl z88)]) (st' := []) rfl ?_
              refine k_run 2 (pc' := 69) (l' := [(0, .inr (.inr 361)), (1, .inl x1), (2, .inl x2), (3, .inl x3), (4, .inl x4), (5, .inl x5), (6, .inl (x6 + 1)), (7, .inl 0), (8, .inl z88)]) (st' := []) rfl ?_
              refine h_loc [0, 1, 2, 3, 4, 5, 6, 7] rfl ?_
              rw [hQ9]
              exact ih H303 hI304 hf307 x1 x2 x3 x4 x5 (x6 + 1) (0 : Int) (by omega) (by omega) (by omega) (by omega) (by omega) (by omega) (by decide) (by omega) (by omega) (by omega) (by first | (exfalso; omega) | exact Or.inr ⟨rfl, FB_l0 (FB_tr k1 (Or.resolve_left hx297.1 (fun q9 => by have := q9.1; omega)).2) hw305 (by have q9 := hv306; omega)⟩) (by first | (exfalso; omega) | exact oS_tr hi4 (oS_tr (oS_rule (X := X) hx297.2 (by omega) (by omega) (by omega)) (oS_NE (NE_w (e := 0) hw305 (sc_no (by omega))) (by omega) (Or.inl rfl)))) (by omega)
            · refine k_run 0 (pc' := 175) (l' := [(0, .inr (.inr 361)), (1, .inl x1), (2, .inl x2), (3, .inl x3), (4, .inl x4), (5, .inl x5), (6, .inl x6), (7, .inl z298), (8, .inl z88)]) (st' := []) rfl ?_
              obtain ⟨X2, m1, m2, m3, m4, m5, m6, m6o⟩ := (Or.resolve_right hx297.1 (fun q9 => by have := q9.1; omega)).2
              have hpa2 := RB_pa m2
              have htk2 := RB_tk m2
              have hl2 := m2.2.1.1.2.2.2.2
              have hl26 := m2.2.1.1.2.2.2.1
              have m1t := rch_tr k1 m1
              obtain ⟨hj2, hl2b⟩ := hJL _ _ m1
              have b26 : 0 ≤ H293.1 7 5 ∧ H293.1 7 5 ≤ 40 := kn (x := kx_7) hI294 rfl 5
              have b27 : 0 ≤ H293.1 7 6 ∧ H293.1 7 6 ≤ 16 := kn (x := kx_7) hI294 rfl 6
              have f26 : H293.1 7 6 = H1.1 7 6 := (hq295.1 7 6 rfl (by decide) (by decide)).1
              have hS2 : SC H293 X2 := SC_new k4 hM1 hj2 hl2b (oS_rule (X := X1) hx297.2 (by omega) (by omega) (by omega)) (fun r r1 r2 r3 => by have e9 : r = (X1 0 6).toNat := (by omega); rw [e9]; exact ⟨m5, m6, m6o⟩) (by omega)
              refine k_run 2 (pc' := 178) (l' := [(0, .inr (.inr 361)), (1, .inl x1), (2, .inl x2), (3, .inl x3), (4, .inl x4), (5, .inl x5), (6, .inl x6), (7, .inl z298), (8, .inl z88)]) (st' := [.inl 59, .inr (.inr 361)]) rfl ?_
              have g308 : -2147483648 ≤ (H293.1 361 3) ∧ (H293.1 361 3) ≤ 2147483647 := kn (x := kx_361) hI294 rfl 3
              have g309 : 0 ≤ (H293.1 2 5) ∧ (H293.1 2 5) ≤ 1001 := kn (x := kx_2) hI294 rfl 5
              have e310 : (H293.1 2 5) = (H1.1 2 5) := (hq295.1 2 5 rfl (by decide) (by decide)).1
              refine h_cv (i := 92) (j := 82) (b := 361) (M' := mt_82) (xs := [.inl 59]) (rest := []) rfl rfl rfl rfl (zs_K (x := kx_361) rfl (by decide)) rfl (Nat.le_of_ble_eq_true rfl) (Nat.le_of_ble_eq_true rfl) (by omega) (q_Reader_take (by omega) hI294 (by decide) (by omega)) ?_
              rintro _ H312 ⟨z317, rfl, g311, hI313, hq314, hp315, hx316⟩
              have hf318 : fq [(2, 5), (7, 5), (7, 6), (8, 4), (13, 4), (18, 4), (361, 3), (361, 4), (361, 5), (361, 6), (361, 7), (361, 8), (361, 9)] [4, 5, 6, 9, 10, 11, 14, 15, 16, 17, 19, 20, 21, 22, 362] true H H312 := fq_t hf299 hq314 rfl rfl rfl
              refine k_run 0 (pc' := 181) (l' := [(0, .inr (.inr 361)), (1, .inl x1), (2, .inl x2), (3, .inl x3), (4, .inl x4), (5, .inl x5), (6, .inl x6), (7, .inl z298), (8, .inl z88)]) (st' := [.inl z317]) rfl ?_
              refine h_zeq (off := 7) (t := 188) rfl rfl (by omega) (fun c319 => ?_) (fun c319 => ?_)
              · refine k_run 0 (pc' := 188) (l' := [(0, .inr (.inr 361)), (1, .inl x1), (2, .inl x2), (3, .inl x3), (4, .inl x4), (5, .inl x5), (6, .inl x6), (7, .inl z298), (8, .inl z88)]) (st' := []) rfl ?_
                refine k_run 6 (pc' := 199) (l' := [(0, .inr (.inr 361)), (1, .inl x1), (2, .inl x2), (3, .inl x3), (4, .inl x4), (5, .inl x5), (6, .inl x6), (7, .inl 0), (8, .inl z88)]) (st' := [.inl (H312.1 7 6), .inr (.inr 7)]) rfl ?_
                have g320 : 0 ≤ (H312.1 7 6) ∧ (H312.1 7 6) ≤ 16 := kn (x := kx_7) hI313 rfl 6
                have e321 : (H312.1 7 6) = (H293.1 7 6) := (hq314.1 7 6 rfl (by decide) (by decide)).1
                have e322 : (H293.1 7 6) = (H1.1 7 6) := (hq295.1 7 6 rfl (by decide) (by decide)).1
                refine k_run 1 (pc' := 201) (l' := [(0, .inr (.inr 361)), (1, .inl x1), (2, .inl x2), (3, .inl x3), (4, .inl x4), (5, .inl x5), (6, .inl x6), (7, .inl 0), (8, .inl z88)]) (st' := [.inl 0, .inl (H312.1 7 6), .inr (.inr 7)]) rfl ?_
                refine h_zeq (off := 14) (t := 215) rfl rfl (by decide) (fun _ => ?_) (fun c => absurd c (by decide))
                refine k_run 0 (pc' := 215) (l' := [(0, .inr (.inr 361)), (1, .inl x1), (2, .inl x2), (3, .inl x3), (4, .inl x4), (5, .inl x5), (6, .inl x6), (7, .inl 0), (8, .inl z88)]) (st' := [.inl (H312.1 7 6), .inr (.inr 7)]) rfl ?_
                refine k_run 2 (pc' := 217) (l' := [(0, .inr (.inr 361)), (1, .inl x1), (2, .inl x2), (3, .inl x3), (4, .inl x4), (5, .inl x5), (6, .inl x6), (7, .inl 0), (8, .inl z88)]) (st' := [.inl ((H312.1 7 6) + 0), .inr (.inr 7)]) rfl ?_
                refine k_puti (z := ((H312.1 7 6) + 0)) (a := 7) (x := kx_7) rfl rfl rfl (by decide) (by decide) rfl rfl rfl rfl hI313 (by omega) (show 0 ≤ ((H312.1 7 6) + 0) ∧ ((H312.1 7 6) + 0) ≤ 16 by omega) (fun H323 hI324 hw325 hv326 => ?_)
                have hf327 : fq [(2, 5), (7, 5), (7, 6), (8, 4), (13, 4), (18, 4), (361, 3), (361, 4), (361, 5), (361, 6), (361, 7), (361, 8), (361, 9)] [4, 5, 6, 9, 10, 11, 14, 15, 16, 17, 19, 20, 21, 22, 362] true H H323 := fq_w hf318 hw325 (fpo (by decide) rfl)
                refine k_run 0 (pc' := 220) (l' := [(0, .inr (.inr 361)), (1, .inl x1), (2, .inl x2), (3, .inl x3), (4, .inl x4), (5, .inl x5), (6, .inl x6), (7, .inl 0), (8, .inl z88)]) (st' := []) rfl ?_
                refine k_run 2 (pc' := 69) (l' := [(0, .inr (.inr 361)), (1, .inl x1), (2, .inl x2), (3, .inl x3), (4, .inl x4), (5, .inl x5), (6, .inl (x6 + 1)), (7, .inl 0), (8, .inl z88)]) (st' := []) rfl ?_
                refine h_loc [0, 1, 2, 3, 4, 5, 6, 7] rfl ?_
                rw [htk2] at hx316
                rw [hQ9]
                exact ih H323 hI324 hf327 x1 x2 x3 x4 x5 (x6 + 1) (0 : Int) (by omega) (by omega) (by omega) (by omega) (by omega) (by omega) (by decide) (by omega) (by omega) (by omega) (by first | (exfalso; omega) | exact Or.inr ⟨rfl, FB_l0 (Or.elim hx316 (fun e => absurd e.1 (by omega)) (fun e => FB_mk m2 hp315 nT345 (rch_st m1t (by show (if tk (H.1 3, (H.1 2 1).toNat) (xi X2) = 59 then _ else _) = _; rw [if_neg e.2.1]; rfl)) e.2.2.2.1 e.2.2.2.2)) hw325 (by have q9 := hv326; omega)⟩) (by first | (exfalso; omega) | exact oS_tr hi4 (oS_tr (oS_rule (X := X) hx297.2 (by omega) (by omega) (by omega)) (oS_NE (NE_tr (NE_fwo hp315 (by simp)) (NE_w hw325 (sc_no (by omega)))) (by omega) (Or.inl rfl)))) (by omega)
              · refine k_run 0 (pc' := 184) (l' := [(0, .inr (.inr 361)), (1, .inl x1), (2, .inl x2), (3, .inl x3), (4, .inl x4), (5, .inl x5), (6, .inl x6), (7, .inl z298), (8, .inl z88)]) (st' := []) rfl ?_
                refine k_run 7 (pc' := 199) (l' := [(0, .inr (.inr 361)), (1, .inl x1), (2, .inl x2), (3, .inl x3), (4, .inl x4), (5, .inl x5), (6, .inl x6), (7, .inl 1), (8, .inl z88)]) (st' := [.inl (H312.1 7 6), .inr (.inr 7)]) rfl ?_
                have g328 : 0 ≤ (H312.1 7 6) ∧ (H312.1 7 6) ≤ 16 := kn (x := kx_7) hI313 rfl 6
                have e329 : (H312.1 7 6) = (H293.1 7 6) := (hq314.1 7 6 rfl (by decide) (by decide)).1
                have e330 : (H293.1 7 6) = (H1.1 7 6) := (hq295.1 7 6 rfl (by decide) (by decide)).1
                refine k_run 1 (pc' := 201) (l' := [(0, .inr (.inr 361)), (1, .inl x1), (2, .inl x2), (3, .inl x3), (4, .inl x4), (5, .inl x5), (6, .inl x6), (7, .inl 1), (8, .inl z88)]) (st' := [.inl 1, .inl (H312.1 7 6), .inr (.inr 7)]) rfl ?_
                refine h_zeq (off := 14) (t := 215) rfl rfl (by decide) (fun c => absurd c (by decide)) (fun _ => ?_)
                refine k_run 0 (pc' := 204) (l' := [(0, .inr (.inr 361)), (1, .inl x1), (2, .inl x2), (3, .inl x3), (4, .inl x4), (5, .inl x5), (6, .inl x6), (7, .inl 1), (8, .inl z88)]) (st' := [.inl (H312.1 7 6), .inr (.inr 7)]) rfl ?_
                refine k_run 2 (pc' := 208) (l' := [(0, .inr (.inr 361)), (1, .inl x1), (2, .inl x2), (3, .inl x3), (4, .inl x4), (5, .inl x5), (6, .inl x6), (7, .inl 1), (8, .inl z88)]) (st' := [.inl 7, .inl z88, .inl (H312.1 7 6), .inr (.inr 7)]) rfl ?_
                refine h_ine (off := 7) (t := 215) rfl rfl (by omega) (by decide) (fun c331 => ?_) (fun c331 => ?_)
                · refine k_run 0 (pc' := 215) (l' := [(0, .inr (.inr 361)), (1, .inl x1), (2, .inl x2), (3, .inl x3), (4, .inl x4), (5, .inl x5), (6, .inl x6), (7, .inl 1), (8, .inl z88)]) (st' := [.inl (H312.1 7 6), .inr (.inr 7)]) rfl ?_
                  refine k_run 2 (pc' := 217) (l' := [(0, .inr (.inr 361)), (1, .inl x1), (2, .inl x2), (3, .inl x3), (4, .inl x4), (5, .inl x5), (6, .inl x6), (7, .inl 1), (8, .inl z88)]) (st' := [.inl ((H312.1 7 6) + 0), .inr (.inr 7)]) rfl ?_
                  refine k_puti (z := ((H312.1 7 6) + 0)) (a := 7) (x := kx_7) rfl rfl rfl (by decide) (by decide) rfl rfl rfl rfl hI313 (by omega) (show 0 ≤ ((H312.1 7 6) + 0) ∧ ((H312.1 7 6) + 0) ≤ 16 by omega) (fun H332 hI333 hw334 hv335 => ?_)
                  have hf336 : fq [(2, 5), (7, 5), (7, 6), (8, 4), (13, 4), (18, 4), (361, 3), (361, 4), (361, 5), (361, 6), (361, 7), (361, 8), (361, 9)] [4, 5, 6, 9, 10, 11, 14, 15, 16, 17, 19, 20, 21, 22, 362] true H H332 := fq_w hf318 hw334 (fpo (by decide) rfl)
                  refine k_run 0 (pc' := 220) (l' := [(0, .inr (.inr 361)), (1, .inl x1), (2, .inl x2), (3, .inl x3), (4, .inl x4), (5, .inl x5), (6, .inl x6), (7, .inl 1), (8, .inl z88)]) (st' := []) rfl ?_
                  refine k_run 2 (pc' := 69) (l' := [(0, .inr (.inr 361)), (1, .inl x1), (2, .inl x2), (3, .inl x3), (4, .inl x4), (5, .inl x5), (6, .inl (x6 + 1)), (7, .inl 1), (8, .inl z88)]) (st' := []) rfl ?_
                  refine h_loc [0, 1, 2, 3, 4, 5, 6, 7] rfl ?_
                  rw [htk2] at hx316
                  obtain ⟨t11, t12, t13⟩ := Or.resolve_right hx316 (fun q9 => by have := q9.1; omega)
                  have hR3 : RB (H.1 3, (H.1 2 1).toNat) q H312 (adv X2) := RB_adv m2 hp315 nB345 t13 (RB_lt m2 (by omega) (by omega))
                  rw [hQ9]
                  exact ih H332 hI333 hf336 x1 x2 x3 x4 x5 (x6 + 1) (1 : Int) (by omega) (by omega) (by omega) (by omega) (by omega) (by omega) (by decide) (by omega) (by omega) (by omega) (by first | (exfalso; omega) | exact Or.inl ⟨rfl, q, adv X2, rch_st m1t (show step (H.1 3, (H.1 2 1).toNat) _ = _ from if_pos t12), RB_l0 hR3 hw334 (by have q9 := hv335; omega), AB_adv m3, SC_fr (SC_adv hS2) (NE_tr (NE_fwo hp315 (by simp)) (NE_w hw334 (sc_no (by omega))))⟩) (by first | (exfalso; omega) | exact oS_tr hi4 (oS_tr (oS_rule (X := X) hx297.2 (by omega) (by omega) (by omega)) (oS_NE (NE_tr (NE_fwo hp315 (by simp)) (NE_w hw334 (sc_no (by omega)))) (by omega) (Or.inl rfl)))) (by omega)
                · refine k_run 0 (pc' := 211) (l' := [(0, .inr (.inr 361)), (1, .inl x1), (2, .inl x2), (3, .inl x3), (4, .inl x4), (5, .inl x5), (6, .inl x6), (7, .inl 1), (8, .inl z88)]) (st' := [.inl (H312.1 7 6), .inr (.inr 7)]) rfl ?_
                  refine k_run 3 (pc' := 217) (l' := [(0, .inr (.inr 361)), (1, .inl x1), (2, .inl x2), (3, .inl x3), (4, .inl x4), (5, .inl x5), (6, .inl x6), (7, .inl 1), (8, .inl z88)]) (st' := [.inl ((H312.1 7 6) + 1), .inr (.inr 7)]) rfl ?_
                  refine k_puti (z := ((H312.1 7 6) + 1)) (a := 7) (x := kx_7) rfl rfl rfl (by decide) (by decide) rfl rfl rfl rfl hI313 (by omega) (show 0 ≤ ((H312.1 7 6) + 1) ∧ ((H312.1 7 6) + 1) ≤ 16 by omega) (fun H337 hI338 hw339 hv340 => ?_)
                  have hf341 : fq [(2, 5), (7, 5), (7, 6), (8, 4), (13, 4), (18, 4), (361, 3), (361, 4), (361, 5), (361, 6), (361, 7), (361, 8), (361, 9)] [4, 5, 6, 9, 10, 11, 14, 15, 16, 17, 19, 20, 21, 22, 362] true H H337 := fq_w hf318 hw339 (fpo (by decide) rfl)
                  refine k_run 0 (pc' := 220) (l' := [(0, .inr (.inr 361)), (1, .inl x1), (2, .inl x2), (3, .inl x3), (4, .inl x4), (5, .inl x5), (6, .inl x6), (7, .inl 1), (8, .inl z88)]) (st' := []) rfl ?_
                  refine k_run 2 (pc' := 69) (l' := [(0, .inr (.inr 361)), (1, .inl x1), (2, .inl x2), (3, .inl x3), (4, .inl x4), (5, .inl x5), (6, .inl (x6 + 1)), (7, .inl 1), (8, .inl z88)]) (st' := []) rfl ?_
                  refine h_loc [0, 1, 2, 3, 4, 5, 6, 7] rfl ?_
                  rw [htk2] at hx316
                  obtain ⟨t11, t12, t13⟩ := Or.resolve_right hx316 (fun q9 => by have := q9.1; omega)
                  have hR3 : RB (H.1 3, (H.1 2 1).toNat) q H312 (adv X2) := RB_adv m2 hp315 nB345 t13 (RB_lt m2 (by omega) (by omega))
                  rw [hQ9]
                  exact ih H337 hI338 hf341 x1 x2 x3 x4 x5 (x6 + 1) (1 : Int) (by omega) (by omega) (by omega) (by omega) (by omega) (by omega) (by decide) (by omega) (by omega) (by omega) (by first | (exfalso; omega) | exact Or.inl ⟨rfl, q, adv X2, rch_st m1t (show step (H.1 3, (H.1 2 1).toNat) _ = _ from if_pos t12), RB_l0 hR3 hw339 (by have q9 := hv340; omega), AB_adv m3, SC_fr (SC_adv hS2) (NE_tr (NE_fwo hp315 (by simp)) (NE_w hw339 (sc_no (by omega))))⟩) (by first | (exfalso; omega) | exact oS_tr hi4 (oS_tr (oS_rule (X := X) hx297.2 (by omega) (by omega) (by omega)) (oS_NE (NE_tr (NE_fwo hp315 (by simp)) (NE_w hw339 (sc_no (by omega)))) (by omega) (Or.inl rfl)))) (by omega)
          · refine h_tin (k := 3) (t := 155) rfl (by omega) (show z88 = 4 + ((3 : Nat) : Int) by omega) (by decide) rfl rfl ?_
            refine k_run 1 (pc' := 156) (l' := [(0, .inr (.inr 361)), (1, .inl x1), (2, .inl x2), (3, .inl x3), (4, .inl x4), (5, .inl x5), (6, .inl x6), (7, .inl x7), (8, .inl z88)]) (st' := [.inr (.inr 361)]) rfl ?_
            refine h_cv (i := 86) (j := 69) (b := 361) (M' := mt_69) (xs := []) (rest := []) rfl rfl rfl rfl (zs_K (x := kx_361) rfl (by decide)) rfl (Nat.le_of_ble_eq_true rfl) (Nat.le_of_ble_eq_true rfl) (by omega) (q_Reader_readLaw (by omega) hI1 k2 (show rch (H.1 3, (H.1 2 1).toNat) ([(6, x6, 0, 0)], X1) ((6, x6, 0, 0) :: [], X1) from rch_rf _ _) (by omega) k3) ?_
            rintro _ H343 ⟨z348, rfl, g342, hI344, hq345, hx347⟩
            have hf349 : fq [(2, 5), (7, 5), (7, 6), (8, 4), (13, 4), (18, 4), (361, 3), (361, 4), (361, 5), (361, 6), (361, 7), (361, 8), (361, 9)] [4, 5, 6, 9, 10, 11, 14, 15, 16, 17, 19, 20, 21, 22, 362] true H H343 := fq_t hf1 hq345 rfl rfl rfl
            refine k_run 0 (pc' := 159) (l' := [(0, .inr (.inr 361)), (1, .inl x1), (2, .inl x2), (3, .inl x3), (4, .inl x4), (5, .inl x5), (6, .inl x6), (7, .inl x7), (8, .inl z88)]) (st' := [.inl z348]) rfl ?_
            refine k_run 3 (pc' := 172) (l' := [(0, .inr (.inr 361)), (1, .inl x1), (2, .inl x2), (3, .inl x3), (4, .inl x4), (5, .inl x5), (6, .inl x6), (7, .inl z348), (8, .inl z88)]) (st' := [.inl z348]) rfl ?_
            refine h_zeq (off := 16) (t := 188) rfl rfl (by omega) (fun c350 => ?_) (fun c350 => ?_)
            · refine k_run 0 (pc' := 188) (l' := [(0, .inr (.inr 361)), (1, .inl x1), (2, .inl x2), (3, .inl x3), (4, .inl x4), (5, .inl x5), (6, .inl x6), (7, .inl z348), (8, .inl z88)]) (st' := []) rfl ?_
              refine k_run 6 (pc' := 199) (l' := [(0, .inr (.inr 361)), (1, .inl x1), (2, .inl x2), (3, .inl x3), (4, .inl x4), (5, .inl x5), (6, .inl x6), (7, .inl 0), (8, .inl z88)]) (st' := [.inl (H343.1 7 6), .inr (.inr 7)]) rfl ?_
              have g351 : 0 ≤ (H343.1 7 6) ∧ (H343.1 7 6) ≤ 16 := kn (x := kx_7) hI344 rfl 6
              have e352 : (H343.1 7 6) = (H1.1 7 6) := (hq345.1 7 6 rfl (by decide) (by decide)).1
              refine k_run 1 (pc' := 201) (l' := [(0, .inr (.inr 361)), (1, .inl x1), (2, .inl x2), (3, .inl x3), (4, .inl x4), (5, .inl x5), (6, .inl x6), (7, .inl 0), (8, .inl z88)]) (st' := [.inl 0, .inl (H343.1 7 6), .inr (.inr 7)]) rfl ?_
              refine h_zeq (off := 14) (t := 215) rfl rfl (by decide) (fun _ => ?_) (fun c => absurd c (by decide))
              refine k_run 0 (pc' := 215) (l' := [(0, .inr (.inr 361)), (1, .inl x1), (2, .inl x2), (3, .inl x3), (4, .inl x4), (5, .inl x5), (6, .inl x6), (7, .inl 0), (8, .inl z88)]) (st' := [.inl (H343.1 7 6), .inr (.inr 7)]) rfl ?_
              refine k_run 2 (pc' := 217) (l' := [(0, .inr (.inr 361)), (1, .inl x1), (2, .inl x2), (3, .inl x3), (4, .inl x4), (5, .inl x5), (6, .inl x6), (7, .inl 0), (8, .inl z88)]) (st' := [.inl ((H343.1 7 6) + 0), .inr (.inr 7)]) rfl ?_
              refine k_puti (z := ((H343.1 7 6) + 0)) (a := 7) (x := kx_7) rfl rfl rfl (by decide) (by decide) rfl rfl rfl rfl hI344 (by omega) (show 0 ≤ ((H343.1 7 6) + 0) ∧ ((H343.1 7 6) + 0) ≤ 16 by omega) (fun H353 hI354 hw355 hv356 => ?_)
              have hf357 : fq [(2, 5), (7, 5), (7, 6), (8, 4), (13, 4), (18, 4), (361, 3), (361, 4), (361, 5), (361, 6), (361, 7), (361, 8), (361, 9)] [4, 5, 6, 9, 10, 11, 14, 15, 16, 17, 19, 20, 21, 22, 362] true H H353 := fq_w hf349 hw355 (fpo (by decide) rfl)
              refine k_run 0 (pc' := 220) (l' := [(0, .inr (.inr 361)), (1, .inl x1), (2, .inl x2), (3, .inl x3), (4, .inl x4), (5, .inl x5), (6, .inl x6), (7, .inl 0), (8, .inl z88)]) (st' := []) rfl ?_
              refine k_run 2 (pc' := 69) (l' := [(0, .inr (.inr 361)), (1, .inl x1), (2, .inl x2), (3, .inl x3), (4, .inl x4), (5, .inl x5), (6, .inl (x6 + 1)), (7, .inl 0), (8, .inl z88)]) (st' := []) rfl ?_
              refine h_loc [0, 1, 2, 3, 4, 5, 6, 7] rfl ?_
              rw [hQ9]
              exact ih H353 hI354 hf357 x1 x2 x3 x4 x5 (x6 + 1) (0 : Int) (by omega) (by omega) (by omega) (by omega) (by omega) (by omega) (by decide) (by omega) (by omega) (by omega) (by first | (exfalso; omega) | exact Or.inr ⟨rfl, FB_l0 (FB_tr k1 (Or.resolve_left hx347.1 (fun q9 => by have := q9.1; omega)).2) hw355 (by have q9 := hv356; omega)⟩) (by first | (exfalso; omega) | exact oS_tr hi4 (oS_tr (oS_NE (X := X) hx347.2 (by omega) (Or.inr (Or.inr ⟨by omega, by omega, by omega⟩))) (oS_NE (NE_w (e := 0) hw355 (sc_no (by omega))) (by omega) (Or.inl rfl)))) (by omega)
            · refine k_run 0 (pc' := 175) (l' := [(0, .inr (.inr 361)), (1, .inl x1), (2, .inl x2), (3, .inl x3), (4, .inl x4), (5, .inl x5), (6, .inl x6), (7, .inl z348), (8, .inl z88)]) (st' := []) rfl ?_
              obtain ⟨X2, m1, m2, m3, m4, m5, m6, m7, m8⟩ := (Or.resolve_right hx347.1 (fun q9 => by have := q9.1; omega)).2
              have hpa2 := RB_pa m2
              have htk2 := RB_tk m2
              have hl2 := m2.2.1.1.2.2.2.2
              have hl26 := m2.2.1.1.2.2.2.1
              have m1t := rch_tr k1 m1
              obtain ⟨hj2, hl2b⟩ := hJL _ _ m1
              have b26 : 0 ≤ H343.1 7 5 ∧ H343.1 7 5 ≤ 40 := kn (x := kx_7) hI344 rfl 5
              have b27 : 0 ≤ H343.1 7 6 ∧ H343.1 7 6 ≤ 16 := kn (x := kx_7) hI344 rfl 6
              have f26 : H343.1 7 6 = H1.1 7 6 := (hq345.1 7 6 rfl (by decide) (by decide)).1
              have f25 : H343.1 7 5 = H1.1 7 5 := (hq345.1 7 5 rfl (by decide) (by decide)).1
              have hS2 : SC H343 X2 := SC_new k4 hM1 hj2 hl2b (oS_NE (X := X1) hx347.2 (by omega) (Or.inr (Or.inr ⟨by omega, by omega, by omega⟩))) (fun r r1 r2 r3 => absurd r3 (by omega)) (by omega)
              refine k_run 2 (pc' := 178) (l' := [(0, .inr (.inr 361)), (1, .inl x1), (2, .inl x2), (3, .inl x3), (4, .inl x4), (5, .inl x5), (6, .inl x6), (7, .inl z348), (8, .inl z88)]) (st' := [.inl 59, .inr (.inr 361)]) rfl ?_
              have g358 : -2147483648 ≤ (H343.1 361 3) ∧ (H343.1 361 3) ≤ 2147483647 := kn (x := kx_361) hI344 rfl 3
              have g359 : 0 ≤ (H343.1 2 5) ∧ (H343.1 2 5) ≤ 1001 := kn (x := kx_2) hI344 rfl 5
              have e360 : (H343.1 2 5) = (H1.1 2 5) := (hq345.1 2 5 rfl (by decide) (by decide)).1
              refine h_cv (i := 92) (j := 82) (b := 361) (M' := mt_82) (xs := [.inl 59]) (rest := []) rfl rfl rfl rfl (zs_K (x := kx_361) rfl (by decide)) rfl (Nat.le_of_ble_eq_true rfl) (Nat.le_of_ble_eq_true rfl) (by omega) (q_Reader_take (by omega) hI344 (by decide) (by omega)) ?_
              rintro _ H362 ⟨z367, rfl, g361, hI363, hq364, hp365, hx366⟩
              have hf368 : fq [(2, 5), (7, 5), (7, 6), (8, 4), (13, 4), (18, 4), (361, 3), (361, 4), (361, 5), (361, 6), (361, 7), (361, 8), (361, 9)] [4, 5, 6, 9, 10, 11, 14, 15, 16, 17, 19, 20, 21, 22, 362] true H H362 := fq_t hf349 hq364 rfl rfl rfl
              refine k_run 0 (pc' := 181) (l' := [(0, .inr (.inr 361)), (1, .inl x1), (2, .inl x2), (3, .inl x3), (4, .inl x4), (5, .inl x5), (6, .inl x6), (7, .inl z348), (8, .inl z88)]) (st' := [.inl z367]) rfl ?_
              refine h_zeq (off := 7) (t := 188) rfl rfl (by omega) (fun c369 => ?_) (fun c369 => ?_)
              · refine k_run 0 (pc' := 188) (l' := [(0, .inr (.inr 361)), (1, .inl x1), (2, .inl x2), (3, .inl x3), (4, .inl x4), (5, .inl x5), (6, .inl x6), (7, .inl z348), (8, .inl z88)]) (st' := []) rfl ?_
                refine k_run 6 (pc' := 199) (l' := [(0, .inr (.inr 361)), (1, .inl x1), (2, .inl x2), (3, .inl x3), (4, .inl x4), (5, .inl x5), (6, .inl x6), (7, .inl 0), (8, .inl z88)]) (st' := [.inl (H362.1 7 6), .inr (.inr 7)]) rfl ?_
                have g370 : 0 ≤ (H362.1 7 6) ∧ (H362.1 7 6) ≤ 16 := kn (x := kx_7) hI363 rfl 6
                have e371 : (H362.1 7 6) = (H343.1 7 6) := (hq364.1 7 6 rfl (by decide) (by decide)).1
                have e372 : (H343.1 7 6) = (H1.1 7 6) := (hq345.1 7 6 rfl (by decide) (by decide)).1
                refine k_run 1 (pc' := 201) (l' := [(0, .inr (.inr 361)), (1, .inl x1), (2, .inl x2), (3, .inl x3), (4, .inl x4), (5, .inl x5), (6, .inl x6), (7, .inl 0), (8, .inl z88)]) (st' := [.inl 0, .inl (H362.1 7 6), .inr (.inr 7)]) rfl ?_
                refine h_zeq (off := 14) (t := 215) rfl rfl (by decide) (fun _ => ?_) (fun c => absurd c (by decide))
                refine k_run 0 (pc' := 215) (l' := [(0, .inr (.inr 361)), (1, .inl x1), (2, .inl x2), (3, .inl x3), (4, .inl x4), (5, .inl x5), (6, .inl x6), (7, .inl 0), (8, .inl z88)]) (st' := [.inl (H362.1 7 6), .inr (.inr 7)]) rfl ?_
                refine k_run 2 (pc' := 217) (l' := [(0, .inr (.inr 361)), (1, .inl x1), (2, .inl x2), (3, .inl x3), (4, .inl x4), (5, .inl x5), (6, .inl x6), (7, .inl 0), (8, .inl z88)]) (st' := [.inl ((H362.1 7 6) + 0), .inr (.inr 7)]) rfl ?_
                refine k_puti (z := ((H362.1 7 6) + 0)) (a := 7) (x := kx_7) rfl rfl rfl (by decide) (by decide) rfl rfl rfl rfl hI363 (by omega) (show 0 ≤ ((H362.1 7 6) + 0) ∧ ((H362.1 7 6) + 0) ≤ 16 by omega) (fun H373 hI374 hw375 hv376 => ?_)
                have hf377 : fq [(2, 5), (7, 5), (7, 6), (8, 4), (13, 4), (18, 4), (361, 3), (361, 4), (361, 5), (361, 6), (361, 7), (361, 8), (361, 9)] [4, 5, 6, 9, 10, 11, 14, 15, 16, 17, 19, 20, 21, 22, 362] true H H373 := fq_w hf368 hw375 (fpo (by decide) rfl)
                refine k_run 0 (pc' := 220) (l' := [(0, .inr (.inr 361)), (1, .inl x1), (2, .inl x2), (3, .inl x3), (4, .inl x4), (5, .inl x5), (6, .inl x6), (7, .inl 0), (8, .inl z88)]) (st' := []) rfl ?_
                refine k_run 2 (pc' := 69) (l' := [(0, .inr (.inr 361)), (1, .inl x1), (2, .inl x2), (3, .inl x3), (4, .inl x4), (5, .inl x5), (6, .inl (x6 + 1)), (7, .inl 0), (8, .inl z88)]) (st' := []) rfl ?_
                refine h_loc [0, 1, 2, 3, 4, 5, 6, 7] rfl ?_
                rw [htk2] at hx366
                have hxi : xi (xu (xsd X2 (4 * (X2 0 7).toNat + 103)) 0 7 (X2 0 7 + 1)) = xi X2 := rfl
                rw [hQ9]
                exact ih H373 hI374 hf377 x1 x2 x3 x4 x5 (x6 + 1) (0 : Int) (by omega) (by omega) (by omega) (by omega) (by omega) (by omega) (by decide) (by omega) (by omega) (by omega) (by first | (exfalso; omega) | exact Or.inr ⟨rfl, FB_l0 (Or.elim hx366 (fun e => absurd e.1 (by omega)) (fun e => ⟨(xu (xsd X2 (4 * (X2 0 7).toNat + 103)) 0 7 (X2 0 7 + 1)), X2, _, _, _, rch_st (rch_st m1t rfl) (by show (if tk (H.1 3, (H.1 2 1).toNat) (xi (xu (xsd X2 (4 * (X2 0 7).toNat + 103)) 0 7 (X2 0 7 + 1))) = 59 then _ else miss (H.1 3, (H.1 2 1).toNat) (xu (xsd X2 (4 * (X2 0 7).toNat + 103)) 0 7 (X2 0 7 + 1))) = _; rw [hxi, if_neg e.2.1]; unfold miss fl; rw [hxi]), m1t, TC_fw m2.2.1 hp365 nT345, ER_fw m2.2.2.2 hp365, e.2.2.2.1, e.2.2.2.2.trans (RB_ts m2), RB_tb m2⟩)) hw375 (by have q9 := hv376; omega)⟩) (by first | (exfalso; omega) | exact oS_tr hi4 (oS_tr (oS_NE (X := X) hx347.2 (by omega) (Or.inr (Or.inr ⟨by omega, by omega, by omega⟩))) (oS_NE (NE_tr (NE_fwo hp365 (by simp)) (NE_w hw375 (sc_no (by omega)))) (by omega) (Or.inl rfl)))) (by omega)
              · refine k_run 0 (pc' := 184) (l' := [(0, .inr (.inr 361)), (1, .inl x1), (2, .inl x2), (3, .inl x3), (4, .inl x4), (5, .inl x5), (6, .inl x6), (7, .inl z348), (8, .inl z88)]) (st' := []) rfl ?_
                refine k_run 7 (pc' := 199) (l' := [(0, .inr (.inr 361)), (1, .inl x1), (2, .inl x2), (3, .inl x3), (4, .inl x4), (5, .inl x5), (6, .inl x6), (7, .inl 1), (8, .inl z88)]) (st' := [.inl (H362.1 7 6), .inr (.inr 7)]) rfl ?_
                have g378 : 0 ≤ (H362.1 7 6) ∧ (H362.1 7 6) ≤ 16 := kn (x := kx_7) hI363 rfl 6
                have e379 : (H362.1 7 6) = (H343.1 7 6) := (hq364.1 7 6 rfl (by decide) (by decide)).1
                have e380 : (H343.1 7 6) = (H1.1 7 6) := (hq345.1 7 6 rfl (by decide) (by decide)).1
                refine k_run 1 (pc' := 201) (l' := [(0, .inr (.inr 361)), (1, .inl x1), (2, .inl x2), (3, .inl x3), (4, .inl x4), (5, .inl x5), (6, .inl x6), (7, .inl 1), (8, .inl z88)]) (st' := [.inl 1, .inl (H362.1 7 6), .inr (.inr 7)]) rfl ?_
                refine h_zeq (off := 14) (t := 215) rfl rfl (by decide) (fun c => absurd c (by decide)) (fun _ => ?_)
                refine k_run 0 (pc' := 204) (l' := [(0, .inr (.inr 361)), (1, .inl x1), (2, .inl x2), (3, .inl x3), (4, .inl x4), (5, .inl x5), (6, .inl x6), (7, .inl 1), (8, .inl z88)]) (st' := [.inl (H362.1 7 6), .inr (.inr 7)]) rfl ?_
                refine k_run 2 (pc' := 208) (l' := [(0, .inr (.inr 361)), (1, .inl x1), (2, .inl x2), (3, .inl x3), (4, .inl x4), (5, .inl x5), (6, .inl x6), (7, .inl 1), (8, .inl z88)]) (st' := [.inl 7, .inl z88, .inl (H362.1 7 6), .inr (.inr 7)]) rfl ?_
                refine h_ine (off := 7) (t := 215) rfl rfl (by omega) (by decide) (fun c381 => ?_) (fun c381 => ?_)
                · refine k_run 0 (pc' := 215) (l' := [(0, .inr (.inr 361)), (1, .inl x1), (2, .inl x2), (3, .inl x3), (4, .inl x4), (5, .inl x5), (6, .inl x6), (7, .inl 1), (8, .inl z88)]) (st' := [.inl (H362.1 7 6), .inr (.inr 7)]) rfl ?_
                  refine k_run 2 (pc' := 217) (l' := [(0, .inr (.inr 361)), (1, .inl x1), (2, .inl x2), (3, .inl x3), (4, .inl x4), (5, .inl x5), (6, .inl x6), (7, .inl 1), (8, .inl z88)]) (st' := [.inl ((H362.1 7 6) + 0), .inr (.inr 7)]) rfl ?_
                  refine k_puti (z := ((H362.1 7 6) + 0)) (a := 7) (x := kx_7) rfl rfl rfl (by decide) (by decide) rfl rfl rfl rfl hI363 (by omega) (show 0 ≤ ((H362.1 7 6) + 0) ∧ ((H362.1 7 6) + 0) ≤ 16 by omega) (fun H382 hI383 hw384 hv385 => ?_)
                  have hf386 : fq [(2, 5), (7, 5), (7, 6), (8, 4), (13, 4), (18, 4), (361, 3), (361, 4), (361, 5), (361, 6), (361, 7), (361, 8), (361, 9)] [4, 5, 6, 9, 10, 11, 14, 15, 16, 17, 19, 20, 21, 22, 362] true H H382 := fq_w hf368 hw384 (fpo (by decide) rfl)
                  refine k_run 0 (pc' := 220) (l' := [(0, .inr (.inr 361)), (1, .inl x1), (2, .inl x2), (3, .inl x3), (4, .inl x4), (5, .inl x5), (6, .inl x6), (7, .inl 1), (8, .inl z88)]) (st' := []) rfl ?_
                  refine k_run 2 (pc' := 69) (l' := [(0, .inr (.inr 361)), (1, .inl x1), (2, .inl x2), (3, .inl x3), (4, .inl x4), (5, .inl x5), (6, .inl (x6 + 1)), (7, .inl 1), (8, .inl z88)]) (st' := []) rfl ?_
                  refine h_loc [0, 1, 2, 3, 4, 5, 6, 7] rfl ?_
                  rw [htk2] at hx366
                  obtain ⟨t11, t12, t13⟩ := Or.resolve_right hx366 (fun q9 => by have := q9.1; omega)
                  have hR3 : RB (H.1 3, (H.1 2 1).toNat) q H362 (adv X2) := RB_adv m2 hp365 nB345 t13 (RB_lt m2 (by omega) (by omega))
                  have hxi : xi (xu (xsd X2 (4 * (X2 0 7).toNat + 103)) 0 7 (X2 0 7 + 1)) = xi X2 := rfl
                  have a7 := adv_0 X2 (j := 7) (by decide)
                  rw [hQ9]
                  exact ih H382 hI383 hf386 x1 x2 x3 x4 x5 (x6 + 1) (1 : Int) (by omega) (by omega) (by omega) (by omega) (by omega) (by omega) (by decide) (by omega) (by omega) (by omega) (by first | (exfalso; omega) | exact Or.inl ⟨rfl, q, adv (xu (xsd X2 (4 * (X2 0 7).toNat + 103)) 0 7 (X2 0 7 + 1)), rch_st (rch_st m1t rfl) (by show (if tk (H.1 3, (H.1 2 1).toNat) (xi (xu (xsd X2 (4 * (X2 0 7).toNat + 103)) 0 7 (X2 0 7 + 1))) = 59 then _ else _) = _; rw [hxi, if_pos t12]), (show RB (H.1 3, (H.1 2 1).toNat) q _ (adv (xu X2 0 7 (X2 0 7 + 1))) from (by rw [← xu_adv, ← a7]; exact RB_law hR3 hw384 hv385 (by rw [a7, show adv X2 12 = X2 12 from xu_ne _ _ _ (by decide), hp365.2 _ _ (by simp; omega)]; exact m5) (by omega))), AB_adv (AB_x0 (AB_sd _ m3) (by decide) (by decide)), SC_fr (SC_adv (SC_law hS2 (by omega) m6 m7 m8)) (NE_tr (NE_fwo hp365 (by simp)) (NE_w hw384 (sc_no (by omega))))⟩) (by first | (exfalso; omega) | exact oS_tr hi4 (oS_tr (oS_NE (X := X) hx347.2 (by omega) (Or.inr (Or.inr ⟨by omega, by omega, by omega⟩))) (oS_NE (NE_tr (NE_fwo hp365 (by simp)) (NE_w hw384 (sc_no (by omega)))) (by omega) (Or.inl rfl)))) (by omega)
                · refine k_run 0 (pc' := 211) (l' := [(0, .inr (.inr 361)), (1, .inl x1), (2, .inl x2), (3, .inl x3), (4, .inl x4), (5, .inl x5), (6, .inl x6), (7, .inl 1), (8, .inl z88)]) (st' := [.inl (H362.1 7 6), .inr (.inr 7)]) rfl ?_
                  refine k_run 3 (pc' := 217) (l' := [(0, .inr (.inr 361)), (1, .inl x1), (2, .inl x2), (3, .inl x3), (4, .inl x4), (5, .inl x5), (6, .inl x6), (7, .inl 1), (8, .inl z88)]) (st' := [.inl ((H362.1 7 6) + 1), .inr (.inr 7)]) rfl ?_
                  refine k_puti (z := ((H362.1 7 6) + 1)) (a := 7) (x := kx_7) rfl rfl rfl (by decide) (by decide) rfl rfl rfl rfl hI363 (by omega) (show 0 ≤ ((H362.1 7 6) + 1) ∧ ((H362.1 7 6) + 1) ≤ 16 by omega) (fun H387 hI388 hw389 hv390 => ?_)
                  have hf391 : fq [(2, 5), (7, 5), (7, 6), (8, 4), (13, 4), (18, 4), (361, 3), (361, 4), (361, 5), (361, 6), (361, 7), (361, 8), (361, 9)] [4, 5, 6, 9, 10, 11, 14, 15, 16, 17, 19, 20, 21, 22, 362] true H H387 := fq_w hf368 hw389 (fpo (by decide) rfl)
                  refine k_run 0 (pc' := 220) (l' := [(0, .inr (.inr 361)), (1, .inl x1), (2, .inl x2), (3, .inl x3), (4, .inl x4), (5, .inl x5), (6, .inl x6), (7, .inl 1), (8, .inl z88)]) (st' := []) rfl ?_
                  refine k_run 2 (pc' := 69) (l' := [(0, .inr (.inr 361)), (1, .inl x1), (2, .inl x2), (3, .inl x3), (4, .inl x4), (5, .inl x5), (6, .inl (x6 + 1)), (7, .inl 1), (8, .inl z88)]) (st' := []) rfl ?_
                  refine h_loc [0, 1, 2, 3, 4, 5, 6, 7] rfl ?_
                  rw [htk2] at hx366
                  obtain ⟨t11, t12, t13⟩ := Or.resolve_right hx366 (fun q9 => by have := q9.1; omega)
                  have hR3 : RB (H.1 3, (H.1 2 1).toNat) q H362 (adv X2) := RB_adv m2 hp365 nB345 t13 (RB_lt m2 (by omega) (by omega))
                  have hxi : xi (xu (xsd X2 (4 * (X2 0 7).toNat + 103)) 0 7 (X2 0 7 + 1)) = xi X2 := rfl
                  have a7 := adv_0 X2 (j := 7) (by decide)
                  rw [hQ9]
                  exact ih H387 hI388 hf391 x1 x2 x3 x4 x5 (x6 + 1) (1 : Int) (by omega) (by omega) (by omega) (by omega) (by omega) (by omega) (by decide) (by omega) (by omega) (by omega) (by first | (exfalso; omega) | exact Or.inl ⟨rfl, q, adv (xu (xsd X2 (4 * (X2 0 7).toNat + 103)) 0 7 (X2 0 7 + 1)), rch_st (rch_st m1t rfl) (by show (if tk (H.1 3, (H.1 2 1).toNat) (xi (xu (xsd X2 (4 * (X2 0 7).toNat + 103)) 0 7 (X2 0 7 + 1))) = 59 then _ else _) = _; rw [hxi, if_pos t12]), (show RB (H.1 3, (H.1 2 1).toNat) q _ (adv (xu X2 0 7 (X2 0 7 + 1))) from (by rw [← xu_adv, ← a7]; exact RB_law hR3 hw389 hv390 (by rw [a7, show adv X2 12 = X2 12 from xu_ne _ _ _ (by decide), hp365.2 _ _ (by simp; omega)]; exact m5) (by omega))), AB_adv (AB_x0 (AB_sd _ m3) (by decide) (by decide)), SC_fr (SC_adv (SC_law hS2 (by omega) m6 m7 m8)) (NE_tr (NE_fwo hp365 (by simp)) (NE_w hw389 (sc_no (by omega))))⟩) (by first | (exfalso; omega) | exact oS_tr hi4 (oS_tr (oS_NE (X := X) hx347.2 (by omega) (Or.inr (Or.inr ⟨by omega, by omega, by omega⟩))) (oS_NE (NE_tr (NE_fwo hp365 (by simp)) (NE_w hw389 (sc_no (by omega)))) (by omega) (Or.inl rfl)))) (by omega)
set_option maxRecDepth 100000 in
set_option maxHeartbeats 4000000 in
theorem q_Reader_readText {X : rx} {d : Nat} (hd : 42 ≤ d) {H : hp} (hI : Inv H)   (hT : TC H X) (hE : ER H) (hA : AB X) (hX0 : X 0 0 = 0) (hJ : ∀ (K : List tq) (X1 : rx), rch (H.1 3, (H.1 2 1).toNat) ([(6, 0, 0, 0)], X) (K, X1) → JB X X1) (hV : ∀ (n : Int) (X1 : rx), rch (H.1 3, (H.1 2 1).toNat) ([(6, 0, 0, 0)], X) ([(6, n, 0, 0)], X1) → n ≤ X1 0 0) (hS : SC H X) (hL : ∀ (n : Int) (X1 : rx), rch (H.1 3, (H.1 2 1).toNat) ([(6, 0, 0, 0)], X) ([(6, n, 0, 0)], X1) → MI X1 ∧ P0 X1 ∧ ∀ (K : List tq) (X2 : rx), rch (H.1 3, (H.1 2 1).toNat) ([(6, n, 0, 0)], X1) (K, X2) → JB X1 X2 ∧ LB X1 X2) : hG (zs zK) d mt_62 0 (zargs 0 [.inr (.inr 361)]) [] H (fun r9 H9 => ∃ z : Int, r9 = some (.inl z) ∧ ((-2147483648 ≤ z ∧ z ≤ 2147483647)) ∧ Inv H9 ∧ fq [(2, 5), (7, 5), (7, 6), (8, 4), (13, 4), (18, 4), (361, 3), (361, 4), (361, 5), (361, 6), (361, 7), (361, 8), (361, 9)] [4, 5, 6, 9, 10, 11, 14, 15, 16, 17, 19, 20, 21, 22, 362] true H H9 ∧ (RX (H.1 3, (H.1 2 1).toNat) X z H9)) := by
  have hcnt := hT.1
  have b8 : 0 ≤ H.1 8 4 ∧ H.1 8 4 ≤ 6 := kn (x := kx_8) hI rfl 4
  have b13 : 0 ≤ H.1 13 4 ∧ H.1 13 4 ≤ 16 := kn (x := kx_13) hI rfl 4
  have b18 : 0 ≤ H.1 18 4 ∧ H.1 18 4 ≤ 16 := kn (x := kx_18) hI rfl 4
  have b75 : 0 ≤ H.1 7 5 ∧ H.1 7 5 ≤ 40 := kn (x := kx_7) hI rfl 5
  have b76 : 0 ≤ H.1 7 6 ∧ H.1 7 6 ≤ 16 := kn (x := kx_7) hI rfl 6
  obtain ⟨Q9, hQ9⟩ : ∃ Q9 : Option zv → hp → Prop, Q9 = (fun r9 H9 => ∃ z : Int, r9 = some (.inl z) ∧ ((-2147483648 ≤ z ∧ z ≤ 2147483647)) ∧ Inv H9 ∧ fq [(2, 5), (7, 5), (7, 6), (8, 4), (13, 4), (18, 4), (361, 3), (361, 4), (361, 5), (361, 6), (361, 7), (361, 8), (361, 9)] [4, 5, 6, 9, 10, 11, 14, 15, 16, 17, 19, 20, 21, 22, 362] true H H9 ∧ (RX (H.1 3, (H.1 2 1).toNat) X z H9)) := ⟨_, rfl⟩
  rw [← hQ9]
  refine k_run 0 (pc' := 0) (l' := [(0, .inr (.inr 361))]) (st' := []) rfl ?_
  refine k_run 4 (pc' := 10) (l' := [(0, .inr (.inr 361))]) (st' := [.inl (H.1 8 4)]) rfl ?_
  have g1 : 0 ≤ (H.1 8 4) ∧ (H.1 8 4) ≤ 6 := kn (x := kx_8) hI rfl 4
  refine k_run 5 (pc' := 21) (l' := [(0, .inr (.inr 361)), (1, .inl (H.1 8 4))]) (st' := [.inl (H.1 13 4)]) rfl ?_
  have g2 : 0 ≤ (H.1 13 4) ∧ (H.1 13 4) ≤ 16 := kn (x := kx_13) hI rfl 4
  refine k_run 5 (pc' := 32) (l' := [(0, .inr (.inr 361)), (1, .inl (H.1 8 4)), (2, .inl (H.1 13 4))]) (st' := [.inl (H.1 18 4)]) rfl ?_
  have g3 : 0 ≤ (H.1 18 4) ∧ (H.1 18 4) ≤ 16 := kn (x := kx_18) hI rfl 4
  refine k_run 4 (pc' := 40) (l' := [(0, .inr (.inr 361)), (1, .inl (H.1 8 4)), (2, .inl (H.1 13 4)), (3, .inl (H.1 18 4))]) (st' := [.inl (H.1 7 5)]) rfl ?_
  have g4 : 0 ≤ (H.1 7 5) ∧ (H.1 7 5) ≤ 40 := kn (x := kx_7) hI rfl 5
  refine k_run 4 (pc' := 49) (l' := [(0, .inr (.inr 361)), (1, .inl (H.1 8 4)), (2, .inl (H.1 13 4)), (3, .inl (H.1 18 4)), (4, .inl (H.1 7 5))]) (st' := [.inl (H.1 7 6)]) rfl ?_
  have g5 : 0 ≤ (H.1 7 6) ∧ (H.1 7 6) ≤ 16 := kn (x := kx_7) hI rfl 6
  refine k_run 3 (pc' := 55) (l' := [(0, .inr (.inr 361)), (1, .inl (H.1 8 4)), (2, .inl (H.1 13 4)), (3, .inl (H.1 18 4)), (4, .inl (H.1 7 5)), (5, .inl (H.1 7 6))]) (st' := [.inr (.inr 2)]) rfl ?_
  refine h_cv (i := 64) (j := 27) (b := 2) (M' := mt_27) (xs := []) (rest := []) rfl rfl rfl rfl (zs_K (x := kx_2) rfl (by decide)) rfl (Nat.le_of_ble_eq_true rfl) (Nat.le_of_ble_eq_true rfl) (by omega) (q_Tape_cut (by omega) hI ) ?_
  rintro _ H7 ⟨rfl, hI8, hq9, hx11⟩
  have hf12 : fq [(2, 5), (7, 5), (7, 6), (8, 4), (13, 4), (18, 4), (361, 3), (361, 4), (361, 5), (361, 6), (361, 7), (361, 8), (361, 9)] [4, 5, 6, 9, 10, 11, 14, 15, 16, 17, 19, 20, 21, 22, 362] true H H7 := fq_t (fq_rf _ _ _ _) hq9 rfl rfl rfl
  refine k_run 0 (pc' := 58) (l' := [(0, .inr (.inr 361)), (1, .inl (H.1 8 4)), (2, .inl (H.1 13 4)), (3, .inl (H.1 18 4)), (4, .inl (H.1 7 5)), (5, .inl (H.1 7 6))]) (st' := []) rfl ?_
  obtain ⟨⟨q, hq⟩, hN55⟩ := hx11
  have hT1 := TC_cut hT hq9
  have hE1 := ER_cut hE hq9
  refine k_run 2 (pc' := 60) (l' := [(0, .inr (.inr 361)), (1, .inl (H.1 8 4)), (2, .inl (H.1 13 4)), (3, .inl (H.1 18 4)), (4, .inl (H.1 7 5)), (5, .inl (H.1 7 6))]) (st' := [.inl 0, .inr (.inr 361)]) rfl ?_
  refine k_puti (z := 0) (a := 361) (x := kx_361) rfl rfl rfl (by decide) (by decide) rfl rfl rfl rfl hI8 (by decide) (show -2147483648 ≤ (0 : Int) ∧ (0 : Int) ≤ 2147483647 by omega) (fun H13 hI14 hw15 hv16 => ?_)
  have hf17 : fq [(2, 5), (7, 5), (7, 6), (8, 4), (13, 4), (18, 4), (361, 3), (361, 4), (361, 5), (361, 6), (361, 7), (361, 8), (361, 9)] [4, 5, 6, 9, 10, 11, 14, 15, 16, 17, 19, 20, 21, 22, 362] true H H13 := fq_w hf12 hw15 (fpo (by decide) rfl)
  refine k_run 0 (pc' := 63) (l' := [(0, .inr (.inr 361)), (1, .inl (H.1 8 4)), (2, .inl (H.1 13 4)), (3, .inl (H.1 18 4)), (4, .inl (H.1 7 5)), (5, .inl (H.1 7 6))]) (st' := []) rfl ?_
  have hN0 := NE_tr hN55 (NE_w hw15 (sc_no (by omega)))
  have hB0 : RB (H.1 3, (H.1 2 1).toNat) q H13 X := ⟨KC_fw hq (fw_w (fw_rf [(361, 3)] _) hw15 (by simp)) (by simp), TC_fw hT1 (fw_w (fw_rf [(361, 3)] _) hw15 (by simp)) (fun p m => (nB3 p m).1), by rw [hv16, hX0]; omega, ER_fw hE1 (fw_w (fw_rf [(361, 3)] _) hw15 (by simp))⟩
  refine k_run 4 (pc' := 69) (l' := [(0, .inr (.inr 361)), (1, .inl (H.1 8 4)), (2, .inl (H.1 13 4)), (3, .inl (H.1 18 4)), (4, .inl (H.1 7 5)), (5, .inl (H.1 7 6)), (6, .inl 0), (7, .inl 1)]) (st' := []) rfl ?_
  rw [hQ9]
  exact (q_Reader_readText_cut hd hI  hT hE hA hX0 hJ hV hS hL _) H13 hI14 hf17 (H.1 8 4) (H.1 13 4) (H.1 18 4) (H.1 7 5) (H.1 7 6) (0 : Int) (1 : Int) (by omega) (by omega) (by omega) (by omega) (by omega) (by decide) (by decide) (by omega) (by omega) (by omega) (Or.inl ⟨rfl, q, X, rch_rf _ _, hB0, hA, SC_fr hS hN0⟩) (oS_NE hN0 (by omega) (Or.inl rfl)) (Nat.lt_succ_self _)
