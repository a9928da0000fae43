/-! work, both answer the same -/
theorem CR_of {H : hp} {X : rx} (hI : Inv H) (hT : TC H X) (hE : ER H) (hS : SC H X) : CR H X (X 0 6).toNat := by
  have h1 : H.1 7 5 = X 0 6 := hT.1.2.2.2.1
  have h2 : 0 ≤ H.1 7 5 ∧ H.1 7 5 ≤ 40 := kn (x := kx_7) hI rfl 5
  refine ⟨⟨by omega, by omega⟩, hE, fun r hr => ?_⟩
  obtain ⟨q1, q2, q3⟩ := hS.1 r (by omega) (by omega)
  exact ⟨⟨q1, q2⟩, q3⟩
theorem RZ9_of {H : hp} {X : rx} {m : Int} (hA : TA m H X) (hR : RS9 H X) : RZ9 H X := ⟨hA.2.2.2.1.1.1.symm, hR.1⟩
section WB
variable {Y : yx} {X : rx}
theorem wb_nx {c0 : cf} {X1 : rx} (r : rch Y c0 ([(1, 0, 0, 0)], X1)) (t : tk Y (xi X1) = 0) : rch Y c0 ([], adv X1) := rch_st r (by show (if tk Y (xi X1) = 0 then _ else _) = _; rw [if_pos t])
/-- what was read is one row -/
theorem wb_eq {c0 : cf} {X1 X2 : rx} (r1 : rch Y c0 ([(1, 0, 0, 0)], X1)) (t1 : tk Y (xi X1) = 0) (r2 : rch Y c0 ([(1, 0, 0, 0)], X2)) (t2 : tk Y (xi X2) = 0) : ∀ c j, c ≠ 0 ∨ j ≠ 0 → X1 c j = X2 c j := by
  have e := congrArg Prod.snd (rch_fin (wb_nx r1 t1) (wb_nx r2 t2) (Or.inl rfl) (Or.inl rfl))
  have e : adv X1 = adv X2 := e
  have q : ∀ (X : rx) c j, c ≠ 0 ∨ j ≠ 0 → adv X c j = X c j := by
    intro X c j h
    by_cases hc : c = 0
    · subst hc
      exact xu_0 _ _ (fun q => (h.resolve_left (fun q => q rfl)) q.2)
    · exact congrFun (xu_ne _ _ _ hc) j
  intro c j h
  rw [← q X1 c j h, ← q X2 c j h, e]
theorem wb_row {X1 X2 : rx} (h : ∀ c j, c ≠ 0 ∨ j ≠ 0 → X1 c j = X2 c j) : rowX X1 = rowX X2 := by
  unfold rowX
  rw [h 0 2 (Or.inr (by decide)), show X1 13 = X2 13 from funext (fun j => h 13 j (Or.inl (by decide)))]
theorem wb_no {c0 : cf} {X1 Xf : rx} {k p : Int} (r1 : rch Y c0 ([(1, 0, 0, 0)], X1)) (t1 : tk Y (xi X1) = 0) (r2 : rch Y c0 ([(0, k, p, 0)], Xf)) : False := by
  have e := congrArg Prod.fst (rch_fin (wb_nx r1 t1) r2 (Or.inl rfl) (Or.inr ⟨_, _, _, _, rfl⟩))
  cases e
theorem wb_p {c0 : cf} {X1 X2 : rx} {k1 p1 k2 p2 : Int} (r1 : rch Y c0 ([(0, k1, p1, 0)], X1)) (r2 : rch Y c0 ([(0, k2, p2, 0)], X2)) : p1 = p2 := by
  have e := congrArg Prod.fst (rch_fin r1 r2 (Or.inr ⟨_, _, _, _, rfl⟩) (Or.inr ⟨_, _, _, _, rfl⟩))
  have e2 : [((0 : Nat), k1, p1, (0 : Int))] = [(0, k2, p2, 0)] := e
  injection e2 with e3 _
  injection e3 with _ e4
  injection e4 with _ e5
  injection e5
/-- what the reference read is a term: so is what the class read -/
theorem WT_of {x r0 : Int} {H K : hp} (h : RQV Y X x H K r0) : 0 ≤ x ∧ x ≤ 2000 → WT9 Y X (ma (H.1 1833) (H.1 1830)) (H.1 1826 3) (H.1 1826 8) := by
  intro hx X2 r2 t2
  rcases h with ⟨h, -⟩ | ⟨-, ⟨X1, l2, r1, t1, -, ⟨k, k1, k2, k3⟩, e4, e8, e6⟩ | ⟨Xf, kf, p, rf, -⟩⟩
  · omega
  · have e := wb_eq r2 t2 r1 t1
    refine ⟨⟨k, (e 0 2 (Or.inr (by decide))).trans k1, k2, by rw [wb_row e]; exact k3⟩, ?_, ?_, (e 0 6 (Or.inr (by decide))).trans e6⟩
    · rw [← e4]
      exact funext (fun j => e 4 j (Or.inl (by decide)))
    · rw [← e8]
      exact funext (fun j => e 8 j (Or.inl (by decide)))
  · exact (wb_no r2 t2 rf).elim
/-- work: the same answer, as many steps -/
theorem work_same {x z r0 : Int} {H K K2 : hp} (g : ∀ c, 1826 ≤ c → K.1 c = H.1 c) (h1 : (0 ≤ x ∧ x ≤ 2000 → WT9 Y X (ma (H.1 1833) (H.1 1830)) (H.1 1826 3) (H.1 1826 8)) → RCV Y X (ma (H.1 1833) (H.1 1830)) x H K z) (h2 : RQV Y X x K K2 r0) : z = r0 ∧ ((K.1 1 8 = H.1 1 8 ∧ K2.1 1826 57 = K.1 1826 57) ∨ K.1 1 8 = K2.1 1826 57) := by
  have hw := WT_of h2
  rw [g 1833 (by decide), g 1830 (by decide), g 1826 (by decide)] at hw
  rcases h1 hw with ⟨a1, a2, a3⟩ | ⟨a1, ⟨X1, l1, r1, t1, e1⟩ | ⟨Xf, kf, p, rf, a2, a3⟩⟩
  · rcases h2 with ⟨b1, b2, b3⟩ | ⟨b1, -⟩
    · exact ⟨by rw [a2, b2], Or.inl ⟨a3, b3⟩⟩
    · omega
  · rcases h2 with ⟨b1, -⟩ | ⟨-, ⟨X2, l2, r2, t2, e2, -⟩ | ⟨Xg, kg, p2, rg, -⟩⟩
    · omega
    · rw [g 1833 (by decide), g 1830 (by decide), ← wb_row (wb_eq r1 t1 r2 t2), e1] at e2
      injection e2 with e3 e4
      injection e4 with e5 _
      exact ⟨e3, Or.inr e5⟩
    · exact (wb_no r1 t1 rg).elim
  · rcases h2 with ⟨b1, -⟩ | ⟨-, ⟨X2, l2, r2, t2, -⟩ | ⟨Xg, kg, p2, rg, b2, b3⟩⟩
    · omega
    · exact (wb_no r2 t2 rf).elim
    · exact ⟨by rw [a2, b2, wb_p rf rg], Or.inl ⟨a3, b3⟩⟩
end WB
