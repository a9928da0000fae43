/-! what the tables say for the two throws -/
def am_wd (i : Nat) : Option Cond := if i < 10000 then tables_1[i]? else (am_sw ++ am_dw)[i - 10000]?
theorem am_cov {ws : List Cond} (ps : List Nat) (h : ws.map some = ps.map am_wd) (g : (ps.all (fun i => decide (10000 ≤ i) || (match tables_1[i]? with | some w => goodWord w | none => false))) = true) : ∀ a ∈ ws, a ∈ at_Ts ∨ a ∈ am_sw ++ am_dw := by
  intro a ha
  have h1 : some a ∈ ps.map am_wd := by rw [← h]; exact List.mem_map.mpr ⟨a, ha, rfl⟩
  obtain ⟨i, hi, e⟩ := List.mem_map.mp h1
  have g1 := List.all_eq_true.mp g i hi
  unfold am_wd at e
  by_cases hlt : i < 10000
  · rw [if_pos hlt] at e
    rw [e] at g1
    have g2 : goodWord a = true := by
      rcases Bool.or_eq_true_iff.mp g1 with q | q
      · have := of_decide_eq_true q; omega
      · exact q
    exact Or.inl (at_at i e g2)
  · rw [if_neg hlt] at e
    exact Or.inr (List.mem_of_getElem? e)
set_option maxRecDepth 100000 in
theorem oa_iae : ∀ a ∈ Bundle.ownAtoms "EquationProofs" 91 "java/lang/IllegalArgumentException" ["java/lang/RuntimeException", "java/lang/Exception"], a ∈ at_Ts ∨ a ∈ am_sw ++ am_dw := am_cov [16, 1173, 1182, 1185, 1188, 1190, 1174, 1175, 28, 29, 1176, 1181, 1186, 1206, 1163, 1207, 1165, 1208, 1167, 1177, 10000, 1179, 10002, 1169, 1202, 1203, 1205, 1169, 1241, 1242, 1243, 1196, 10006, 1196, 1197, 1198, 1199, 10007, 1199, 1200, 1201, 1202, 10008, 1240, 1231, 10004, 1233, 1184, 1234, 1235, 1236, 1237, 10001, 10003, 1172, 1171, 1238] rfl (by decide +kernel)
set_option maxRecDepth 100000 in
theorem oa_ise : ∀ a ∈ Bundle.ownAtoms "EquationProofs" 81 "java/lang/IllegalStateException" ["java/lang/RuntimeException", "java/lang/Exception"], a ∈ at_Ts ∨ a ∈ am_sw ++ am_dw := am_cov [16, 1173, 1182, 1185, 1188, 1190, 1174, 1175, 28, 29, 1176, 1181, 1186, 1206, 1163, 1207, 1165, 1208, 1167, 1177, 10000, 1179, 10002, 1169, 1202, 1203, 1205, 1169, 1193, 1194, 1195, 1196, 10006, 1196, 1197, 1198, 1199, 10007, 1199, 1200, 1201, 1202, 10008, 1192, 1152, 10005, 1160, 1161, 1162, 1164, 1166, 1168, 10001, 10003, 1172, 1171, 1170] rfl (by decide +kernel)
