/-! what the tables say for the two throws -/
def am_wd (i : Nat) : Option Cond := if i < 10000 then tables_1[i]? else (am_sw ++ am_dw)[i - 10000]?
theorem am_cov {ws : List Cond} (ps : List Nat) (h : ws.map some = ps.map am_wd) (g : (ps.all (fun i => decide (10000 ≤ i) || (match tables_1[i]? with | some w => goodWord w | none => false))) = true) : ∀ a ∈ ws, a ∈ at_Ts ∨ a ∈ am_sw ++ am_dw := by
  intro a ha
  have h1 : some a ∈ ps.map am_wd := by rw [← h]; exact List.mem_map.mpr ⟨a, ha, rfl⟩
  obtain ⟨i, hi, e⟩ := List.mem_map.mp h1
  have g1 := List.all_eq_true.mp g i hi
  unfold am_wd at e
  by_cases hlt : i < 10000
  · rw [if_pos hlt] at e
    rw [e] at g1
    have g2 : goodWord a = true := by
      rcases Bool.or_eq_true_iff.mp g1 with q | q
      · have := of_decide_eq_true q; omega
      · exact q
    exact Or.inl (at_at i e g2)
  · rw [if_neg hlt] at e
    exact Or.inr (List.mem_of_getElem? e)
set_option maxRecDepth 100000 in
theorem oa_iae : ∀ a ∈ Bundle.ownAtoms "EquationProofs" 91 "java/lang/IllegalArgumentException" ["java/lang/RuntimeException", "java/lang/Exception"], a ∈ at_Ts ∨ a ∈ am_sw ++ am_dw := am_cov [16, 1174, 1183, 1186, 1189, 1191, 1175, 1176, 28, 29, 1177, 1182, 1187, 1207, 1164, 1208, 1166, 1209, 1168, 1178, 10000, 1180, 10002, 1170, 1203, 1204, 1206, 1170, 1242, 1243, 1244, 1197, 10006, 1197, 1198, 1199, 1200, 10007, 1200, 1201, 1202, 1203, 10008, 1241, 1232, 10004, 1234, 1185, 1235, 1236, 1237, 1238, 10001, 10003, 1173, 1172, 1239] rfl (by decide +kernel)
set_option maxRecDepth 100000 in
theorem oa_ise : ∀ a ∈ Bundle.ownAtoms "EquationProofs" 81 "java/lang/IllegalStateException" ["java/lang/RuntimeException", "java/lang/Exception"], a ∈ at_Ts ∨ a ∈ am_sw ++ am_dw := am_cov [16, 1174, 1183, 1186, 1189, 1191, 1175, 1176, 28, 29, 1177, 1182, 1187, 1207, 1164, 1208, 1166, 1209, 1168, 1178, 10000, 1180, 10002, 1170, 1203, 1204, 1206, 1170, 1194, 1195, 1196, 1197, 10006, 1197, 1198, 1199, 1200, 10007, 1200, 1201, 1202, 1203, 10008, 1193, 1153, 10005, 1161, 1162, 1163, 1165, 1167, 1169, 10001, 10003, 1173, 1172, 1171] rfl (by decide +kernel)
