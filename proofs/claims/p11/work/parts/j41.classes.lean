def at_Ts : List Cond := lw_tbl.filter goodWord
theorem at_in {w : Cond} (h : w ∈ tables_1) (g : goodWord w = true) : w ∈ at_Ts := List.mem_filter.mpr ⟨List.mem_append_right _ h, g⟩
theorem at_m1 {w : Cond} (h : w ∈ tables_1_1) : w ∈ tables_1 := List.mem_append_left _ h
theorem at_m2 {w : Cond} (h : w ∈ tables_1_2) : w ∈ tables_1 := List.mem_append_right _ (List.mem_append_left _ h)
theorem at_m3 {w : Cond} (h : w ∈ tables_1_3) : w ∈ tables_1 := List.mem_append_right _ (List.mem_append_right _ (List.mem_append_left _ h))
theorem at_m4 {w : Cond} (h : w ∈ tables_1_4) : w ∈ tables_1 := List.mem_append_right _ (List.mem_append_right _ (List.mem_append_right _ (List.mem_append_left _ h)))
theorem at_m5 {w : Cond} (h : w ∈ tables_1_5) : w ∈ tables_1 := List.mem_append_right _ (List.mem_append_right _ (List.mem_append_right _ (List.mem_append_right _ (List.mem_append_left _ h))))
theorem at_m6 {w : Cond} (h : w ∈ tables_1_6) : w ∈ tables_1 := List.mem_append_right _ (List.mem_append_right _ (List.mem_append_right _ (List.mem_append_right _ (List.mem_append_right _ (List.mem_append_left _ h)))))
theorem at_m7 {w : Cond} (h : w ∈ tables_1_7) : w ∈ tables_1 := List.mem_append_right _ (List.mem_append_right _ (List.mem_append_right _ (List.mem_append_right _ (List.mem_append_right _ (List.mem_append_right _ (List.mem_append_left _ h))))))
theorem at_m8 {w : Cond} (h : w ∈ tables_1_8) : w ∈ tables_1 := List.mem_append_right _ (List.mem_append_right _ (List.mem_append_right _ (List.mem_append_right _ (List.mem_append_right _ (List.mem_append_right _ (List.mem_append_right _ (List.mem_append_left _ h)))))))
theorem at_m9 {w : Cond} (h : w ∈ tables_1_9) : w ∈ tables_1 := List.mem_append_right _ (List.mem_append_right _ (List.mem_append_right _ (List.mem_append_right _ (List.mem_append_right _ (List.mem_append_right _ (List.mem_append_right _ (List.mem_append_right _ (h))))))))
theorem at_at {w : Cond} (i : Nat) (h : tables_1[i]? = some w) (g : goodWord w = true) : w ∈ at_Ts := at_in (List.mem_of_getElem? h) g
theorem at_pos {ws : List Cond} (ps : List Nat) (h : ws = ps.filterMap (fun i => tables_1[i]?)) (g : ws.all goodWord = true) : ∀ w ∈ ws, w ∈ at_Ts := by
  intro w hw
  refine at_in ?_ (List.all_eq_true.mp g w hw)
  rw [h] at hw
  obtain ⟨i, -, hi⟩ := List.mem_filterMap.mp hw
  exact List.mem_of_getElem? hi
set_option maxRecDepth 100000 in
theorem at_c0 : ∀ r : vw_C, at_cl[0]? = some r → (∀ w ∈ u_ws r.1 r.2.1 r.2.2, w ∈ at_Ts) ∧ (∃ tys : List FieldType, at_ty[0]? = some tys ∧ tys.length = r.2.2 ∧ ∀ k, k < r.2.2 → parseFieldDescriptor (r.2.1 k).2.2.1 = some (tys.getD k .int)) ∧ (∀ a, a < r.2.2 → ∀ b, b < r.2.2 → a ≠ b → (r.2.1 a).2.1 ≠ (r.2.1 b).2.1) ∧ Cond.instantiable r.1 r.2.2 ∈ at_Ts ∧ Cond.initialized r.1 ∈ at_Ts := by
  intro r hr
  cases hr
  exact ⟨at_pos [527, 529, 531, 533, 535, 537, 539, 541, 543] (by decide +kernel) (by decide +kernel), ⟨at_Y0, rfl, by decide +kernel, by decide +kernel⟩, by decide +kernel, at_at 23 (by decide +kernel) (by decide +kernel), at_at 1 (by decide +kernel) (by decide +kernel)⟩
set_option maxRecDepth 100000 in
theorem at_c1 : ∀ r : vw_C, at_cl[1]? = some r → (∀ w ∈ u_ws r.1 r.2.1 r.2.2, w ∈ at_Ts) ∧ (∃ tys : List FieldType, at_ty[1]? = some tys ∧ tys.length = r.2.2 ∧ ∀ k, k < r.2.2 → parseFieldDescriptor (r.2.1 k).2.2.1 = some (tys.getD k .int)) ∧ (∀ a, a < r.2.2 → ∀ b, b < r.2.2 → a ≠ b → (r.2.1 a).2.1 ≠ (r.2.1 b).2.1) ∧ Cond.instantiable r.1 r.2.2 ∈ at_Ts ∧ Cond.initialized r.1 ∈ at_Ts := by
  intro r hr
  cases hr
  exact ⟨at_pos [48, 50, 52, 54, 56, 58] (by decide +kernel) (by decide +kernel), ⟨at_Y1, rfl, by decide +kernel, by decide +kernel⟩, by decide +kernel, at_at 31 (by decide +kernel) (by decide +kernel), at_at 2 (by decide +kernel) (by decide +kernel)⟩
set_option maxRecDepth 100000 in
theorem at_c2 : ∀ r : vw_C, at_cl[2]? = some r → (∀ w ∈ u_ws r.1 r.2.1 r.2.2, w ∈ at_Ts) ∧ (∃ tys : List FieldType, at_ty[2]? = some tys ∧ tys.length = r.2.2 ∧ ∀ k, k < r.2.2 → parseFieldDescriptor (r.2.1 k).2.2.1 = some (tys.getD k .int)) ∧ (∀ a, a < r.2.2 → ∀ b, b < r.2.2 → a ≠ b → (r.2.1 a).2.1 ≠ (r.2.1 b).2.1) ∧ Cond.instantiable r.1 r.2.2 ∈ at_Ts ∧ Cond.initialized r.1 ∈ at_Ts := by
  intro r hr
  cases hr
  exact ⟨at_pos [215, 217, 219, 221, 223, 225, 227] (by decide +kernel) (by decide +kernel), ⟨at_Y2, rfl, by decide +kernel, by decide +kernel⟩, by decide +kernel, at_at 64 (by decide +kernel) (by decide +kernel), at_at 3 (by decide +kernel) (by decide +kernel)⟩
set_option maxRecDepth 100000 in
theorem at_c3 : ∀ r : vw_C, at_cl[3]? = some r → (∀ w ∈ u_ws r.1 r.2.1 r.2.2, w ∈ at_Ts) ∧ (∃ tys : List FieldType, at_ty[3]? = some tys ∧ tys.length = r.2.2 ∧ ∀ k, k < r.2.2 → parseFieldDescriptor (r.2.1 k).2.2.1 = some (tys.getD k .int)) ∧ (∀ a, a < r.2.2 → ∀ b, b < r.2.2 → a ≠ b → (r.2.1 a).2.1 ≠ (r.2.1 b).2.1) ∧ Cond.instantiable r.1 r.2.2 ∈ at_Ts ∧ Cond.initialized r.1 ∈ at_Ts := by
  intro r hr
  cases hr
  exact ⟨at_pos [98, 100, 102, 104, 106] (by decide +kernel) (by decide +kernel), ⟨at_Y3, rfl, by decide +kernel, by decide +kernel⟩, by decide +kernel, at_at 70 (by decide +kernel) (by decide +kernel), at_at 4 (by decide +kernel) (by decide +kernel)⟩
set_option maxRecDepth 100000 in
theorem at_c4 : ∀ r : vw_C, at_cl[4]? = some r → (∀ w ∈ u_ws r.1 r.2.1 r.2.2, w ∈ at_Ts) ∧ (∃ tys : List FieldType, at_ty[4]? = some tys ∧ tys.length = r.2.2 ∧ ∀ k, k < r.2.2 → parseFieldDescriptor (r.2.1 k).2.2.1 = some (tys.getD k .int)) ∧ (∀ a, a < r.2.2 → ∀ b, b < r.2.2 → a ≠ b → (r.2.1 a).2.1 ≠ (r.2.1 b).2.1) ∧ Cond.instantiable r.1 r.2.2 ∈ at_Ts ∧ Cond.initialized r.1 ∈ at_Ts := by
  intro r hr
  cases hr
  exact ⟨at_pos [171, 173, 175, 177, 179, 181, 183] (by decide +kernel) (by decide +kernel), ⟨at_Y4, rfl, by decide +kernel, by decide +kernel⟩, by decide +kernel, at_at 111 (by decide +kernel) (by decide +kernel), at_at 6 (by decide +kernel) (by decide +kernel)⟩
set_option maxRecDepth 100000 in
theorem at_c5 : ∀ r : vw_C, at_cl[5]? = some r → (∀ w ∈ u_ws r.1 r.2.1 r.2.2, w ∈ at_Ts) ∧ (∃ tys : List FieldType, at_ty[5]? = some tys ∧ tys.length = r.2.2 ∧ ∀ k, k < r.2.2 → parseFieldDescriptor (r.2.1 k).2.2.1 = some (tys.getD k .int)) ∧ (∀ a, a < r.2.2 → ∀ b, b < r.2.2 → a ≠ b → (r.2.1 a).2.1 ≠ (r.2.1 b).2.1) ∧ Cond.instantiable r.1 r.2.2 ∈ at_Ts ∧ Cond.initialized r.1 ∈ at_Ts := by
  intro r hr
  cases hr
  exact ⟨at_pos [135, 137] (by decide +kernel) (by decide +kernel), ⟨at_Y5, rfl, by decide +kernel, by decide +kernel⟩, by decide +kernel, at_at 117 (by decide +kernel) (by decide +kernel), at_at 7 (by decide +kernel) (by decide +kernel)⟩
set_option maxRecDepth 100000 in
theorem at_c6 : ∀ r : vw_C, at_cl[6]? = some r → (∀ w ∈ u_ws r.1 r.2.1 r.2.2, w ∈ at_Ts) ∧ (∃ tys : List FieldType, at_ty[6]? = some tys ∧ tys.length = r.2.2 ∧ ∀ k, k < r.2.2 → parseFieldDescriptor (r.2.1 k).2.2.1 = some (tys.getD k .int)) ∧ (∀ a, a < r.2.2 → ∀ b, b < r.2.2 → a ≠ b → (r.2.1 a).2.1 ≠ (r.2.1 b).2.1) ∧ Cond.instantiable r.1 r.2.2 ∈ at_Ts ∧ Cond.initialized r.1 ∈ at_Ts := by
  intro r hr
  cases hr
  exact ⟨at_pos [247, 249, 251, 253, 255, 257, 259, 261, 263, 265] (by decide +kernel) (by decide +kernel), ⟨at_Y6, rfl, by decide +kernel, by decide +kernel⟩, by decide +kernel, at_at 231 (by decide +kernel) (by decide +kernel), at_at 8 (by decide +kernel) (by decide +kernel)⟩
set_option maxRecDepth 100000 in
theorem at_c7 : ∀ r : vw_C, at_cl[7]? = some r → (∀ w ∈ u_ws r.1 r.2.1 r.2.2, w ∈ at_Ts) ∧ (∃ tys : List FieldType, at_ty[7]? = some tys ∧ tys.length = r.2.2 ∧ ∀ k, k < r.2.2 → parseFieldDescriptor (r.2.1 k).2.2.1 = some (tys.getD k .int)) ∧ (∀ a, a < r.2.2 → ∀ b, b < r.2.2 → a ≠ b → (r.2.1 a).2.1 ≠ (r.2.1 b).2.1) ∧ Cond.instantiable r.1 r.2.2 ∈ at_Ts ∧ Cond.initialized r.1 ∈ at_Ts := by
  intro r hr
  cases hr
  exact ⟨at_pos [280, 282, 284, 286] (by decide +kernel) (by decide +kernel), ⟨at_Y7, rfl, by decide +kernel, by decide +kernel⟩, by decide +kernel, at_at 269 (by decide +kernel) (by decide +kernel), at_at 9 (by decide +kernel) (by decide +kernel)⟩
set_option maxRecDepth 100000 in
theorem at_c8 : ∀ r : vw_C, at_cl[8]? = some r → (∀ w ∈ u_ws r.1 r.2.1 r.2.2, w ∈ at_Ts) ∧ (∃ tys : List FieldType, at_ty[8]? = some tys ∧ tys.length = r.2.2 ∧ ∀ k, k < r.2.2 → parseFieldDescriptor (r.2.1 k).2.2.1 = some (tys.getD k .int)) ∧ (∀ a, a < r.2.2 → ∀ b, b < r.2.2 → a ≠ b → (r.2.1 a).2.1 ≠ (r.2.1 b).2.1) ∧ Cond.instantiable r.1 r.2.2 ∈ at_Ts ∧ Cond.initialized r.1 ∈ at_Ts := by
  intro r hr
  cases hr
  exact ⟨at_pos [308, 310, 312, 314, 316, 318, 320] (by decide +kernel) (by decide +kernel), ⟨at_Y8, rfl, by decide +kernel, by decide +kernel⟩, by decide +kernel, at_at 290 (by decide +kernel) (by decide +kernel), at_at 10 (by decide +kernel) (by decide +kernel)⟩
set_option maxRecDepth 100000 in
theorem at_c9 : ∀ r : vw_C, at_cl[9]? = some r → (∀ w ∈ u_ws r.1 r.2.1 r.2.2, w ∈ at_Ts) ∧ (∃ tys : List FieldType, at_ty[9]? = some tys ∧ tys.length = r.2.2 ∧ ∀ k, k < r.2.2 → parseFieldDescriptor (r.2.1 k).2.2.1 = some (tys.getD k .int)) ∧ (∀ a, a < r.2.2 → ∀ b, b < r.2.2 → a ≠ b → (r.2.1 a).2.1 ≠ (r.2.1 b).2.1) ∧ Cond.instantiable r.1 r.2.2 ∈ at_Ts ∧ Cond.initialized r.1 ∈ at_Ts := by
  intro r hr
  cases hr
  exact ⟨at_pos [345, 347, 349, 351, 353, 355, 357, 359, 361, 363, 365] (by decide +kernel) (by decide +kernel), ⟨at_Y9, rfl, by decide +kernel, by decide +kernel⟩, by decide +kernel, at_at 324 (by decide +kernel) (by decide +kernel), at_at 11 (by decide +kernel) (by decide +kernel)⟩
set_option maxRecDepth 100000 in
theorem at_c10 : ∀ r : vw_C, at_cl[10]? = some r → (∀ w ∈ u_ws r.1 r.2.1 r.2.2, w ∈ at_Ts) ∧ (∃ tys : List FieldType, at_ty[10]? = some tys ∧ tys.length = r.2.2 ∧ ∀ k, k < r.2.2 → parseFieldDescriptor (r.2.1 k).2.2.1 = some (tys.getD k .int)) ∧ (∀ a, a < r.2.2 → ∀ b, b < r.2.2 → a ≠ b → (r.2.1 a).2.1 ≠ (r.2.1 b).2.1) ∧ Cond.instantiable r.1 r.2.2 ∈ at_Ts ∧ Cond.initialized r.1 ∈ at_Ts := by
  intro r hr
  cases hr
  exact ⟨at_pos [477, 479, 481, 483, 485, 487, 489, 491, 493, 495, 497, 499, 501, 503, 505, 507, 509, 511, 513] (by decide +kernel) (by decide +kernel), ⟨at_Y10, rfl, by decide +kernel, by decide +kernel⟩, by decide +kernel, at_at 369 (by decide +kernel) (by decide +kernel), at_at 12 (by decide +kernel) (by decide +kernel)⟩
set_option maxRecDepth 100000 in
theorem at_c11 : ∀ r : vw_C, at_cl[11]? = some r → (∀ w ∈ u_ws r.1 r.2.1 r.2.2, w ∈ at_Ts) ∧ (∃ tys : List FieldType, at_ty[11]? = some tys ∧ tys.length = r.2.2 ∧ ∀ k, k < r.2.2 → parseFieldDescriptor (r.2.1 k).2.2.1 = some (tys.getD k .int)) ∧ (∀ a, a < r.2.2 → ∀ b, b < r.2.2 → a ≠ b → (r.2.1 a).2.1 ≠ (r.2.1 b).2.1) ∧ Cond.instantiable r.1 r.2.2 ∈ at_Ts ∧ Cond.initialized r.1 ∈ at_Ts := by
  intro r hr
  cases hr
  exact ⟨at_pos [433, 435, 437, 439, 441, 443, 445, 447, 449] (by decide +kernel) (by decide +kernel), ⟨at_Y11, rfl, by decide +kernel, by decide +kernel⟩, by decide +kernel, at_at 375 (by decide +kernel) (by decide +kernel), at_at 13 (by decide +kernel) (by decide +kernel)⟩
set_option maxRecDepth 100000 in
theorem at_c12 : ∀ r : vw_C, at_cl[12]? = some r → (∀ w ∈ u_ws r.1 r.2.1 r.2.2, w ∈ at_Ts) ∧ (∃ tys : List FieldType, at_ty[12]? = some tys ∧ tys.length = r.2.2 ∧ ∀ k, k < r.2.2 → parseFieldDescriptor (r.2.1 k).2.2.1 = some (tys.getD k .int)) ∧ (∀ a, a < r.2.2 → ∀ b, b < r.2.2 → a ≠ b → (r.2.1 a).2.1 ≠ (r.2.1 b).2.1) ∧ Cond.instantiable r.1 r.2.2 ∈ at_Ts ∧ Cond.initialized r.1 ∈ at_Ts := by
  intro r hr
  cases hr
  exact ⟨at_pos [403, 405, 407, 409] (by decide +kernel) (by decide +kernel), ⟨at_Y12, rfl, by decide +kernel, by decide +kernel⟩, by decide +kernel, at_at 382 (by decide +kernel) (by decide +kernel), at_at 14 (by decide +kernel) (by decide +kernel)⟩
set_option maxRecDepth 100000 in
theorem at_c13 : ∀ r : vw_C, at_cl[13]? = some r → (∀ w ∈ u_ws r.1 r.2.1 r.2.2, w ∈ at_Ts) ∧ (∃ tys : List FieldType, at_ty[13]? = some tys ∧ tys.length = r.2.2 ∧ ∀ k, k < r.2.2 → parseFieldDescriptor (r.2.1 k).2.2.1 = some (tys.getD k .int)) ∧ (∀ a, a < r.2.2 → ∀ b, b < r.2.2 → a ≠ b → (r.2.1 a).2.1 ≠ (r.2.1 b).2.1) ∧ Cond.instantiable r.1 r.2.2 ∈ at_Ts ∧ Cond.initialized r.1 ∈ at_Ts := by
  intro r hr
  cases hr
  exact ⟨at_pos [1369, 1371, 1373, 1375, 1377, 1379, 1381, 1383, 1385, 1387, 1389, 1391, 1393, 1395, 1397, 1399, 1401, 1403, 1405, 1407, 1409, 1411, 1413, 1415, 1417, 1419, 1421, 1423, 1425, 1427, 1429, 1431, 1433, 1435, 1437, 1439, 1441, 1443, 1445, 1447, 1449, 1451, 1453, 1455, 1457, 1459, 1461, 1463, 1465, 1467, 1469, 1471, 1473, 1475, 1477, 1479, 1481, 1483, 1485, 1487, 1489, 1491, 1493, 1495, 1497, 1499, 1501, 1503, 1505, 1507, 1509, 1511, 1513, 1515, 1517, 1519, 1521, 1523, 1525, 1527, 1529, 1531, 1533, 1535, 1537, 1539, 1541, 1543, 1545, 1547, 1549, 1551, 1553, 1555, 1557, 1559, 1561, 1563, 1565, 1567, 1569, 1571, 1573, 1575, 1577, 1579, 1581, 1583, 1585, 1587, 1589, 1591, 1593, 1595, 1597] (by decide +kernel) (by decide +kernel), ⟨at_Y13, rfl, by decide +kernel, by decide +kernel⟩, by decide +kernel, at_at 1247 (by decide +kernel) (by decide +kernel), at_at 15 (by decide +kernel) (by decide +kernel)⟩
theorem at_Cls : am_Cls at_Ts at_cl at_ty := by
  intro ci r hr
  match ci, hr with
  | 0, hr => exact at_c0 r hr
  | 1, hr => exact at_c1 r hr
  | 2, hr => exact at_c2 r hr
  | 3, hr => exact at_c3 r hr
  | 4, hr => exact at_c4 r hr
  | 5, hr => exact at_c5 r hr
  | 6, hr => exact at_c6 r hr
  | 7, hr => exact at_c7 r hr
  | 8, hr => exact at_c8 r hr
  | 9, hr => exact at_c9 r hr
  | 10, hr => exact at_c10 r hr
  | 11, hr => exact at_c11 r hr
  | 12, hr => exact at_c12 r hr
  | 13, hr => exact at_c13 r hr
  | n + 14, hr => cases hr
