def at_Ts : List Cond := lw_tbl.filter goodWord
theorem at_in {w : Cond} (h : w ∈ tables_1) (g : goodWord w = true) : w ∈ at_Ts := List.mem_filter.mpr ⟨List.mem_append_right _ h, g⟩
theorem at_m1 {w : Cond} (h : w ∈ tables_1_1) : w ∈ tables_1 := List.mem_append_left _ h
theorem at_m2 {w : Cond} (h : w ∈ tables_1_2) : w ∈ tables_1 := List.mem_append_right _ (List.mem_append_left _ h)
theorem at_m3 {w : Cond} (h : w ∈ tables_1_3) : w ∈ tables_1 := List.mem_append_right _ (List.mem_append_right _ (List.mem_append_left _ h))
theorem at_m4 {w : Cond} (h : w ∈ tables_1_4) : w ∈ tables_1 := List.mem_append_right _ (List.mem_append_right _ (List.mem_append_right _ (List.mem_append_left _ h)))
theorem at_m5 {w : Cond} (h : w ∈ tables_1_5) : w ∈ tables_1 := List.mem_append_right _ (List.mem_append_right _ (List.mem_append_right _ (List.mem_append_right _ (List.mem_append_left _ h))))
theorem at_m6 {w : Cond} (h : w ∈ tables_1_6) : w ∈ tables_1 := List.mem_append_right _ (List.mem_append_right _ (List.mem_append_right _ (List.mem_append_right _ (List.mem_append_right _ (List.mem_append_left _ h)))))
theorem at_m7 {w : Cond} (h : w ∈ tables_1_7) : w ∈ tables_1 := List.mem_append_right _ (List.mem_append_right _ (List.mem_append_right _ (List.mem_append_right _ (List.mem_append_right _ (List.mem_append_right _ (List.mem_append_left _ h))))))
theorem at_m8 {w : Cond} (h : w ∈ tables_1_8) : w ∈ tables_1 := List.mem_append_right _ (List.mem_append_right _ (List.mem_append_right _ (List.mem_append_right _ (List.mem_append_right _ (List.mem_append_right _ (List.mem_append_right _ (List.mem_append_left _ h)))))))
theorem at_m9 {w : Cond} (h : w ∈ tables_1_9) : w ∈ tables_1 := List.mem_append_right _ (List.mem_append_right _ (List.mem_append_right _ (List.mem_append_right _ (List.mem_append_right _ (List.mem_append_right _ (List.mem_append_right _ (List.mem_append_right _ (h))))))))
theorem at_at {w : Cond} (i : Nat) (h : tables_1[i]? = some w) (g : goodWord w = true) : w ∈ at_Ts := at_in (List.mem_of_getElem? h) g
theorem at_pos {ws : List Cond} (ps : List Nat) (h : ws = ps.filterMap (fun i => tables_1[i]?)) (g : ws.all goodWord = true) : ∀ w ∈ ws, w ∈ at_Ts := by
  intro w hw
  refine at_in ?_ (List.all_eq_true.mp g w hw)
  rw [h] at hw
  obtain ⟨i, -, hi⟩ := List.mem_filterMap.mp hw
  exact List.mem_of_getElem? hi
set_option maxRecDepth 100000 in
theorem at_c0 : ∀ r : vw_C, at_cl[0]? = some r → (∀ w ∈ u_ws r.1 r.2.1 r.2.2, w ∈ at_Ts) ∧ (∃ tys : List FieldType, at_ty[0]? = some tys ∧ tys.length = r.2.2 ∧ ∀ k, k < r.2.2 → parseFieldDescriptor (r.2.1 k).2.2.1 = some (tys.getD k .int)) ∧ (∀ a, a < r.2.2 → ∀ b, b < r.2.2 → a ≠ b → (r.2.1 a).2.1 ≠ (r.2.1 b).2.1) ∧ Cond.instantiable r.1 r.2.2 ∈ at_Ts ∧ Cond.initialized r.1 ∈ at_Ts := by
  intro r hr
  cases hr
  exact ⟨at_pos [528, 530, 532, 534, 536, 538, 540, 542, 544] (by decide +kernel) (by decide +kernel), ⟨at_Y0, rfl, by decide +kernel, by decide +kernel⟩, by decide +kernel, at_at 23 (by decide +kernel) (by decide +kernel), at_at 1 (by decide +kernel) (by decide +kernel)⟩
set_option maxRecDepth 100000 in
theorem at_c1 : ∀ r : vw_C, at_cl[1]? = some r → (∀ w ∈ u_ws r.1 r.2.1 r.2.2, w ∈ at_Ts) ∧ (∃ tys : List FieldType, at_ty[1]? = some tys ∧ tys.length = r.2.2 ∧ ∀ k, k < r.2.2 → parseFieldDescriptor (r.2.1 k).2.2.1 = some (tys.getD k .int)) ∧ (∀ a, a < r.2.2 → ∀ b, b < r.2.2 → a ≠ b → (r.2.1 a).2.1 ≠ (r.2.1 b).2.1) ∧ Cond.instantiable r.1 r.2.2 ∈ at_Ts ∧ Cond.initialized r.1 ∈ at_Ts := by
  intro r hr
  cases hr
  exact ⟨at_pos [48, 50, 52, 54, 56, 58] (by decide +kernel) (by decide +kernel), ⟨at_Y1, rfl, by decide +kernel, by decide +kernel⟩, by decide +kernel, at_at 31 (by decide +kernel) (by decide +kernel), at_at 2 (by decide +kernel) (by decide +kernel)⟩
set_option maxRecDepth 100000 in
theorem at_c2 : ∀ r : vw_C, at_cl[2]? = some r → (∀ w ∈ u_ws r.1 r.2.1 r.2.2, w ∈ at_Ts) ∧ (∃ tys : List FieldType, at_ty[2]? = some tys ∧ tys.length = r.2.2 ∧ ∀ k, k < r.2.2 → parseFieldDescriptor (r.2.1 k).2.2.1 = some (tys.getD k .int)) ∧ (∀ a, a < r.2.2 → ∀ b, b < r.2.2 → a ≠ b → (r.2.1 a).2.1 ≠ (r.2.1 b).2.1) ∧ Cond.instantiable r.1 r.2.2 ∈ at_Ts ∧ Cond.initialized r.1 ∈ at_Ts := by
  intro r hr
  cases hr
  exact ⟨at_pos [215, 217, 219, 221, 223, 225, 227] (by decide +kernel) (by decide +kernel), ⟨at_Y2, rfl, by decide +kernel, by decide +kernel⟩, by decide +kernel, at_at 64 (by decide +kernel) (by decide +kernel), at_at 3 (by decide +kernel) (by decide +kernel)⟩
set_option maxRecDepth 100000 in
theorem at_c3 : ∀ r : vw_C, at_cl[3]? = some r → (∀ w ∈ u_ws r.1 r.2.1 r.2.2, w ∈ at_Ts) ∧ (∃ tys : List FieldType, at_ty[3]? = some tys ∧ tys.length = r.2.2 ∧ ∀ k, k < r.2.2 → parseFieldDescriptor (r.2.1 k).2.2.1 = some (tys.getD k .int)) ∧ (∀ a, a < r.2.2 → ∀ b, b < r.2.2 → a ≠ b → (r.2.1 a).2.1 ≠ (r.2.1 b).2.1) ∧ Cond.instantiable r.1 r.2.2 ∈ at_Ts ∧ Cond.initialized r.1 ∈ at_Ts := by
  intro r hr
  cases hr
  exact ⟨at_pos [98, 100, 102, 104, 106] (by decide +kernel) (by decide +kernel), ⟨at_Y3, rfl, by decide +kernel, by decide +kernel⟩, by decide +kernel, at_at 70 (by decide +kernel) (by decide +kernel), at_at 4 (by decide +kernel) (by decide +kernel)⟩
set_option maxRecDepth 100000 in
theorem at_c4 : ∀ r : vw_C, at_cl[4]? = some r → (∀ w ∈ u_ws r.1 r.2.1 r.2.2, w ∈ at_Ts) ∧ (∃ tys : List FieldType, at_ty[4]? = some tys ∧ tys.length = r.2.2 ∧ ∀ k, k < r.2.2 → parseFieldDescriptor (r.2.1 k).2.2.1 = some (tys.getD k .int)) ∧ (∀ a, a < r.2.2 → ∀ b, b < r.2.2 → a ≠ b → (r.2.1 a).2.1 ≠ (r.2.1 b).2.1) ∧ Cond.instantiable r.1 r.2.2 ∈ at_Ts ∧ Cond.initialized r.1 ∈ at_Ts := by
  intro r hr
  cases hr
  exact ⟨at_pos [171, 173, 175, 177, 179, 181, 183] (by decide +kernel) (by decide +kernel), ⟨at_Y4, rfl, by decide +kernel, by decide +kernel⟩, by decide +kernel, at_at 111 (by decide +kernel) (by decide +kernel), at_at 6 (by decide +kernel) (by decide +kernel)⟩
set_option maxRecDepth 100000 in
theorem at_c5 : ∀ r : vw_C, at_cl[5]? = some r → (∀ w ∈ u_ws r.1 r.2.1 r.2.2, w ∈ at_Ts) ∧ (∃ tys : List FieldType, at_ty[5]? = some tys ∧ tys.length = r.2.2 ∧ ∀ k, k < r.2.2 → parseFieldDescriptor (r.2.1 k).2.2.1 = some (tys.getD k .int)) ∧ (∀ a, a < r.2.2 → ∀ b, b < r.2.2 → a ≠ b → (r.2.1 a).2.1 ≠ (r.2.1 b).2.1) ∧ Cond.instantiable r.1 r.2.2 ∈ at_Ts ∧ Cond.initialized r.1 ∈ at_Ts := by
  intro r hr
  cases hr
  exact ⟨at_pos [135, 137] (by decide +kernel) (by decide +kernel), ⟨at_Y5, rfl, by decide +kernel, by decide +kernel⟩, by decide +kernel, at_at 117 (by decide +kernel) (by decide +kernel), at_at 7 (by decide +kernel) (by decide +kernel)⟩
set_option maxRecDepth 100000 in
theorem at_c6 : ∀ r : vw_C, at_cl[6]? = some r → (∀ w ∈ u_ws r.1 r.2.1 r.2.2, w ∈ at_Ts) ∧ (∃ tys : List FieldType, at_ty[6]? = some tys ∧ tys.length = r.2.2 ∧ ∀ k, k < r.2.2 → parseFieldDescriptor (r.2.1 k).2.2.1 = some (tys.getD k .int)) ∧ (∀ a, a < r.2.2 → ∀ b, b < r.2.2 → a ≠ b → (r.2.1 a).2.1 ≠ (r.2.1 b).2.1) ∧ Cond.instantiable r.1 r.2.2 ∈ at_Ts ∧ Cond.initialized r.1 ∈ at_Ts := by
  intro r hr
  cases hr
  exact ⟨at_pos [247, 249, 251, 253, 255, 257, 259, 261, 263, 265] (by decide +kernel) (by decide +kernel), ⟨at_Y6, rfl, by decide +kernel, by decide +kernel⟩, by decide +kernel, at_at 231 (by decide +kernel) (by decide +kernel), at_at 8 (by decide +kernel) (by decide +kernel)⟩
set_option maxRecDepth 100000 in
theorem at_c7 : ∀ r : vw_C, at_cl[7]? = some r → (∀ w ∈ u_ws r.1 r.2.1 r.2.2, w ∈ at_Ts) ∧ (∃ tys : List FieldType, at_ty[7]? = some tys ∧ tys.length = r.2.2 ∧ ∀ k, k < r.2.2 → parseFieldDescriptor (r.2.1 k).2.2.1 = some (tys.getD k .int)) ∧ (∀ a, a < r.2.2 → ∀ b, b < r.2.2 → a ≠ b → (r.2.1 a).2.1 ≠ (r.2.1 b).2.1) ∧ Cond.instantiable r.1 r.2.2 ∈ at_Ts ∧ Cond.initialized r.1 ∈ at_Ts := by
  intro r hr
  cases hr
  exact ⟨at_pos [280, 282, 284, 286] (by decide +kernel) (by decide +kernel), ⟨at_Y7, rfl, by decide +kernel, by decide +kernel⟩, by decide +kernel, at_at 269 (by decide +kernel) (by decide +kernel), at_at 9 (by decide +kernel) (by decide +kernel)⟩
set_option maxRecDepth 100000 in
theorem at_c8 : ∀ r : vw_C, at_cl[8]? = some r → (∀ w ∈ u_ws r.1 r.2.1 r.2.2, w ∈ at_Ts) ∧ (∃ tys : List FieldType, at_ty[8]? = some tys ∧ tys.length = r.2.2 ∧ ∀ k, k < r.2.2 → parseFieldDescriptor (r.2.1 k).2.2.1 = some (tys.getD k .int)) ∧ (∀ a, a < r.2.2 → ∀ b, b < r.2.2 → a ≠ b → (r.2.1 a).2.1 ≠ (r.2.1 b).2.1) ∧ Cond.instantiable r.1 r.2.2 ∈ at_Ts ∧ Cond.initialized r.1 ∈ at_Ts := by
  intro r hr
  cases hr
  exact ⟨at_pos [308, 310, 312, 314, 316, 318, 320] (by decide +kernel) (by decide +kernel), ⟨at_Y8, rfl, by decide +kernel, by decide +kernel⟩, by decide +kernel, at_at 290 (by decide +kernel) (by decide +kernel), at_at 10 (by decide +kernel) (by decide +kernel)⟩
set_option maxRecDepth 100000 in
theorem at_c9 : ∀ r : vw_C, at_cl[9]? = some r → (∀ w ∈ u_ws r.1 r.2.1 r.2.2, w ∈ at_Ts) ∧ (∃ tys : List FieldType, at_ty[9]? = some tys ∧ tys.length = r.2.2 ∧ ∀ k, k < r.2.2 → parseFieldDescriptor (r.2.1 k).2.2.1 = some (tys.getD k .int)) ∧ (∀ a, a < r.2.2 → ∀ b, b < r.2.2 → a ≠ b → (r.2.1 a).2.1 ≠ (r.2.1 b).2.1) ∧ Cond.instantiable r.1 r.2.2 ∈ at_Ts ∧ Cond.initialized r.1 ∈ at_Ts := by
  intro r hr
  cases hr
  exact ⟨at_pos [345, 347, 349, 351, 353, 355, 357, 359, 361, 363, 365] (by decide +kernel) (by decide +kernel), ⟨at_Y9, rfl, by decide +kernel, by decide +kernel⟩, by decide +kernel, at_at 324 (by decide +kernel) (by decide +kernel), at_at 11 (by decide +kernel) (by decide +kernel)⟩
set_option maxRecDepth 100000 in
theorem at_c10 : ∀ r : vw_C, at_cl[10]? = some r → (∀ w ∈ u_ws r.1 r.2.1 r.2.2, w ∈ at_Ts) ∧ (∃ tys : List FieldType, at_ty[10]? = some tys ∧ tys.length = r.2.2 ∧ ∀ k, k < r.2.2 → parseFieldDescriptor (r.2.1 k).2.2.1 = some (tys.getD k .int)) ∧ (∀ a, a < r.2.2 → ∀ b, b < r.2.2 → a ≠ b → (r.2.1 a).2.1 ≠ (r.2.1 b).2.1) ∧ Cond.instantiable r.1 r.2.2 ∈ at_Ts ∧ Cond.initialized r.1 ∈ at_Ts := by
  intro r hr
  cases hr
  exact ⟨at_pos [478, 480, 482, 484, 486, 488, 490, 492, 494, 496, 498, 500, 502, 504, 506, 508, 510, 512, 514] (by decide +kernel) (by decide +kernel), ⟨at_Y10, rfl, by decide +kernel, by decide +kernel⟩, by decide +kernel, at_at 369 (by decide +kernel) (by decide +kernel), at_at 12 (by decide +kernel) (by decide +kernel)⟩
set_option maxRecDepth 100000 in
theorem at_c11 : ∀ r : vw_C, at_cl[11]? = some r → (∀ w ∈ u_ws r.1 r.2.1 r.2.2, w ∈ at_Ts) ∧ (∃ tys : List FieldType, at_ty[11]? = some tys ∧ tys.length = r.2.2 ∧ ∀ k, k < r.2.2 → parseFieldDescriptor (r.2.1 k).2.2.1 = some (tys.getD k .int)) ∧ (∀ a, a < r.2.2 → ∀ b, b < r.2.2 → a ≠ b → (r.2.1 a).2.1 ≠ (r.2.1 b).2.1) ∧ Cond.instantiable r.1 r.2.2 ∈ at_Ts ∧ Cond.initialized r.1 ∈ at_Ts := by
  intro r hr
  cases hr
  exact ⟨at_pos [436, 438, 440, 442, 444, 446, 448, 450] (by decide +kernel) (by decide +kernel), ⟨at_Y11, rfl, by decide +kernel, by decide +kernel⟩, by decide +kernel, at_at 375 (by decide +kernel) (by decide +kernel), at_at 13 (by decide +kernel) (by decide +kernel)⟩
set_option maxRecDepth 100000 in
theorem at_c12 : ∀ r : vw_C, at_cl[12]? = some r → (∀ w ∈ u_ws r.1 r.2.1 r.2.2, w ∈ at_Ts) ∧ (∃ tys : List FieldType, at_ty[12]? = some tys ∧ tys.length = r.2.2 ∧ ∀ k, k < r.2.2 → parseFieldDescriptor (r.2.1 k).2.2.1 = some (tys.getD k .int)) ∧ (∀ a, a < r.2.2 → ∀ b, b < r.2.2 → a ≠ b → (r.2.1 a).2.1 ≠ (r.2.1 b).2.1) ∧ Cond.instantiable r.1 r.2.2 ∈ at_Ts ∧ Cond.initialized r.1 ∈ at_Ts := by
  intro r hr
  cases hr
  exact ⟨at_pos [406, 408, 410, 412, 414] (by decide +kernel) (by decide +kernel), ⟨at_Y12, rfl, by decide +kernel, by decide +kernel⟩, by decide +kernel, at_at 382 (by decide +kernel) (by decide +kernel), at_at 14 (by decide +kernel) (by decide +kernel)⟩
set_option maxRecDepth 100000 in
theorem at_c13 : ∀ r : vw_C, at_cl[13]? = some r → (∀ w ∈ u_ws r.1 r.2.1 r.2.2, w ∈ at_Ts) ∧ (∃ tys : List FieldType, at_ty[13]? = some tys ∧ tys.length = r.2.2 ∧ ∀ k, k < r.2.2 → parseFieldDescriptor (r.2.1 k).2.2.1 = some (tys.getD k .int)) ∧ (∀ a, a < r.2.2 → ∀ b, b < r.2.2 → a ≠ b → (r.2.1 a).2.1 ≠ (r.2.1 b).2.1) ∧ Cond.instantiable r.1 r.2.2 ∈ at_Ts ∧ Cond.initialized r.1 ∈ at_Ts := by
  intro r hr
  cases hr
  exact ⟨at_pos [1370, 1372, 1374, 1376, 1378, 1380, 1382, 1384, 1386, 1388, 1390, 1392, 1394, 1396, 1398, 1400, 1402, 1404, 1406, 1408, 1410, 1412, 1414, 1416, 1418, 1420, 1422, 1424, 1426, 1428, 1430, 1432, 1434, 1436, 1438, 1440, 1442, 1444, 1446, 1448, 1450, 1452, 1454, 1456, 1458, 1460, 1462, 1464, 1466, 1468, 1470, 1472, 1474, 1476, 1478, 1480, 1482, 1484, 1486, 1488, 1490, 1492, 1494, 1496, 1498, 1500, 1502, 1504, 1506, 1508, 1510, 1512, 1514, 1516, 1518, 1520, 1522, 1524, 1526, 1528, 1530, 1532, 1534, 1536, 1538, 1540, 1542, 1544, 1546, 1548, 1550, 1552, 1554, 1556, 1558, 1560, 1562, 1564, 1566, 1568, 1570, 1572, 1574, 1576, 1578, 1580, 1582, 1584, 1586, 1588, 1590, 1592, 1594, 1596, 1598] (by decide +kernel) (by decide +kernel), ⟨at_Y13, rfl, by decide +kernel, by decide +kernel⟩, by decide +kernel, at_at 1248 (by decide +kernel) (by decide +kernel), at_at 15 (by decide +kernel) (by decide +kernel)⟩
theorem at_Cls : am_Cls at_Ts at_cl at_ty := by
  intro ci r hr
  match ci, hr with
  | 0, hr => exact at_c0 r hr
  | 1, hr => exact at_c1 r hr
  | 2, hr => exact at_c2 r hr
  | 3, hr => exact at_c3 r hr
  | 4, hr => exact at_c4 r hr
  | 5, hr => exact at_c5 r hr
  | 6, hr => exact at_c6 r hr
  | 7, hr => exact at_c7 r hr
  | 8, hr => exact at_c8 r hr
  | 9, hr => exact at_c9 r hr
  | 10, hr => exact at_c10 r hr
  | 11, hr => exact at_c11 r hr
  | 12, hr => exact at_c12 r hr
  | 13, hr => exact at_c13 r hr
  | n + 14, hr => cases hr
