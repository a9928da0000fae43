/-! what a program decides of each method -/
theorem bd_148 : am_Body at_Ts at_P at_cl at_AO at_NL mt_148 := at_body at_PN at_PX (pG := [389]) (pP := [389, 393]) (pN := [387]) (pA := [387]) (pK := []) (pC := [386, 388]) (by decide +kernel) (by decide +kernel) (by decide +kernel) (by decide +kernel)
set_option maxRecDepth 100000 in
theorem ca_148 : am_Call at_Ts at_cl 60 mt_148 := at_call (KL := 60) (M := mt_148) (pc := 385) (pi := 14) (ps := 0) (pn := 384) (pl := 0) (pv := 0) (at_m2 (List.mem_of_getElem? (i := 145) rfl)) (by decide +kernel)
theorem bd_149 : am_Body at_Ts at_P at_cl at_AO at_NL mt_149 := at_body at_PN at_PX (pG := [389]) (pP := []) (pN := []) (pA := []) (pK := []) (pC := [1029, 1098]) (by decide +kernel) (by decide +kernel) (by decide +kernel) (by decide +kernel)
set_option maxRecDepth 100000 in
theorem ca_149 : am_Call at_Ts at_cl 60 mt_149 := at_call (KL := 60) (M := mt_149) (pc := 1097) (pi := 14) (ps := 0) (pn := 1095) (pl := 1096) (pv := 0) (at_m5 (List.mem_of_getElem? (i := 137) rfl)) (by decide +kernel)
theorem bd_150 : am_Body at_Ts at_P at_cl at_AO at_NL mt_150 := at_body at_PN at_PX (pG := [396, 400, 393, 389]) (pP := [396, 400]) (pN := []) (pA := []) (pK := []) (pC := [1029]) (by decide +kernel) (by decide +kernel) (by decide +kernel) (by decide +kernel)
set_option maxRecDepth 100000 in
theorem ca_150 : am_Call at_Ts at_cl 60 mt_150 := at_call (KL := 60) (M := mt_150) (pc := 1028) (pi := 14) (ps := 0) (pn := 1026) (pl := 1027) (pv := 0) (at_m5 (List.mem_of_getElem? (i := 68) rfl)) (by decide +kernel)
theorem bd_151 : am_Body at_Ts at_P at_cl at_AO at_NL mt_151 := at_body at_PN at_PX (pG := [389]) (pP := []) (pN := []) (pA := []) (pK := []) (pC := [995]) (by decide +kernel) (by decide +kernel) (by decide +kernel) (by decide +kernel)
set_option maxRecDepth 100000 in
theorem ca_151 : am_Call at_Ts at_cl 60 mt_151 := at_call (KL := 60) (M := mt_151) (pc := 994) (pi := 14) (ps := 0) (pn := 992) (pl := 993) (pv := 0) (at_m5 (List.mem_of_getElem? (i := 34) rfl)) (by decide +kernel)
theorem bd_152 : am_Body at_Ts at_P at_cl at_AO at_NL mt_152 := at_body at_PN at_PX (pG := []) (pP := [1256, 1258, 1259, 1260, 1261, 1263, 1264, 1265, 1266, 1268, 1269, 1270, 1271, 1272, 1274, 1275, 1276, 1277, 1278, 1279, 1280, 1281, 1291, 1292, 1296, 1299, 1300, 1302, 1303, 1306, 1308, 1312, 1314, 1315, 1316, 1317, 1318, 1319, 1320, 1321, 1322, 1323, 1324, 1325, 1327, 1328, 1332, 1333, 1334, 1335, 1336, 1337, 1338, 1339, 1340, 1341, 1342, 1344, 1345, 1346, 1348, 1350, 1351, 1352, 1354, 1356, 1357, 1358, 1359, 1360, 1361, 1362, 1363, 1364, 1365]) (pN := []) (pA := []) (pK := [1252, 1253]) (pC := [1251]) (by decide +kernel) (by decide +kernel) (by decide +kernel) (by decide +kernel)
set_option maxRecDepth 100000 in
theorem ca_152 : am_Call at_Ts at_cl 60 mt_152 := at_call (KL := 60) (M := mt_152) (pc := 1250) (pi := 15) (ps := 0) (pn := 1249) (pl := 0) (pv := 0) (at_m6 (List.mem_of_getElem? (i := 50) rfl)) (by decide +kernel)
theorem bd_153 : am_Body at_Ts at_P at_cl at_AO at_NL mt_153 := at_body at_PN at_PX (pG := [1311]) (pP := []) (pN := []) (pA := []) (pK := []) (pC := []) (by decide +kernel) (by decide +kernel) (by decide +kernel) (by decide +kernel)
set_option maxRecDepth 100000 in
theorem ca_153 : am_Call at_Ts at_cl 60 mt_153 := at_call (KL := 60) (M := mt_153) (pc := 1806) (pi := 15) (ps := 0) (pn := 1804) (pl := 1805) (pv := 0) (at_m8 (List.mem_of_getElem? (i := 126) rfl)) (by decide +kernel)
theorem bd_154 : am_Body at_Ts at_P at_cl at_AO at_NL mt_154 := at_body at_PN at_PX (pG := [1264, 1260]) (pP := []) (pN := []) (pA := []) (pK := []) (pC := []) (by decide +kernel) (by decide +kernel) (by decide +kernel) (by decide +kernel)
set_option maxRecDepth 100000 in
theorem ca_154 : am_Call at_Ts at_cl 60 mt_154 := at_call (KL := 60) (M := mt_154) (pc := 1692) (pi := 15) (ps := 0) (pn := 1691) (pl := 0) (pv := 77) (at_m8 (List.mem_of_getElem? (i := 12) rfl)) (by decide +kernel)
theorem bd_155 : am_Body at_Ts at_P at_cl at_AO at_NL mt_155 := at_body at_PN at_PX (pG := []) (pP := []) (pN := []) (pA := []) (pK := []) (pC := [1689]) (by decide +kernel) (by decide +kernel) (by decide +kernel) (by decide +kernel)
set_option maxRecDepth 100000 in
theorem ca_155 : am_Call at_Ts at_cl 60 mt_155 := at_call (KL := 60) (M := mt_155) (pc := 1775) (pi := 15) (ps := 0) (pn := 1774) (pl := 0) (pv := 93) (at_m8 (List.mem_of_getElem? (i := 95) rfl)) (by decide +kernel)
theorem bd_156 : am_Body at_Ts at_P at_cl at_AO at_NL mt_156 := at_body at_PN at_PX (pG := []) (pP := []) (pN := []) (pA := []) (pK := []) (pC := []) (by decide +kernel) (by decide +kernel) (by decide +kernel) (by decide +kernel)
set_option maxRecDepth 100000 in
theorem ca_156 : am_Call at_Ts at_cl 60 mt_156 := at_call (KL := 60) (M := mt_156) (pc := 1763) (pi := 15) (ps := 1762) (pn := 0) (pl := 0) (pv := 0) (at_m8 (List.mem_of_getElem? (i := 83) rfl)) (by decide +kernel)
theorem bd_157 : am_Body at_Ts at_P at_cl at_AO at_NL mt_157 := at_body at_PN at_PX (pG := []) (pP := []) (pN := []) (pA := []) (pK := []) (pC := []) (by decide +kernel) (by decide +kernel) (by decide +kernel) (by decide +kernel)
set_option maxRecDepth 100000 in
theorem ca_157 : am_Call at_Ts at_cl 60 mt_157 := at_call (KL := 60) (M := mt_157) (pc := 1778) (pi := 15) (ps := 1777) (pn := 0) (pl := 0) (pv := 0) (at_m8 (List.mem_of_getElem? (i := 98) rfl)) (by decide +kernel)
theorem bd_158 : am_Body at_Ts at_P at_cl at_AO at_NL mt_158 := at_body at_PN at_PX (pG := [1289]) (pP := []) (pN := []) (pA := []) (pK := []) (pC := []) (by decide +kernel) (by decide +kernel) (by decide +kernel) (by decide +kernel)
set_option maxRecDepth 100000 in
theorem ca_158 : am_Call at_Ts at_cl 60 mt_158 := at_call (KL := 60) (M := mt_158) (pc := 1645) (pi := 15) (ps := 0) (pn := 1644) (pl := 0) (pv := 66) (at_m7 (List.mem_of_getElem? (i := 205) rfl)) (by decide +kernel)
theorem bd_159 : am_Body at_Ts at_P at_cl at_AO at_NL mt_159 := at_body at_PN at_PX (pG := [1286]) (pP := []) (pN := []) (pA := []) (pK := []) (pC := [1632]) (by decide +kernel) (by decide +kernel) (by decide +kernel) (by decide +kernel)
set_option maxRecDepth 100000 in
theorem ca_159 : am_Call at_Ts at_cl 60 mt_159 := at_call (KL := 60) (M := mt_159) (pc := 1631) (pi := 15) (ps := 0) (pn := 1630) (pl := 0) (pv := 64) (at_m7 (List.mem_of_getElem? (i := 191) rfl)) (by decide +kernel)
theorem bd_160 : am_Body at_Ts at_P at_cl at_AO at_NL mt_160 := at_body at_PN at_PX (pG := [1289]) (pP := [1289, 1290]) (pN := []) (pA := []) (pK := []) (pC := []) (by decide +kernel) (by decide +kernel) (by decide +kernel) (by decide +kernel)
set_option maxRecDepth 100000 in
theorem ca_160 : am_Call at_Ts at_cl 60 mt_160 := at_call (KL := 60) (M := mt_160) (pc := 1635) (pi := 15) (ps := 0) (pn := 1634) (pl := 0) (pv := 65) (at_m7 (List.mem_of_getElem? (i := 195) rfl)) (by decide +kernel)
theorem bd_161 : am_Body at_Ts at_P at_cl at_AO at_NL mt_161 := at_body at_PN at_PX (pG := [1284, 1283, 1281]) (pP := []) (pN := []) (pA := []) (pK := []) (pC := []) (by decide +kernel) (by decide +kernel) (by decide +kernel) (by decide +kernel)
set_option maxRecDepth 100000 in
theorem ca_161 : am_Call at_Ts at_cl 60 mt_161 := at_call (KL := 60) (M := mt_161) (pc := 1624) (pi := 15) (ps := 0) (pn := 1623) (pl := 0) (pv := 63) (at_m7 (List.mem_of_getElem? (i := 184) rfl)) (by decide +kernel)
theorem bd_162 : am_Body at_Ts at_P at_cl at_AO at_NL mt_162 := at_body at_PN at_PX (pG := []) (pP := []) (pN := []) (pA := []) (pK := []) (pC := []) (by decide +kernel) (by decide +kernel) (by decide +kernel) (by decide +kernel)
set_option maxRecDepth 100000 in
theorem ca_162 : am_Call at_Ts at_cl 60 mt_162 := at_call (KL := 60) (M := mt_162) (pc := 1627) (pi := 15) (ps := 1626) (pn := 0) (pl := 0) (pv := 0) (at_m7 (List.mem_of_getElem? (i := 187) rfl)) (by decide +kernel)
theorem bd_163 : am_Body at_Ts at_P at_cl at_AO at_NL mt_163 := at_body at_PN at_PX (pG := []) (pP := []) (pN := []) (pA := []) (pK := []) (pC := []) (by decide +kernel) (by decide +kernel) (by decide +kernel) (by decide +kernel)
set_option maxRecDepth 100000 in
theorem ca_163 : am_Call at_Ts at_cl 60 mt_163 := at_call (KL := 60) (M := mt_163) (pc := 1638) (pi := 15) (ps := 1637) (pn := 0) (pl := 0) (pv := 0) (at_m7 (List.mem_of_getElem? (i := 198) rfl)) (by decide +kernel)
theorem bd_164 : am_Body at_Ts at_P at_cl at_AO at_NL mt_164 := at_body at_PN at_PX (pG := []) (pP := []) (pN := []) (pA := []) (pK := []) (pC := []) (by decide +kernel) (by decide +kernel) (by decide +kernel) (by decide +kernel)
set_option maxRecDepth 100000 in
theorem ca_164 : am_Call at_Ts at_cl 60 mt_164 := at_call (KL := 60) (M := mt_164) (pc := 1641) (pi := 15) (ps := 1640) (pn := 0) (pl := 0) (pv := 0) (at_m7 (List.mem_of_getElem? (i := 201) rfl)) (by decide +kernel)
theorem bd_165 : am_Body at_Ts at_P at_cl at_AO at_NL mt_165 := at_body at_PN at_PX (pG := [1284, 1286, 1287, 1285]) (pP := [1284, 1286, 1285, 1287]) (pN := []) (pA := []) (pK := []) (pC := [1621, 1625, 1628, 1636, 1639]) (by decide +kernel) (by decide +kernel) (by decide +kernel) (by decide +kernel)
set_option maxRecDepth 100000 in
theorem ca_165 : am_Call at_Ts at_cl 60 mt_165 := at_call (KL := 60) (M := mt_165) (pc := 1620) (pi := 15) (ps := 0) (pn := 1619) (pl := 0) (pv := 62) (at_m7 (List.mem_of_getElem? (i := 180) rfl)) (by decide +kernel)
theorem bd_166 : am_Body at_Ts at_P at_cl at_AO at_NL mt_166 := at_body at_PN at_PX (pG := [1285]) (pP := []) (pN := []) (pA := []) (pK := []) (pC := [1642, 1628, 1617]) (by decide +kernel) (by decide +kernel) (by decide +kernel) (by decide +kernel)
set_option maxRecDepth 100000 in
theorem ca_166 : am_Call at_Ts at_cl 60 mt_166 := at_call (KL := 60) (M := mt_166) (pc := 1656) (pi := 15) (ps := 0) (pn := 1655) (pl := 0) (pv := 68) (at_m7 (List.mem_of_getElem? (i := 216) rfl)) (by decide +kernel)
theorem bd_167 : am_Body at_Ts at_P at_cl at_AO at_NL mt_167 := at_body at_PN at_PX (pG := []) (pP := []) (pN := []) (pA := []) (pK := []) (pC := []) (by decide +kernel) (by decide +kernel) (by decide +kernel) (by decide +kernel)
set_option maxRecDepth 100000 in
theorem ca_167 : am_Call at_Ts at_cl 60 mt_167 := at_call (KL := 60) (M := mt_167) (pc := 1652) (pi := 15) (ps := 1651) (pn := 0) (pl := 0) (pv := 0) (at_m7 (List.mem_of_getElem? (i := 212) rfl)) (by decide +kernel)
theorem bd_168 : am_Body at_Ts at_P at_cl at_AO at_NL mt_168 := at_body at_PN at_PX (pG := [1294]) (pP := [1294]) (pN := []) (pA := []) (pK := []) (pC := [1642, 1628]) (by decide +kernel) (by decide +kernel) (by decide +kernel) (by decide +kernel)
set_option maxRecDepth 100000 in
theorem ca_168 : am_Call at_Ts at_cl 60 mt_168 := at_call (KL := 60) (M := mt_168) (pc := 1680) (pi := 15) (ps := 0) (pn := 1679) (pl := 0) (pv := 74) (at_m8 (List.mem_of_getElem? (i := 0) rfl)) (by decide +kernel)
theorem bd_169 : am_Body at_Ts at_P at_cl at_AO at_NL mt_169 := at_body at_PN at_PX (pG := [1296, 1297]) (pP := [1297]) (pN := []) (pA := []) (pK := []) (pC := [1642]) (by decide +kernel) (by decide +kernel) (by decide +kernel) (by decide +kernel)
set_option maxRecDepth 100000 in
theorem ca_169 : am_Call at_Ts at_cl 60 mt_169 := at_call (KL := 60) (M := mt_169) (pc := 1704) (pi := 15) (ps := 0) (pn := 1703) (pl := 0) (pv := 80) (at_m8 (List.mem_of_getElem? (i := 24) rfl)) (by decide +kernel)
theorem bd_170 : am_Body at_Ts at_P at_cl at_AO at_NL mt_170 := at_body at_PN at_PX (pG := [1285, 1256, 1255, 1287]) (pP := [1255]) (pN := []) (pA := []) (pK := []) (pC := [1617, 1642, 1628, 1650, 1653, 1657]) (by decide +kernel) (by decide +kernel) (by decide +kernel) (by decide +kernel)
set_option maxRecDepth 100000 in
theorem ca_170 : am_Call at_Ts at_cl 60 mt_170 := at_call (KL := 60) (M := mt_170) (pc := 1649) (pi := 15) (ps := 0) (pn := 1648) (pl := 0) (pv := 67) (at_m7 (List.mem_of_getElem? (i := 209) rfl)) (by decide +kernel)
theorem bd_171 : am_Body at_Ts at_P at_cl at_AO at_NL mt_171 := at_body at_PN at_PX (pG := [1285, 1258, 1257, 1287, 1259, 1255, 1260, 1261]) (pP := [1257]) (pN := []) (pA := []) (pK := []) (pC := [1642, 1628, 1650, 1617, 1661]) (by decide +kernel) (by decide +kernel) (by decide +kernel) (by decide +kernel)
set_option maxRecDepth 100000 in
theorem ca_171 : am_Call at_Ts at_cl 60 mt_171 := at_call (KL := 60) (M := mt_171) (pc := 1660) (pi := 15) (ps := 0) (pn := 1659) (pl := 0) (pv := 69) (at_m7 (List.mem_of_getElem? (i := 220) rfl)) (by decide +kernel)
theorem bd_172 : am_Body at_Ts at_P at_cl at_AO at_NL mt_172 := at_body at_PN at_PX (pG := [1285, 1256, 1255, 1287]) (pP := []) (pN := []) (pA := []) (pK := []) (pC := [1642, 1628, 1650]) (by decide +kernel) (by decide +kernel) (by decide +kernel) (by decide +kernel)
set_option maxRecDepth 100000 in
theorem ca_172 : am_Call at_Ts at_cl 60 mt_172 := at_call (KL := 60) (M := mt_172) (pc := 1664) (pi := 15) (ps := 0) (pn := 1663) (pl := 0) (pv := 70) (at_m7 (List.mem_of_getElem? (i := 224) rfl)) (by decide +kernel)
theorem bd_173 : am_Body at_Ts at_P at_cl at_AO at_NL mt_173 := at_body at_PN at_PX (pG := [1285, 1263, 1262, 1287, 1264, 1265, 1266]) (pP := [1262]) (pN := []) (pA := []) (pK := []) (pC := [1617, 1642, 1628, 1650, 1653, 1661]) (by decide +kernel) (by decide +kernel) (by decide +kernel) (by decide +kernel)
set_option maxRecDepth 100000 in
theorem ca_173 : am_Call at_Ts at_cl 60 mt_173 := at_call (KL := 60) (M := mt_173) (pc := 1668) (pi := 15) (ps := 0) (pn := 1667) (pl := 0) (pv := 71) (at_m7 (List.mem_of_getElem? (i := 228) rfl)) (by decide +kernel)
theorem bd_174 : am_Body at_Ts at_P at_cl at_AO at_NL mt_174 := at_body at_PN at_PX (pG := [1299, 1301, 1300]) (pP := []) (pN := []) (pA := []) (pK := []) (pC := [1689, 1693]) (by decide +kernel) (by decide +kernel) (by decide +kernel) (by decide +kernel)
set_option maxRecDepth 100000 in
theorem ca_174 : am_Call at_Ts at_cl 60 mt_174 := at_call (KL := 60) (M := mt_174) (pc := 1688) (pi := 15) (ps := 0) (pn := 1687) (pl := 0) (pv := 76) (at_m8 (List.mem_of_getElem? (i := 8) rfl)) (by decide +kernel)
theorem bd_175 : am_Body at_Ts at_P at_cl at_AO at_NL mt_175 := at_body at_PN at_PX (pG := [1265, 1261]) (pP := []) (pN := []) (pA := []) (pK := []) (pC := []) (by decide +kernel) (by decide +kernel) (by decide +kernel) (by decide +kernel)
set_option maxRecDepth 100000 in
theorem ca_175 : am_Call at_Ts at_cl 60 mt_175 := at_call (KL := 60) (M := mt_175) (pc := 1696) (pi := 15) (ps := 0) (pn := 1695) (pl := 0) (pv := 78) (at_m8 (List.mem_of_getElem? (i := 16) rfl)) (by decide +kernel)
