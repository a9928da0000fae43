/-! what a program decides of each method -/
theorem bd_147 : am_Body at_Ts at_P at_cl at_AO at_NL mt_147 := at_body at_PN at_PX (pG := [389]) (pP := [389, 393]) (pN := [387]) (pA := [387]) (pK := []) (pC := [386, 388]) (by decide +kernel) (by decide +kernel) (by decide +kernel) (by decide +kernel)
set_option maxRecDepth 100000 in
theorem ca_147 : am_Call at_Ts at_cl 60 mt_147 := at_call (KL := 60) (M := mt_147) (pc := 385) (pi := 14) (ps := 0) (pn := 384) (pl := 0) (pv := 0) (at_m2 (List.mem_of_getElem? (i := 145) rfl)) (by decide +kernel)
theorem bd_148 : am_Body at_Ts at_P at_cl at_AO at_NL mt_148 := at_body at_PN at_PX (pG := [389]) (pP := []) (pN := []) (pA := []) (pK := []) (pC := [1030, 1099]) (by decide +kernel) (by decide +kernel) (by decide +kernel) (by decide +kernel)
set_option maxRecDepth 100000 in
theorem ca_148 : am_Call at_Ts at_cl 60 mt_148 := at_call (KL := 60) (M := mt_148) (pc := 1098) (pi := 14) (ps := 0) (pn := 1096) (pl := 1097) (pv := 0) (at_m5 (List.mem_of_getElem? (i := 138) rfl)) (by decide +kernel)
theorem bd_149 : am_Body at_Ts at_P at_cl at_AO at_NL mt_149 := at_body at_PN at_PX (pG := [396, 400, 403, 393, 389]) (pP := [396, 400, 403]) (pN := []) (pA := []) (pK := []) (pC := [1030]) (by decide +kernel) (by decide +kernel) (by decide +kernel) (by decide +kernel)
set_option maxRecDepth 100000 in
theorem ca_149 : am_Call at_Ts at_cl 60 mt_149 := at_call (KL := 60) (M := mt_149) (pc := 1029) (pi := 14) (ps := 0) (pn := 1027) (pl := 1028) (pv := 0) (at_m5 (List.mem_of_getElem? (i := 69) rfl)) (by decide +kernel)
theorem bd_150 : am_Body at_Ts at_P at_cl at_AO at_NL mt_150 := at_body at_PN at_PX (pG := [400]) (pP := []) (pN := []) (pA := []) (pK := []) (pC := []) (by decide +kernel) (by decide +kernel) (by decide +kernel) (by decide +kernel)
set_option maxRecDepth 100000 in
theorem ca_150 : am_Call at_Ts at_cl 60 mt_150 := at_call (KL := 60) (M := mt_150) (pc := 1005) (pi := 14) (ps := 0) (pn := 1003) (pl := 1004) (pv := 0) (at_m5 (List.mem_of_getElem? (i := 45) rfl)) (by decide +kernel)
theorem bd_151 : am_Body at_Ts at_P at_cl at_AO at_NL mt_151 := at_body at_PN at_PX (pG := [389]) (pP := []) (pN := []) (pA := []) (pK := []) (pC := [996]) (by decide +kernel) (by decide +kernel) (by decide +kernel) (by decide +kernel)
set_option maxRecDepth 100000 in
theorem ca_151 : am_Call at_Ts at_cl 60 mt_151 := at_call (KL := 60) (M := mt_151) (pc := 995) (pi := 14) (ps := 0) (pn := 993) (pl := 994) (pv := 0) (at_m5 (List.mem_of_getElem? (i := 35) rfl)) (by decide +kernel)
theorem bd_152 : am_Body at_Ts at_P at_cl at_AO at_NL mt_152 := at_body at_PN at_PX (pG := []) (pP := [1257, 1259, 1260, 1261, 1262, 1264, 1265, 1266, 1267, 1269, 1270, 1271, 1272, 1273, 1275, 1276, 1277, 1278, 1279, 1280, 1281, 1282, 1292, 1293, 1297, 1300, 1301, 1303, 1304, 1307, 1309, 1313, 1315, 1316, 1317, 1318, 1319, 1320, 1321, 1322, 1323, 1324, 1325, 1326, 1328, 1329, 1333, 1334, 1335, 1336, 1337, 1338, 1339, 1340, 1341, 1342, 1343, 1345, 1346, 1347, 1349, 1351, 1352, 1353, 1355, 1357, 1358, 1359, 1360, 1361, 1362, 1363, 1364, 1365, 1366]) (pN := []) (pA := []) (pK := [1253, 1254]) (pC := [1252]) (by decide +kernel) (by decide +kernel) (by decide +kernel) (by decide +kernel)
set_option maxRecDepth 100000 in
theorem ca_152 : am_Call at_Ts at_cl 60 mt_152 := at_call (KL := 60) (M := mt_152) (pc := 1251) (pi := 15) (ps := 0) (pn := 1250) (pl := 0) (pv := 0) (at_m6 (List.mem_of_getElem? (i := 51) rfl)) (by decide +kernel)
theorem bd_153 : am_Body at_Ts at_P at_cl at_AO at_NL mt_153 := at_body at_PN at_PX (pG := [1255]) (pP := []) (pN := []) (pA := []) (pK := []) (pC := []) (by decide +kernel) (by decide +kernel) (by decide +kernel) (by decide +kernel)
set_option maxRecDepth 100000 in
theorem ca_153 : am_Call at_Ts at_cl 60 mt_153 := at_call (KL := 60) (M := mt_153) (pc := 1605) (pi := 15) (ps := 0) (pn := 1603) (pl := 1604) (pv := 0) (at_m7 (List.mem_of_getElem? (i := 165) rfl)) (by decide +kernel)
theorem bd_154 : am_Body at_Ts at_P at_cl at_AO at_NL mt_154 := at_body at_PN at_PX (pG := [1265, 1261]) (pP := []) (pN := []) (pA := []) (pK := []) (pC := []) (by decide +kernel) (by decide +kernel) (by decide +kernel) (by decide +kernel)
set_option maxRecDepth 100000 in
theorem ca_154 : am_Call at_Ts at_cl 60 mt_154 := at_call (KL := 60) (M := mt_154) (pc := 1697) (pi := 15) (ps := 0) (pn := 1696) (pl := 0) (pv := 77) (at_m8 (List.mem_of_getElem? (i := 17) rfl)) (by decide +kernel)
theorem bd_155 : am_Body at_Ts at_P at_cl at_AO at_NL mt_155 := at_body at_PN at_PX (pG := []) (pP := []) (pN := []) (pA := []) (pK := []) (pC := [1694]) (by decide +kernel) (by decide +kernel) (by decide +kernel) (by decide +kernel)
set_option maxRecDepth 100000 in
theorem ca_155 : am_Call at_Ts at_cl 60 mt_155 := at_call (KL := 60) (M := mt_155) (pc := 1780) (pi := 15) (ps := 0) (pn := 1779) (pl := 0) (pv := 93) (at_m8 (List.mem_of_getElem? (i := 100) rfl)) (by decide +kernel)
theorem bd_156 : am_Body at_Ts at_P at_cl at_AO at_NL mt_156 := at_body at_PN at_PX (pG := []) (pP := []) (pN := []) (pA := []) (pK := []) (pC := []) (by decide +kernel) (by decide +kernel) (by decide +kernel) (by decide +kernel)
set_option maxRecDepth 100000 in
theorem ca_156 : am_Call at_Ts at_cl 60 mt_156 := at_call (KL := 60) (M := mt_156) (pc := 1768) (pi := 15) (ps := 1767) (pn := 0) (pl := 0) (pv := 0) (at_m8 (List.mem_of_getElem? (i := 88) rfl)) (by decide +kernel)
theorem bd_157 : am_Body at_Ts at_P at_cl at_AO at_NL mt_157 := at_body at_PN at_PX (pG := []) (pP := []) (pN := []) (pA := []) (pK := []) (pC := []) (by decide +kernel) (by decide +kernel) (by decide +kernel) (by decide +kernel)
set_option maxRecDepth 100000 in
theorem ca_157 : am_Call at_Ts at_cl 60 mt_157 := at_call (KL := 60) (M := mt_157) (pc := 1783) (pi := 15) (ps := 1782) (pn := 0) (pl := 0) (pv := 0) (at_m8 (List.mem_of_getElem? (i := 103) rfl)) (by decide +kernel)
theorem bd_158 : am_Body at_Ts at_P at_cl at_AO at_NL mt_158 := at_body at_PN at_PX (pG := [1290]) (pP := []) (pN := []) (pA := []) (pK := []) (pC := []) (by decide +kernel) (by decide +kernel) (by decide +kernel) (by decide +kernel)
set_option maxRecDepth 100000 in
theorem ca_158 : am_Call at_Ts at_cl 60 mt_158 := at_call (KL := 60) (M := mt_158) (pc := 1650) (pi := 15) (ps := 0) (pn := 1649) (pl := 0) (pv := 66) (at_m7 (List.mem_of_getElem? (i := 210) rfl)) (by decide +kernel)
theorem bd_159 : am_Body at_Ts at_P at_cl at_AO at_NL mt_159 := at_body at_PN at_PX (pG := [1287]) (pP := []) (pN := []) (pA := []) (pK := []) (pC := [1637]) (by decide +kernel) (by decide +kernel) (by decide +kernel) (by decide +kernel)
set_option maxRecDepth 100000 in
theorem ca_159 : am_Call at_Ts at_cl 60 mt_159 := at_call (KL := 60) (M := mt_159) (pc := 1636) (pi := 15) (ps := 0) (pn := 1635) (pl := 0) (pv := 64) (at_m7 (List.mem_of_getElem? (i := 196) rfl)) (by decide +kernel)
theorem bd_160 : am_Body at_Ts at_P at_cl at_AO at_NL mt_160 := at_body at_PN at_PX (pG := [1290]) (pP := [1290, 1291]) (pN := []) (pA := []) (pK := []) (pC := []) (by decide +kernel) (by decide +kernel) (by decide +kernel) (by decide +kernel)
set_option maxRecDepth 100000 in
theorem ca_160 : am_Call at_Ts at_cl 60 mt_160 := at_call (KL := 60) (M := mt_160) (pc := 1640) (pi := 15) (ps := 0) (pn := 1639) (pl := 0) (pv := 65) (at_m7 (List.mem_of_getElem? (i := 200) rfl)) (by decide +kernel)
theorem bd_161 : am_Body at_Ts at_P at_cl at_AO at_NL mt_161 := at_body at_PN at_PX (pG := [1285, 1284, 1282]) (pP := []) (pN := []) (pA := []) (pK := []) (pC := []) (by decide +kernel) (by decide +kernel) (by decide +kernel) (by decide +kernel)
set_option maxRecDepth 100000 in
theorem ca_161 : am_Call at_Ts at_cl 60 mt_161 := at_call (KL := 60) (M := mt_161) (pc := 1629) (pi := 15) (ps := 0) (pn := 1628) (pl := 0) (pv := 63) (at_m7 (List.mem_of_getElem? (i := 189) rfl)) (by decide +kernel)
theorem bd_162 : am_Body at_Ts at_P at_cl at_AO at_NL mt_162 := at_body at_PN at_PX (pG := []) (pP := []) (pN := []) (pA := []) (pK := []) (pC := []) (by decide +kernel) (by decide +kernel) (by decide +kernel) (by decide +kernel)
set_option maxRecDepth 100000 in
theorem ca_162 : am_Call at_Ts at_cl 60 mt_162 := at_call (KL := 60) (M := mt_162) (pc := 1632) (pi := 15) (ps := 1631) (pn := 0) (pl := 0) (pv := 0) (at_m7 (List.mem_of_getElem? (i := 192) rfl)) (by decide +kernel)
theorem bd_163 : am_Body at_Ts at_P at_cl at_AO at_NL mt_163 := at_body at_PN at_PX (pG := []) (pP := []) (pN := []) (pA := []) (pK := []) (pC := []) (by decide +kernel) (by decide +kernel) (by decide +kernel) (by decide +kernel)
set_option maxRecDepth 100000 in
theorem ca_163 : am_Call at_Ts at_cl 60 mt_163 := at_call (KL := 60) (M := mt_163) (pc := 1643) (pi := 15) (ps := 1642) (pn := 0) (pl := 0) (pv := 0) (at_m7 (List.mem_of_getElem? (i := 203) rfl)) (by decide +kernel)
theorem bd_164 : am_Body at_Ts at_P at_cl at_AO at_NL mt_164 := at_body at_PN at_PX (pG := []) (pP := []) (pN := []) (pA := []) (pK := []) (pC := []) (by decide +kernel) (by decide +kernel) (by decide +kernel) (by decide +kernel)
set_option maxRecDepth 100000 in
theorem ca_164 : am_Call at_Ts at_cl 60 mt_164 := at_call (KL := 60) (M := mt_164) (pc := 1646) (pi := 15) (ps := 1645) (pn := 0) (pl := 0) (pv := 0) (at_m7 (List.mem_of_getElem? (i := 206) rfl)) (by decide +kernel)
theorem bd_165 : am_Body at_Ts at_P at_cl at_AO at_NL mt_165 := at_body at_PN at_PX (pG := [1285, 1287, 1288, 1286]) (pP := [1285, 1287, 1286, 1288]) (pN := []) (pA := []) (pK := []) (pC := [1626, 1630, 1633, 1641, 1644]) (by decide +kernel) (by decide +kernel) (by decide +kernel) (by decide +kernel)
set_option maxRecDepth 100000 in
theorem ca_165 : am_Call at_Ts at_cl 60 mt_165 := at_call (KL := 60) (M := mt_165) (pc := 1625) (pi := 15) (ps := 0) (pn := 1624) (pl := 0) (pv := 62) (at_m7 (List.mem_of_getElem? (i := 185) rfl)) (by decide +kernel)
theorem bd_166 : am_Body at_Ts at_P at_cl at_AO at_NL mt_166 := at_body at_PN at_PX (pG := [1286]) (pP := []) (pN := []) (pA := []) (pK := []) (pC := [1647, 1633, 1622]) (by decide +kernel) (by decide +kernel) (by decide +kernel) (by decide +kernel)
set_option maxRecDepth 100000 in
theorem ca_166 : am_Call at_Ts at_cl 60 mt_166 := at_call (KL := 60) (M := mt_166) (pc := 1661) (pi := 15) (ps := 0) (pn := 1660) (pl := 0) (pv := 68) (at_m7 (List.mem_of_getElem? (i := 221) rfl)) (by decide +kernel)
theorem bd_167 : am_Body at_Ts at_P at_cl at_AO at_NL mt_167 := at_body at_PN at_PX (pG := []) (pP := []) (pN := []) (pA := []) (pK := []) (pC := []) (by decide +kernel) (by decide +kernel) (by decide +kernel) (by decide +kernel)
set_option maxRecDepth 100000 in
theorem ca_167 : am_Call at_Ts at_cl 60 mt_167 := at_call (KL := 60) (M := mt_167) (pc := 1657) (pi := 15) (ps := 1656) (pn := 0) (pl := 0) (pv := 0) (at_m7 (List.mem_of_getElem? (i := 217) rfl)) (by decide +kernel)
theorem bd_168 : am_Body at_Ts at_P at_cl at_AO at_NL mt_168 := at_body at_PN at_PX (pG := [1295]) (pP := [1295]) (pN := []) (pA := []) (pK := []) (pC := [1647, 1633]) (by decide +kernel) (by decide +kernel) (by decide +kernel) (by decide +kernel)
set_option maxRecDepth 100000 in
theorem ca_168 : am_Call at_Ts at_cl 60 mt_168 := at_call (KL := 60) (M := mt_168) (pc := 1685) (pi := 15) (ps := 0) (pn := 1684) (pl := 0) (pv := 74) (at_m8 (List.mem_of_getElem? (i := 5) rfl)) (by decide +kernel)
theorem bd_169 : am_Body at_Ts at_P at_cl at_AO at_NL mt_169 := at_body at_PN at_PX (pG := [1297, 1298]) (pP := [1298]) (pN := []) (pA := []) (pK := []) (pC := [1647]) (by decide +kernel) (by decide +kernel) (by decide +kernel) (by decide +kernel)
set_option maxRecDepth 100000 in
theorem ca_169 : am_Call at_Ts at_cl 60 mt_169 := at_call (KL := 60) (M := mt_169) (pc := 1709) (pi := 15) (ps := 0) (pn := 1708) (pl := 0) (pv := 80) (at_m8 (List.mem_of_getElem? (i := 29) rfl)) (by decide +kernel)
theorem bd_170 : am_Body at_Ts at_P at_cl at_AO at_NL mt_170 := at_body at_PN at_PX (pG := [1286, 1257, 1256, 1288]) (pP := [1256]) (pN := []) (pA := []) (pK := []) (pC := [1622, 1647, 1633, 1655, 1658, 1662]) (by decide +kernel) (by decide +kernel) (by decide +kernel) (by decide +kernel)
set_option maxRecDepth 100000 in
theorem ca_170 : am_Call at_Ts at_cl 60 mt_170 := at_call (KL := 60) (M := mt_170) (pc := 1654) (pi := 15) (ps := 0) (pn := 1653) (pl := 0) (pv := 67) (at_m7 (List.mem_of_getElem? (i := 214) rfl)) (by decide +kernel)
theorem bd_171 : am_Body at_Ts at_P at_cl at_AO at_NL mt_171 := at_body at_PN at_PX (pG := [1286, 1259, 1258, 1288, 1260, 1256, 1261, 1262]) (pP := [1258]) (pN := []) (pA := []) (pK := []) (pC := [1647, 1633, 1655, 1622, 1666]) (by decide +kernel) (by decide +kernel) (by decide +kernel) (by decide +kernel)
set_option maxRecDepth 100000 in
theorem ca_171 : am_Call at_Ts at_cl 60 mt_171 := at_call (KL := 60) (M := mt_171) (pc := 1665) (pi := 15) (ps := 0) (pn := 1664) (pl := 0) (pv := 69) (at_m7 (List.mem_of_getElem? (i := 225) rfl)) (by decide +kernel)
theorem bd_172 : am_Body at_Ts at_P at_cl at_AO at_NL mt_172 := at_body at_PN at_PX (pG := [1286, 1257, 1256, 1288]) (pP := []) (pN := []) (pA := []) (pK := []) (pC := [1647, 1633, 1655]) (by decide +kernel) (by decide +kernel) (by decide +kernel) (by decide +kernel)
set_option maxRecDepth 100000 in
theorem ca_172 : am_Call at_Ts at_cl 60 mt_172 := at_call (KL := 60) (M := mt_172) (pc := 1669) (pi := 15) (ps := 0) (pn := 1668) (pl := 0) (pv := 70) (at_m7 (List.mem_of_getElem? (i := 229) rfl)) (by decide +kernel)
theorem bd_173 : am_Body at_Ts at_P at_cl at_AO at_NL mt_173 := at_body at_PN at_PX (pG := [1286, 1264, 1263, 1288, 1265, 1266, 1267]) (pP := [1263]) (pN := []) (pA := []) (pK := []) (pC := [1622, 1647, 1633, 1655, 1658, 1666]) (by decide +kernel) (by decide +kernel) (by decide +kernel) (by decide +kernel)
set_option maxRecDepth 100000 in
theorem ca_173 : am_Call at_Ts at_cl 60 mt_173 := at_call (KL := 60) (M := mt_173) (pc := 1673) (pi := 15) (ps := 0) (pn := 1672) (pl := 0) (pv := 71) (at_m7 (List.mem_of_getElem? (i := 233) rfl)) (by decide +kernel)
theorem bd_174 : am_Body at_Ts at_P at_cl at_AO at_NL mt_174 := at_body at_PN at_PX (pG := [1300, 1302, 1301]) (pP := []) (pN := []) (pA := []) (pK := []) (pC := [1694, 1698]) (by decide +kernel) (by decide +kernel) (by decide +kernel) (by decide +kernel)
set_option maxRecDepth 100000 in
theorem ca_174 : am_Call at_Ts at_cl 60 mt_174 := at_call (KL := 60) (M := mt_174) (pc := 1693) (pi := 15) (ps := 0) (pn := 1692) (pl := 0) (pv := 76) (at_m8 (List.mem_of_getElem? (i := 13) rfl)) (by decide +kernel)
