/-! what a program decides of each method -/
theorem bd_175 : am_Body at_Ts at_P at_cl at_AO at_NL mt_175 := at_body at_PN at_PX (pG := [1266, 1262]) (pP := []) (pN := []) (pA := []) (pK := []) (pC := []) (by decide +kernel) (by decide +kernel) (by decide +kernel) (by decide +kernel)
set_option maxRecDepth 100000 in
theorem ca_175 : am_Call at_Ts at_cl 60 mt_175 := at_call (KL := 60) (M := mt_175) (pc := 1701) (pi := 15) (ps := 0) (pn := 1700) (pl := 0) (pv := 78) (at_m8 (List.mem_of_getElem? (i := 21) rfl)) (by decide +kernel)
theorem bd_176 : am_Body at_Ts at_P at_cl at_AO at_NL mt_176 := at_body at_PN at_PX (pG := [1296]) (pP := [1296]) (pN := []) (pA := []) (pK := []) (pC := [1647, 1633]) (by decide +kernel) (by decide +kernel) (by decide +kernel) (by decide +kernel)
set_option maxRecDepth 100000 in
theorem ca_176 : am_Call at_Ts at_cl 60 mt_176 := at_call (KL := 60) (M := mt_176) (pc := 1717) (pi := 15) (ps := 0) (pn := 1716) (pl := 0) (pv := 82) (at_m8 (List.mem_of_getElem? (i := 37) rfl)) (by decide +kernel)
theorem bd_177 : am_Body at_Ts at_P at_cl at_AO at_NL mt_177 := at_body at_PN at_PX (pG := [1292, 1294, 1288, 1293]) (pP := [1294]) (pN := []) (pA := []) (pK := []) (pC := []) (by decide +kernel) (by decide +kernel) (by decide +kernel) (by decide +kernel)
set_option maxRecDepth 100000 in
theorem ca_177 : am_Call at_Ts at_cl 60 mt_177 := at_call (KL := 60) (M := mt_177) (pc := 1705) (pi := 15) (ps := 0) (pn := 1704) (pl := 0) (pv := 79) (at_m8 (List.mem_of_getElem? (i := 25) rfl)) (by decide +kernel)
theorem bd_178 : am_Body at_Ts at_P at_cl at_AO at_NL mt_178 := at_body at_PN at_PX (pG := [1300, 1301, 1302, 1296, 1286, 1264, 1263, 1288, 1292, 1294]) (pP := [1302, 1296]) (pN := []) (pA := []) (pK := []) (pC := [1647, 1690, 1658, 1655, 1633, 1682, 1702, 1706, 1622, 1710, 1714]) (by decide +kernel) (by decide +kernel) (by decide +kernel) (by decide +kernel)
set_option maxRecDepth 100000 in
theorem ca_178 : am_Call at_Ts at_cl 60 mt_178 := at_call (KL := 60) (M := mt_178) (pc := 1689) (pi := 15) (ps := 0) (pn := 1688) (pl := 0) (pv := 75) (at_m8 (List.mem_of_getElem? (i := 9) rfl)) (by decide +kernel)
theorem bd_179 : am_Body at_Ts at_P at_cl at_AO at_NL mt_179 := at_body at_PN at_PX (pG := [1259, 1258, 1288, 1261, 1260, 1301, 1302, 1300]) (pP := [1302]) (pN := []) (pA := []) (pK := []) (pC := [1647, 1655, 1633, 1682, 1706, 1622]) (by decide +kernel) (by decide +kernel) (by decide +kernel) (by decide +kernel)
set_option maxRecDepth 100000 in
theorem ca_179 : am_Call at_Ts at_cl 60 mt_179 := at_call (KL := 60) (M := mt_179) (pc := 1713) (pi := 15) (ps := 0) (pn := 1712) (pl := 0) (pv := 81) (at_m8 (List.mem_of_getElem? (i := 33) rfl)) (by decide +kernel)
theorem bd_180 : am_Body at_Ts at_P at_cl at_AO at_NL mt_180 := at_body at_PN at_PX (pG := [1296, 1302, 1300, 1301, 1303]) (pP := [1302, 1296]) (pN := []) (pA := []) (pK := []) (pC := [1647, 1722, 1658, 1694, 1698]) (by decide +kernel) (by decide +kernel) (by decide +kernel) (by decide +kernel)
set_option maxRecDepth 100000 in
theorem ca_180 : am_Call at_Ts at_cl 60 mt_180 := at_call (KL := 60) (M := mt_180) (pc := 1721) (pi := 15) (ps := 0) (pn := 1720) (pl := 0) (pv := 83) (at_m8 (List.mem_of_getElem? (i := 41) rfl)) (by decide +kernel)
theorem bd_181 : am_Body at_Ts at_P at_cl at_AO at_NL mt_181 := at_body at_PN at_PX (pG := [1300, 1302, 1301, 1303]) (pP := [1302]) (pN := []) (pA := []) (pK := []) (pC := []) (by decide +kernel) (by decide +kernel) (by decide +kernel) (by decide +kernel)
set_option maxRecDepth 100000 in
theorem ca_181 : am_Call at_Ts at_cl 60 mt_181 := at_call (KL := 60) (M := mt_181) (pc := 1729) (pi := 15) (ps := 0) (pn := 1728) (pl := 0) (pv := 85) (at_m8 (List.mem_of_getElem? (i := 49) rfl)) (by decide +kernel)
theorem bd_182 : am_Body at_Ts at_P at_cl at_AO at_NL mt_182 := at_body at_PN at_PX (pG := [1286, 1299]) (pP := []) (pN := []) (pA := []) (pK := []) (pC := [1714, 1647, 1726, 1622, 1633, 1682, 1706, 1730, 1734]) (by decide +kernel) (by decide +kernel) (by decide +kernel) (by decide +kernel)
set_option maxRecDepth 100000 in
theorem ca_182 : am_Call at_Ts at_cl 60 mt_182 := at_call (KL := 60) (M := mt_182) (pc := 1725) (pi := 15) (ps := 0) (pn := 1724) (pl := 0) (pv := 84) (at_m8 (List.mem_of_getElem? (i := 45) rfl)) (by decide +kernel)
theorem bd_183 : am_Body at_Ts at_P at_cl at_AO at_NL mt_183 := at_body at_PN at_PX (pG := [1259, 1258, 1288, 1261, 1260]) (pP := []) (pN := []) (pA := []) (pK := []) (pC := [1655, 1633, 1647, 1682, 1706, 1726, 1622]) (by decide +kernel) (by decide +kernel) (by decide +kernel) (by decide +kernel)
set_option maxRecDepth 100000 in
theorem ca_183 : am_Call at_Ts at_cl 60 mt_183 := at_call (KL := 60) (M := mt_183) (pc := 1733) (pi := 15) (ps := 0) (pn := 1732) (pl := 0) (pv := 86) (at_m8 (List.mem_of_getElem? (i := 53) rfl)) (by decide +kernel)
theorem bd_184 : am_Body at_Ts at_P at_cl at_AO at_NL mt_184 := at_body at_PN at_PX (pG := [1264, 1263, 1288, 1265, 1267, 1292, 1294, 1299, 1293]) (pP := []) (pN := []) (pA := []) (pK := []) (pC := [1655, 1633, 1647, 1682, 1706, 1726, 1622, 1702]) (by decide +kernel) (by decide +kernel) (by decide +kernel) (by decide +kernel)
set_option maxRecDepth 100000 in
theorem ca_184 : am_Call at_Ts at_cl 60 mt_184 := at_call (KL := 60) (M := mt_184) (pc := 1737) (pi := 15) (ps := 0) (pn := 1736) (pl := 0) (pv := 87) (at_m8 (List.mem_of_getElem? (i := 57) rfl)) (by decide +kernel)
theorem bd_185 : am_Body at_Ts at_P at_cl at_AO at_NL mt_185 := at_body at_PN at_PX (pG := []) (pP := [1294, 1295, 1296, 1298]) (pN := []) (pA := []) (pK := []) (pC := []) (by decide +kernel) (by decide +kernel) (by decide +kernel) (by decide +kernel)
set_option maxRecDepth 100000 in
theorem ca_185 : am_Call at_Ts at_cl 60 mt_185 := at_call (KL := 60) (M := mt_185) (pc := 1681) (pi := 15) (ps := 0) (pn := 1680) (pl := 0) (pv := 73) (at_m8 (List.mem_of_getElem? (i := 1) rfl)) (by decide +kernel)
theorem bd_186 : am_Body at_Ts at_P at_cl at_AO at_NL mt_186 := at_body at_PN at_PX (pG := [1268, 1286, 1264, 1263, 1288, 1269, 1271, 1298, 1270, 1297, 1267, 1273, 1272]) (pP := [1299, 1295, 1296, 1298, 1268]) (pN := []) (pA := []) (pK := []) (pC := [1633, 1622, 1647, 1655, 1678, 1682, 1686, 1658, 1718]) (by decide +kernel) (by decide +kernel) (by decide +kernel) (by decide +kernel)
set_option maxRecDepth 100000 in
theorem ca_186 : am_Call at_Ts at_cl 60 mt_186 := at_call (KL := 60) (M := mt_186) (pc := 1677) (pi := 15) (ps := 0) (pn := 1676) (pl := 0) (pv := 72) (at_m7 (List.mem_of_getElem? (i := 237) rfl)) (by decide +kernel)
theorem bd_187 : am_Body at_Ts at_P at_cl at_AO at_NL mt_187 := at_body at_PN at_PX (pG := [1286, 1275, 1274, 1288, 1278, 1279, 1294, 1280, 1293, 1281]) (pP := [1299, 1295, 1296, 1298, 1274]) (pN := []) (pA := []) (pK := []) (pC := [1622, 1647, 1633, 1655, 1658, 1678, 1718, 1742]) (by decide +kernel) (by decide +kernel) (by decide +kernel) (by decide +kernel)
set_option maxRecDepth 100000 in
theorem ca_187 : am_Call at_Ts at_cl 60 mt_187 := at_call (KL := 60) (M := mt_187) (pc := 1741) (pi := 15) (ps := 0) (pn := 1740) (pl := 0) (pv := 88) (at_m8 (List.mem_of_getElem? (i := 61) rfl)) (by decide +kernel)
theorem bd_188 : am_Body at_Ts at_P at_cl at_AO at_NL mt_188 := at_body at_PN at_PX (pG := [1298, 1276, 1297, 1277]) (pP := []) (pN := []) (pA := []) (pK := []) (pC := [1647]) (by decide +kernel) (by decide +kernel) (by decide +kernel) (by decide +kernel)
set_option maxRecDepth 100000 in
theorem ca_188 : am_Call at_Ts at_cl 60 mt_188 := at_call (KL := 60) (M := mt_188) (pc := 1745) (pi := 15) (ps := 0) (pn := 1744) (pl := 0) (pv := 89) (at_m8 (List.mem_of_getElem? (i := 65) rfl)) (by decide +kernel)
theorem bd_189 : am_Body at_Ts at_P at_cl at_AO at_NL mt_189 := at_body at_PN at_PX (pG := [1283, 1282]) (pP := [1255, 1283]) (pN := []) (pA := []) (pK := []) (pC := []) (by decide +kernel) (by decide +kernel) (by decide +kernel) (by decide +kernel)
set_option maxRecDepth 100000 in
theorem ca_189 : am_Call at_Ts at_cl 60 mt_189 := at_call (KL := 60) (M := mt_189) (pc := 1609) (pi := 15) (ps := 0) (pn := 1607) (pl := 1608) (pv := 0) (at_m7 (List.mem_of_getElem? (i := 169) rfl)) (by decide +kernel)
theorem bd_190 : am_Body at_Ts at_P at_cl at_AO at_NL mt_190 := at_body at_PN at_PX (pG := [1283]) (pP := [1255, 1283]) (pN := []) (pA := []) (pK := []) (pC := []) (by decide +kernel) (by decide +kernel) (by decide +kernel) (by decide +kernel)
set_option maxRecDepth 100000 in
theorem ca_190 : am_Call at_Ts at_cl 60 mt_190 := at_call (KL := 60) (M := mt_190) (pc := 1613) (pi := 15) (ps := 0) (pn := 1611) (pl := 1612) (pv := 0) (at_m7 (List.mem_of_getElem? (i := 173) rfl)) (by decide +kernel)
theorem bd_191 : am_Body at_Ts at_P at_cl at_AO at_NL mt_191 := at_body at_PN at_PX (pG := [1283]) (pP := [1284, 1283, 1285, 1290]) (pN := []) (pA := []) (pK := []) (pC := [1622]) (by decide +kernel) (by decide +kernel) (by decide +kernel) (by decide +kernel)
set_option maxRecDepth 100000 in
theorem ca_191 : am_Call at_Ts at_cl 60 mt_191 := at_call (KL := 60) (M := mt_191) (pc := 1621) (pi := 15) (ps := 0) (pn := 1620) (pl := 0) (pv := 61) (at_m7 (List.mem_of_getElem? (i := 181) rfl)) (by decide +kernel)
