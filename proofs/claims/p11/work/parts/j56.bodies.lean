/-! what a program decides of each method -/
theorem bd_176 : am_Body at_Ts at_P at_cl at_AO at_NL mt_176 := at_body at_PN at_PX (pG := [1295]) (pP := [1295]) (pN := []) (pA := []) (pK := []) (pC := [1642, 1628]) (by decide +kernel) (by decide +kernel) (by decide +kernel) (by decide +kernel)
set_option maxRecDepth 100000 in
theorem ca_176 : am_Call at_Ts at_cl 60 mt_176 := at_call (KL := 60) (M := mt_176) (pc := 1712) (pi := 15) (ps := 0) (pn := 1711) (pl := 0) (pv := 82) (at_m8 (List.mem_of_getElem? (i := 32) rfl)) (by decide +kernel)
theorem bd_177 : am_Body at_Ts at_P at_cl at_AO at_NL mt_177 := at_body at_PN at_PX (pG := [1291, 1293, 1287, 1292]) (pP := [1293]) (pN := []) (pA := []) (pK := []) (pC := []) (by decide +kernel) (by decide +kernel) (by decide +kernel) (by decide +kernel)
set_option maxRecDepth 100000 in
theorem ca_177 : am_Call at_Ts at_cl 60 mt_177 := at_call (KL := 60) (M := mt_177) (pc := 1700) (pi := 15) (ps := 0) (pn := 1699) (pl := 0) (pv := 79) (at_m8 (List.mem_of_getElem? (i := 20) rfl)) (by decide +kernel)
theorem bd_178 : am_Body at_Ts at_P at_cl at_AO at_NL mt_178 := at_body at_PN at_PX (pG := [1299, 1300, 1301, 1295, 1285, 1263, 1262, 1287, 1291, 1293]) (pP := [1301, 1295]) (pN := []) (pA := []) (pK := []) (pC := [1642, 1685, 1653, 1650, 1628, 1677, 1697, 1701, 1617, 1705, 1709]) (by decide +kernel) (by decide +kernel) (by decide +kernel) (by decide +kernel)
set_option maxRecDepth 100000 in
theorem ca_178 : am_Call at_Ts at_cl 60 mt_178 := at_call (KL := 60) (M := mt_178) (pc := 1684) (pi := 15) (ps := 0) (pn := 1683) (pl := 0) (pv := 75) (at_m8 (List.mem_of_getElem? (i := 4) rfl)) (by decide +kernel)
theorem bd_179 : am_Body at_Ts at_P at_cl at_AO at_NL mt_179 := at_body at_PN at_PX (pG := [1258, 1257, 1287, 1260, 1259, 1300, 1301, 1299]) (pP := [1301]) (pN := []) (pA := []) (pK := []) (pC := [1642, 1650, 1628, 1677, 1701, 1617]) (by decide +kernel) (by decide +kernel) (by decide +kernel) (by decide +kernel)
set_option maxRecDepth 100000 in
theorem ca_179 : am_Call at_Ts at_cl 60 mt_179 := at_call (KL := 60) (M := mt_179) (pc := 1708) (pi := 15) (ps := 0) (pn := 1707) (pl := 0) (pv := 81) (at_m8 (List.mem_of_getElem? (i := 28) rfl)) (by decide +kernel)
theorem bd_180 : am_Body at_Ts at_P at_cl at_AO at_NL mt_180 := at_body at_PN at_PX (pG := [1295, 1301, 1299, 1300, 1302]) (pP := [1301, 1295]) (pN := []) (pA := []) (pK := []) (pC := [1642, 1717, 1653, 1689, 1693]) (by decide +kernel) (by decide +kernel) (by decide +kernel) (by decide +kernel)
set_option maxRecDepth 100000 in
theorem ca_180 : am_Call at_Ts at_cl 60 mt_180 := at_call (KL := 60) (M := mt_180) (pc := 1716) (pi := 15) (ps := 0) (pn := 1715) (pl := 0) (pv := 83) (at_m8 (List.mem_of_getElem? (i := 36) rfl)) (by decide +kernel)
theorem bd_181 : am_Body at_Ts at_P at_cl at_AO at_NL mt_181 := at_body at_PN at_PX (pG := [1299, 1301, 1300, 1302]) (pP := [1301]) (pN := []) (pA := []) (pK := []) (pC := []) (by decide +kernel) (by decide +kernel) (by decide +kernel) (by decide +kernel)
set_option maxRecDepth 100000 in
theorem ca_181 : am_Call at_Ts at_cl 60 mt_181 := at_call (KL := 60) (M := mt_181) (pc := 1724) (pi := 15) (ps := 0) (pn := 1723) (pl := 0) (pv := 85) (at_m8 (List.mem_of_getElem? (i := 44) rfl)) (by decide +kernel)
theorem bd_182 : am_Body at_Ts at_P at_cl at_AO at_NL mt_182 := at_body at_PN at_PX (pG := [1285, 1298]) (pP := []) (pN := []) (pA := []) (pK := []) (pC := [1709, 1642, 1721, 1617, 1628, 1677, 1701, 1725, 1729]) (by decide +kernel) (by decide +kernel) (by decide +kernel) (by decide +kernel)
set_option maxRecDepth 100000 in
theorem ca_182 : am_Call at_Ts at_cl 60 mt_182 := at_call (KL := 60) (M := mt_182) (pc := 1720) (pi := 15) (ps := 0) (pn := 1719) (pl := 0) (pv := 84) (at_m8 (List.mem_of_getElem? (i := 40) rfl)) (by decide +kernel)
theorem bd_183 : am_Body at_Ts at_P at_cl at_AO at_NL mt_183 := at_body at_PN at_PX (pG := [1258, 1257, 1287, 1260, 1259]) (pP := []) (pN := []) (pA := []) (pK := []) (pC := [1650, 1628, 1642, 1677, 1701, 1721, 1617]) (by decide +kernel) (by decide +kernel) (by decide +kernel) (by decide +kernel)
set_option maxRecDepth 100000 in
theorem ca_183 : am_Call at_Ts at_cl 60 mt_183 := at_call (KL := 60) (M := mt_183) (pc := 1728) (pi := 15) (ps := 0) (pn := 1727) (pl := 0) (pv := 86) (at_m8 (List.mem_of_getElem? (i := 48) rfl)) (by decide +kernel)
theorem bd_184 : am_Body at_Ts at_P at_cl at_AO at_NL mt_184 := at_body at_PN at_PX (pG := [1263, 1262, 1287, 1264, 1266, 1291, 1293, 1298, 1292]) (pP := []) (pN := []) (pA := []) (pK := []) (pC := [1650, 1628, 1642, 1677, 1701, 1721, 1617, 1697]) (by decide +kernel) (by decide +kernel) (by decide +kernel) (by decide +kernel)
set_option maxRecDepth 100000 in
theorem ca_184 : am_Call at_Ts at_cl 60 mt_184 := at_call (KL := 60) (M := mt_184) (pc := 1732) (pi := 15) (ps := 0) (pn := 1731) (pl := 0) (pv := 87) (at_m8 (List.mem_of_getElem? (i := 52) rfl)) (by decide +kernel)
theorem bd_185 : am_Body at_Ts at_P at_cl at_AO at_NL mt_185 := at_body at_PN at_PX (pG := []) (pP := [1293, 1294, 1295, 1297]) (pN := []) (pA := []) (pK := []) (pC := []) (by decide +kernel) (by decide +kernel) (by decide +kernel) (by decide +kernel)
set_option maxRecDepth 100000 in
theorem ca_185 : am_Call at_Ts at_cl 60 mt_185 := at_call (KL := 60) (M := mt_185) (pc := 1676) (pi := 15) (ps := 0) (pn := 1675) (pl := 0) (pv := 73) (at_m7 (List.mem_of_getElem? (i := 236) rfl)) (by decide +kernel)
theorem bd_186 : am_Body at_Ts at_P at_cl at_AO at_NL mt_186 := at_body at_PN at_PX (pG := [1267, 1285, 1263, 1262, 1287, 1268, 1270, 1297, 1269, 1296, 1266, 1272, 1271]) (pP := [1298, 1294, 1295, 1297, 1267]) (pN := []) (pA := []) (pK := []) (pC := [1628, 1617, 1642, 1650, 1673, 1677, 1681, 1653, 1713]) (by decide +kernel) (by decide +kernel) (by decide +kernel) (by decide +kernel)
set_option maxRecDepth 100000 in
theorem ca_186 : am_Call at_Ts at_cl 60 mt_186 := at_call (KL := 60) (M := mt_186) (pc := 1672) (pi := 15) (ps := 0) (pn := 1671) (pl := 0) (pv := 72) (at_m7 (List.mem_of_getElem? (i := 232) rfl)) (by decide +kernel)
theorem bd_187 : am_Body at_Ts at_P at_cl at_AO at_NL mt_187 := at_body at_PN at_PX (pG := [1285, 1274, 1273, 1287, 1277, 1278, 1293, 1279, 1292, 1280]) (pP := [1298, 1294, 1295, 1297, 1273]) (pN := []) (pA := []) (pK := []) (pC := [1617, 1642, 1628, 1650, 1653, 1673, 1713, 1737]) (by decide +kernel) (by decide +kernel) (by decide +kernel) (by decide +kernel)
set_option maxRecDepth 100000 in
theorem ca_187 : am_Call at_Ts at_cl 60 mt_187 := at_call (KL := 60) (M := mt_187) (pc := 1736) (pi := 15) (ps := 0) (pn := 1735) (pl := 0) (pv := 88) (at_m8 (List.mem_of_getElem? (i := 56) rfl)) (by decide +kernel)
theorem bd_188 : am_Body at_Ts at_P at_cl at_AO at_NL mt_188 := at_body at_PN at_PX (pG := [1297, 1275, 1296, 1276]) (pP := []) (pN := []) (pA := []) (pK := []) (pC := [1642]) (by decide +kernel) (by decide +kernel) (by decide +kernel) (by decide +kernel)
set_option maxRecDepth 100000 in
theorem ca_188 : am_Call at_Ts at_cl 60 mt_188 := at_call (KL := 60) (M := mt_188) (pc := 1740) (pi := 15) (ps := 0) (pn := 1739) (pl := 0) (pv := 89) (at_m8 (List.mem_of_getElem? (i := 60) rfl)) (by decide +kernel)
theorem bd_189 : am_Body at_Ts at_P at_cl at_AO at_NL mt_189 := at_body at_PN at_PX (pG := [1282, 1281]) (pP := [1254, 1282]) (pN := []) (pA := []) (pK := []) (pC := []) (by decide +kernel) (by decide +kernel) (by decide +kernel) (by decide +kernel)
set_option maxRecDepth 100000 in
theorem ca_189 : am_Call at_Ts at_cl 60 mt_189 := at_call (KL := 60) (M := mt_189) (pc := 1604) (pi := 15) (ps := 0) (pn := 1602) (pl := 1603) (pv := 0) (at_m7 (List.mem_of_getElem? (i := 164) rfl)) (by decide +kernel)
theorem bd_190 : am_Body at_Ts at_P at_cl at_AO at_NL mt_190 := at_body at_PN at_PX (pG := [1282]) (pP := [1254, 1282]) (pN := []) (pA := []) (pK := []) (pC := []) (by decide +kernel) (by decide +kernel) (by decide +kernel) (by decide +kernel)
set_option maxRecDepth 100000 in
theorem ca_190 : am_Call at_Ts at_cl 60 mt_190 := at_call (KL := 60) (M := mt_190) (pc := 1608) (pi := 15) (ps := 0) (pn := 1606) (pl := 1607) (pv := 0) (at_m7 (List.mem_of_getElem? (i := 168) rfl)) (by decide +kernel)
theorem bd_191 : am_Body at_Ts at_P at_cl at_AO at_NL mt_191 := at_body at_PN at_PX (pG := [1282]) (pP := [1283, 1282, 1284, 1289]) (pN := []) (pA := []) (pK := []) (pC := [1617]) (by decide +kernel) (by decide +kernel) (by decide +kernel) (by decide +kernel)
set_option maxRecDepth 100000 in
theorem ca_191 : am_Call at_Ts at_cl 60 mt_191 := at_call (KL := 60) (M := mt_191) (pc := 1616) (pi := 15) (ps := 0) (pn := 1615) (pl := 0) (pv := 61) (at_m7 (List.mem_of_getElem? (i := 176) rfl)) (by decide +kernel)
theorem bd_192 : am_Body at_Ts at_P at_cl at_AO at_NL mt_192 := at_body at_PN at_PX (pG := [1255, 1257, 1262, 1267, 1273, 1285, 1289, 1290, 1280]) (pP := [1255, 1257, 1262, 1267, 1273, 1288, 1328, 1331, 1330]) (pN := []) (pA := []) (pK := []) (pC := [1613, 1642, 1646, 1665, 1669, 1733, 1628, 1617]) (by decide +kernel) (by decide +kernel) (by decide +kernel) (by decide +kernel)
set_option maxRecDepth 100000 in
theorem ca_192 : am_Call at_Ts at_cl 60 mt_192 := at_call (KL := 60) (M := mt_192) (pc := 1612) (pi := 15) (ps := 0) (pn := 1610) (pl := 1611) (pv := 0) (at_m7 (List.mem_of_getElem? (i := 172) rfl)) (by decide +kernel)
