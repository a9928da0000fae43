/-! what a program decides of each method -/
theorem bd_193 : am_Body at_Ts at_P at_cl at_AO at_NL mt_193 := at_body at_PN at_PX (pG := [1288]) (pP := []) (pN := []) (pA := []) (pK := []) (pC := []) (by decide +kernel) (by decide +kernel) (by decide +kernel) (by decide +kernel)
set_option maxRecDepth 100000 in
theorem ca_193 : am_Call at_Ts at_cl 60 mt_193 := at_call (KL := 60) (M := mt_193) (pc := 1744) (pi := 15) (ps := 0) (pn := 1742) (pl := 1743) (pv := 0) (at_m8 (List.mem_of_getElem? (i := 64) rfl)) (by decide +kernel)
theorem bd_194 : am_Body at_Ts at_P at_cl at_AO at_NL mt_194 := at_body at_PN at_PX (pG := [1255, 1257, 1262, 1267, 1273, 1331, 1330, 1339]) (pP := []) (pN := []) (pA := []) (pK := []) (pC := []) (by decide +kernel) (by decide +kernel) (by decide +kernel) (by decide +kernel)
set_option maxRecDepth 100000 in
theorem ca_194 : am_Call at_Ts at_cl 60 mt_194 := at_call (KL := 60) (M := mt_194) (pc := 1748) (pi := 15) (ps := 0) (pn := 1746) (pl := 1747) (pv := 0) (at_m8 (List.mem_of_getElem? (i := 68) rfl)) (by decide +kernel)
theorem bd_195 : am_Body at_Ts at_P at_cl at_AO at_NL mt_195 := at_body at_PN at_PX (pG := [1273, 1280, 1278, 1276]) (pP := []) (pN := []) (pA := []) (pK := []) (pC := []) (by decide +kernel) (by decide +kernel) (by decide +kernel) (by decide +kernel)
set_option maxRecDepth 100000 in
theorem ca_195 : am_Call at_Ts at_cl 60 mt_195 := at_call (KL := 60) (M := mt_195) (pc := 1752) (pi := 15) (ps := 0) (pn := 1750) (pl := 1751) (pv := 0) (at_m8 (List.mem_of_getElem? (i := 72) rfl)) (by decide +kernel)
theorem bd_196 : am_Body at_Ts at_P at_cl at_AO at_NL mt_196 := at_body at_PN at_PX (pG := [1267, 1268]) (pP := [1305]) (pN := []) (pA := []) (pK := []) (pC := [1768]) (by decide +kernel) (by decide +kernel) (by decide +kernel) (by decide +kernel)
set_option maxRecDepth 100000 in
theorem ca_196 : am_Call at_Ts at_cl 60 mt_196 := at_call (KL := 60) (M := mt_196) (pc := 1767) (pi := 15) (ps := 0) (pn := 1766) (pl := 0) (pv := 91) (at_m8 (List.mem_of_getElem? (i := 87) rfl)) (by decide +kernel)
theorem bd_197 : am_Body at_Ts at_P at_cl at_AO at_NL mt_197 := at_body at_PN at_PX (pG := [1270, 1269, 1303]) (pP := [1304]) (pN := []) (pA := []) (pK := []) (pC := [1772, 1776]) (by decide +kernel) (by decide +kernel) (by decide +kernel) (by decide +kernel)
set_option maxRecDepth 100000 in
theorem ca_197 : am_Call at_Ts at_cl 60 mt_197 := at_call (KL := 60) (M := mt_197) (pc := 1771) (pi := 15) (ps := 0) (pn := 1770) (pl := 0) (pv := 92) (at_m8 (List.mem_of_getElem? (i := 91) rfl)) (by decide +kernel)
theorem bd_198 : am_Body at_Ts at_P at_cl at_AO at_NL mt_198 := at_body at_PN at_PX (pG := [1306, 1307]) (pP := [1307]) (pN := []) (pA := []) (pK := []) (pC := []) (by decide +kernel) (by decide +kernel) (by decide +kernel) (by decide +kernel)
set_option maxRecDepth 100000 in
theorem ca_198 : am_Call at_Ts at_cl 60 mt_198 := at_call (KL := 60) (M := mt_198) (pc := 1786) (pi := 15) (ps := 0) (pn := 1785) (pl := 0) (pv := 95) (at_m8 (List.mem_of_getElem? (i := 106) rfl)) (by decide +kernel)
theorem bd_199 : am_Body at_Ts at_P at_cl at_AO at_NL mt_199 := at_body at_PN at_PX (pG := [1306, 1307, 1305, 1272, 1271, 1303]) (pP := [1307]) (pN := []) (pA := []) (pK := []) (pC := [1783, 1772]) (by decide +kernel) (by decide +kernel) (by decide +kernel) (by decide +kernel)
set_option maxRecDepth 100000 in
theorem ca_199 : am_Call at_Ts at_cl 60 mt_199 := at_call (KL := 60) (M := mt_199) (pc := 1782) (pi := 15) (ps := 0) (pn := 1781) (pl := 0) (pv := 94) (at_m8 (List.mem_of_getElem? (i := 102) rfl)) (by decide +kernel)
theorem bd_200 : am_Body at_Ts at_P at_cl at_AO at_NL mt_200 := at_body at_PN at_PX (pG := [1309, 1308, 1310, 1304, 1307, 1306]) (pP := [1310, 1309]) (pN := []) (pA := []) (pK := []) (pC := [1761, 1764, 1779]) (by decide +kernel) (by decide +kernel) (by decide +kernel) (by decide +kernel)
set_option maxRecDepth 100000 in
theorem ca_200 : am_Call at_Ts at_cl 60 mt_200 := at_call (KL := 60) (M := mt_200) (pc := 1760) (pi := 15) (ps := 0) (pn := 1759) (pl := 0) (pv := 90) (at_m8 (List.mem_of_getElem? (i := 80) rfl)) (by decide +kernel)
theorem bd_201 : am_Body at_Ts at_P at_cl at_AO at_NL mt_201 := at_body at_PN at_PX (pG := [1285, 1289, 1290, 1297, 1308, 1296, 1310]) (pP := [1282, 1298, 1288, 1309, 1311]) (pN := []) (pA := []) (pK := []) (pC := [1613, 1673, 1642, 1713, 1628, 1757, 1787]) (by decide +kernel) (by decide +kernel) (by decide +kernel) (by decide +kernel)
set_option maxRecDepth 100000 in
theorem ca_201 : am_Call at_Ts at_cl 60 mt_201 := at_call (KL := 60) (M := mt_201) (pc := 1756) (pi := 15) (ps := 0) (pn := 1754) (pl := 1755) (pv := 0) (at_m8 (List.mem_of_getElem? (i := 76) rfl)) (by decide +kernel)
theorem bd_202 : am_Body at_Ts at_P at_cl at_AO at_NL mt_202 := at_body at_PN at_PX (pG := [1311]) (pP := []) (pN := []) (pA := []) (pK := []) (pC := []) (by decide +kernel) (by decide +kernel) (by decide +kernel) (by decide +kernel)
set_option maxRecDepth 100000 in
theorem ca_202 : am_Call at_Ts at_cl 60 mt_202 := at_call (KL := 60) (M := mt_202) (pc := 1806) (pi := 15) (ps := 0) (pn := 1804) (pl := 1805) (pv := 0) (at_m8 (List.mem_of_getElem? (i := 126) rfl)) (by decide +kernel)
theorem bd_203 : am_Body at_Ts at_P at_cl at_AO at_NL mt_203 := at_body at_PN at_PX (pG := [1312, 1313]) (pP := [1313]) (pN := []) (pA := []) (pK := []) (pC := []) (by decide +kernel) (by decide +kernel) (by decide +kernel) (by decide +kernel)
set_option maxRecDepth 100000 in
theorem ca_203 : am_Call at_Ts at_cl 60 mt_203 := at_call (KL := 60) (M := mt_203) (pc := 1794) (pi := 15) (ps := 0) (pn := 1793) (pl := 0) (pv := 97) (at_m8 (List.mem_of_getElem? (i := 114) rfl)) (by decide +kernel)
theorem bd_204 : am_Body at_Ts at_P at_cl at_AO at_NL mt_204 := at_body at_PN at_PX (pG := []) (pP := []) (pN := []) (pA := []) (pK := []) (pC := [1791]) (by decide +kernel) (by decide +kernel) (by decide +kernel) (by decide +kernel)
set_option maxRecDepth 100000 in
theorem ca_204 : am_Call at_Ts at_cl 60 mt_204 := at_call (KL := 60) (M := mt_204) (pc := 1802) (pi := 15) (ps := 0) (pn := 1801) (pl := 0) (pv := 99) (at_m8 (List.mem_of_getElem? (i := 122) rfl)) (by decide +kernel)
theorem bd_205 : am_Body at_Ts at_P at_cl at_AO at_NL mt_205 := at_body at_PN at_PX (pG := []) (pP := []) (pN := []) (pA := []) (pK := []) (pC := [1791]) (by decide +kernel) (by decide +kernel) (by decide +kernel) (by decide +kernel)
set_option maxRecDepth 100000 in
theorem ca_205 : am_Call at_Ts at_cl 60 mt_205 := at_call (KL := 60) (M := mt_205) (pc := 1798) (pi := 15) (ps := 0) (pn := 1797) (pl := 0) (pv := 98) (at_m8 (List.mem_of_getElem? (i := 118) rfl)) (by decide +kernel)
theorem bd_206 : am_Body at_Ts at_P at_cl at_AO at_NL mt_206 := at_body at_PN at_PX (pG := [1313, 1263, 1258, 1314, 1315]) (pP := [1313]) (pN := []) (pA := []) (pK := []) (pC := [1772, 1689, 1791, 1795, 1799]) (by decide +kernel) (by decide +kernel) (by decide +kernel) (by decide +kernel)
set_option maxRecDepth 100000 in
theorem ca_206 : am_Call at_Ts at_cl 60 mt_206 := at_call (KL := 60) (M := mt_206) (pc := 1790) (pi := 15) (ps := 0) (pn := 1789) (pl := 0) (pv := 96) (at_m8 (List.mem_of_getElem? (i := 110) rfl)) (by decide +kernel)
theorem bd_207 : am_Body at_Ts at_P at_cl at_AO at_NL mt_207 := at_body at_PN at_PX (pG := [1313, 1312]) (pP := []) (pN := []) (pA := []) (pK := []) (pC := []) (by decide +kernel) (by decide +kernel) (by decide +kernel) (by decide +kernel)
set_option maxRecDepth 100000 in
theorem ca_207 : am_Call at_Ts at_cl 60 mt_207 := at_call (KL := 60) (M := mt_207) (pc := 1810) (pi := 15) (ps := 0) (pn := 1808) (pl := 1809) (pv := 0) (at_m8 (List.mem_of_getElem? (i := 130) rfl)) (by decide +kernel)
theorem bd_208 : am_Body at_Ts at_P at_cl at_AO at_NL mt_208 := at_body at_PN at_PX (pG := []) (pP := []) (pN := []) (pA := []) (pK := [1826]) (pC := []) (by decide +kernel) (by decide +kernel) (by decide +kernel) (by decide +kernel)
set_option maxRecDepth 100000 in
theorem ca_208 : am_Call at_Ts at_cl 60 mt_208 := at_call (KL := 60) (M := mt_208) (pc := 1825) (pi := 15) (ps := 1824) (pn := 0) (pl := 0) (pv := 0) (at_m8 (List.mem_of_getElem? (i := 145) rfl)) (by decide +kernel)
theorem bd_209 : am_Body at_Ts at_P at_cl at_AO at_NL mt_209 := at_body at_PN at_PX (pG := [1319, 1255, 1257, 1259]) (pP := []) (pN := []) (pA := []) (pK := []) (pC := [1819, 1823]) (by decide +kernel) (by decide +kernel) (by decide +kernel) (by decide +kernel)
set_option maxRecDepth 100000 in
theorem ca_209 : am_Call at_Ts at_cl 60 mt_209 := at_call (KL := 60) (M := mt_209) (pc := 1818) (pi := 15) (ps := 0) (pn := 1817) (pl := 0) (pv := 100) (at_m8 (List.mem_of_getElem? (i := 138) rfl)) (by decide +kernel)
theorem bd_210 : am_Body at_Ts at_P at_cl at_AO at_NL mt_210 := at_body at_PN at_PX (pG := [1260, 1319, 1261]) (pP := []) (pN := []) (pA := []) (pK := []) (pC := [1823]) (by decide +kernel) (by decide +kernel) (by decide +kernel) (by decide +kernel)
set_option maxRecDepth 100000 in
theorem ca_210 : am_Call at_Ts at_cl 60 mt_210 := at_call (KL := 60) (M := mt_210) (pc := 1822) (pi := 15) (ps := 0) (pn := 1821) (pl := 0) (pv := 101) (at_m8 (List.mem_of_getElem? (i := 142) rfl)) (by decide +kernel)
theorem bd_211 : am_Body at_Ts at_P at_cl at_AO at_NL mt_211 := at_body at_PN at_PX (pG := [1318, 1317, 1316, 1306]) (pP := []) (pN := []) (pA := []) (pK := []) (pC := []) (by decide +kernel) (by decide +kernel) (by decide +kernel) (by decide +kernel)
set_option maxRecDepth 100000 in
theorem ca_211 : am_Call at_Ts at_cl 60 mt_211 := at_call (KL := 60) (M := mt_211) (pc := 1835) (pi := 15) (ps := 0) (pn := 1834) (pl := 0) (pv := 103) (at_m8 (List.mem_of_getElem? (i := 155) rfl)) (by decide +kernel)
theorem bd_212 : am_Body at_Ts at_P at_cl at_AO at_NL mt_212 := at_body at_PN at_PX (pG := [1255, 1318, 1320, 1306, 1257, 1259]) (pP := []) (pN := []) (pA := []) (pK := []) (pC := [1832, 1836]) (by decide +kernel) (by decide +kernel) (by decide +kernel) (by decide +kernel)
set_option maxRecDepth 100000 in
theorem ca_212 : am_Call at_Ts at_cl 60 mt_212 := at_call (KL := 60) (M := mt_212) (pc := 1831) (pi := 15) (ps := 0) (pn := 1830) (pl := 0) (pv := 102) (at_m8 (List.mem_of_getElem? (i := 151) rfl)) (by decide +kernel)
theorem bd_213 : am_Body at_Ts at_P at_cl at_AO at_NL mt_213 := at_body at_PN at_PX (pG := [1317, 1261]) (pP := []) (pN := []) (pA := []) (pK := []) (pC := []) (by decide +kernel) (by decide +kernel) (by decide +kernel) (by decide +kernel)
set_option maxRecDepth 100000 in
theorem ca_213 : am_Call at_Ts at_cl 60 mt_213 := at_call (KL := 60) (M := mt_213) (pc := 1843) (pi := 15) (ps := 0) (pn := 1842) (pl := 0) (pv := 105) (at_m8 (List.mem_of_getElem? (i := 163) rfl)) (by decide +kernel)
theorem bd_214 : am_Body at_Ts at_P at_cl at_AO at_NL mt_214 := at_body at_PN at_PX (pG := [1261, 1317, 1306, 1307, 1316]) (pP := [1307]) (pN := []) (pA := []) (pK := []) (pC := []) (by decide +kernel) (by decide +kernel) (by decide +kernel) (by decide +kernel)
set_option maxRecDepth 100000 in
theorem ca_214 : am_Call at_Ts at_cl 60 mt_214 := at_call (KL := 60) (M := mt_214) (pc := 1851) (pi := 15) (ps := 0) (pn := 1850) (pl := 0) (pv := 107) (at_m8 (List.mem_of_getElem? (i := 171) rfl)) (by decide +kernel)
theorem bd_215 : am_Body at_Ts at_P at_cl at_AO at_NL mt_215 := at_body at_PN at_PX (pG := [1260, 1306, 1320, 1261]) (pP := []) (pN := []) (pA := []) (pK := []) (pC := [1832, 1840, 1844, 1852]) (by decide +kernel) (by decide +kernel) (by decide +kernel) (by decide +kernel)
set_option maxRecDepth 100000 in
theorem ca_215 : am_Call at_Ts at_cl 60 mt_215 := at_call (KL := 60) (M := mt_215) (pc := 1839) (pi := 15) (ps := 0) (pn := 1838) (pl := 0) (pv := 104) (at_m8 (List.mem_of_getElem? (i := 159) rfl)) (by decide +kernel)
theorem bd_216 : am_Body at_Ts at_P at_cl at_AO at_NL mt_216 := at_body at_PN at_PX (pG := [1306]) (pP := [1307]) (pN := []) (pA := []) (pK := []) (pC := [1848]) (by decide +kernel) (by decide +kernel) (by decide +kernel) (by decide +kernel)
set_option maxRecDepth 100000 in
theorem ca_216 : am_Call at_Ts at_cl 60 mt_216 := at_call (KL := 60) (M := mt_216) (pc := 1847) (pi := 15) (ps := 0) (pn := 1846) (pl := 0) (pv := 106) (at_m8 (List.mem_of_getElem? (i := 167) rfl)) (by decide +kernel)
theorem bd_217 : am_Body at_Ts at_P at_cl at_AO at_NL mt_217 := at_body at_PN at_PX (pG := [1260, 1320, 1261]) (pP := []) (pN := []) (pA := []) (pK := []) (pC := [1840, 1844, 1848, 1832]) (by decide +kernel) (by decide +kernel) (by decide +kernel) (by decide +kernel)
set_option maxRecDepth 100000 in
theorem ca_217 : am_Call at_Ts at_cl 60 mt_217 := at_call (KL := 60) (M := mt_217) (pc := 1855) (pi := 15) (ps := 0) (pn := 1854) (pl := 0) (pv := 108) (at_m8 (List.mem_of_getElem? (i := 175) rfl)) (by decide +kernel)
