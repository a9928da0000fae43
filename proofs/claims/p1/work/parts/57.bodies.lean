/-! what a program decides of each method -/
theorem bd_192 : am_Body at_Ts at_P at_cl at_AO at_NL mt_192 := at_body at_PN at_PX (pG := [1256, 1258, 1263, 1268, 1274, 1286, 1290, 1291, 1281]) (pP := [1256, 1258, 1263, 1268, 1274, 1289, 1329, 1332, 1331]) (pN := []) (pA := []) (pK := []) (pC := [1618, 1647, 1651, 1670, 1674, 1738, 1633, 1622]) (by decide +kernel) (by decide +kernel) (by decide +kernel) (by decide +kernel)
set_option maxRecDepth 100000 in
theorem ca_192 : am_Call at_Ts at_cl 60 mt_192 := at_call (KL := 60) (M := mt_192) (pc := 1617) (pi := 15) (ps := 0) (pn := 1615) (pl := 1616) (pv := 0) (at_m7 (List.mem_of_getElem? (i := 177) rfl)) (by decide +kernel)
theorem bd_193 : am_Body at_Ts at_P at_cl at_AO at_NL mt_193 := at_body at_PN at_PX (pG := [1289]) (pP := []) (pN := []) (pA := []) (pK := []) (pC := []) (by decide +kernel) (by decide +kernel) (by decide +kernel) (by decide +kernel)
set_option maxRecDepth 100000 in
theorem ca_193 : am_Call at_Ts at_cl 60 mt_193 := at_call (KL := 60) (M := mt_193) (pc := 1749) (pi := 15) (ps := 0) (pn := 1747) (pl := 1748) (pv := 0) (at_m8 (List.mem_of_getElem? (i := 69) rfl)) (by decide +kernel)
theorem bd_194 : am_Body at_Ts at_P at_cl at_AO at_NL mt_194 := at_body at_PN at_PX (pG := [1256, 1258, 1263, 1268, 1274, 1332, 1331, 1340]) (pP := []) (pN := []) (pA := []) (pK := []) (pC := []) (by decide +kernel) (by decide +kernel) (by decide +kernel) (by decide +kernel)
set_option maxRecDepth 100000 in
theorem ca_194 : am_Call at_Ts at_cl 60 mt_194 := at_call (KL := 60) (M := mt_194) (pc := 1753) (pi := 15) (ps := 0) (pn := 1751) (pl := 1752) (pv := 0) (at_m8 (List.mem_of_getElem? (i := 73) rfl)) (by decide +kernel)
theorem bd_195 : am_Body at_Ts at_P at_cl at_AO at_NL mt_195 := at_body at_PN at_PX (pG := [1274, 1281, 1279, 1277]) (pP := []) (pN := []) (pA := []) (pK := []) (pC := []) (by decide +kernel) (by decide +kernel) (by decide +kernel) (by decide +kernel)
set_option maxRecDepth 100000 in
theorem ca_195 : am_Call at_Ts at_cl 60 mt_195 := at_call (KL := 60) (M := mt_195) (pc := 1757) (pi := 15) (ps := 0) (pn := 1755) (pl := 1756) (pv := 0) (at_m8 (List.mem_of_getElem? (i := 77) rfl)) (by decide +kernel)
theorem bd_196 : am_Body at_Ts at_P at_cl at_AO at_NL mt_196 := at_body at_PN at_PX (pG := [1268, 1269]) (pP := [1306]) (pN := []) (pA := []) (pK := []) (pC := [1773]) (by decide +kernel) (by decide +kernel) (by decide +kernel) (by decide +kernel)
set_option maxRecDepth 100000 in
theorem ca_196 : am_Call at_Ts at_cl 60 mt_196 := at_call (KL := 60) (M := mt_196) (pc := 1772) (pi := 15) (ps := 0) (pn := 1771) (pl := 0) (pv := 91) (at_m8 (List.mem_of_getElem? (i := 92) rfl)) (by decide +kernel)
theorem bd_197 : am_Body at_Ts at_P at_cl at_AO at_NL mt_197 := at_body at_PN at_PX (pG := [1271, 1270, 1304]) (pP := [1305]) (pN := []) (pA := []) (pK := []) (pC := [1777, 1781]) (by decide +kernel) (by decide +kernel) (by decide +kernel) (by decide +kernel)
set_option maxRecDepth 100000 in
theorem ca_197 : am_Call at_Ts at_cl 60 mt_197 := at_call (KL := 60) (M := mt_197) (pc := 1776) (pi := 15) (ps := 0) (pn := 1775) (pl := 0) (pv := 92) (at_m8 (List.mem_of_getElem? (i := 96) rfl)) (by decide +kernel)
theorem bd_198 : am_Body at_Ts at_P at_cl at_AO at_NL mt_198 := at_body at_PN at_PX (pG := [1307, 1308]) (pP := [1308]) (pN := []) (pA := []) (pK := []) (pC := []) (by decide +kernel) (by decide +kernel) (by decide +kernel) (by decide +kernel)
set_option maxRecDepth 100000 in
theorem ca_198 : am_Call at_Ts at_cl 60 mt_198 := at_call (KL := 60) (M := mt_198) (pc := 1791) (pi := 15) (ps := 0) (pn := 1790) (pl := 0) (pv := 95) (at_m8 (List.mem_of_getElem? (i := 111) rfl)) (by decide +kernel)
theorem bd_199 : am_Body at_Ts at_P at_cl at_AO at_NL mt_199 := at_body at_PN at_PX (pG := [1307, 1308, 1306, 1273, 1272, 1304]) (pP := [1308]) (pN := []) (pA := []) (pK := []) (pC := [1788, 1777]) (by decide +kernel) (by decide +kernel) (by decide +kernel) (by decide +kernel)
set_option maxRecDepth 100000 in
theorem ca_199 : am_Call at_Ts at_cl 60 mt_199 := at_call (KL := 60) (M := mt_199) (pc := 1787) (pi := 15) (ps := 0) (pn := 1786) (pl := 0) (pv := 94) (at_m8 (List.mem_of_getElem? (i := 107) rfl)) (by decide +kernel)
theorem bd_200 : am_Body at_Ts at_P at_cl at_AO at_NL mt_200 := at_body at_PN at_PX (pG := [1310, 1309, 1311, 1305, 1308, 1307]) (pP := [1311, 1310]) (pN := []) (pA := []) (pK := []) (pC := [1766, 1769, 1784]) (by decide +kernel) (by decide +kernel) (by decide +kernel) (by decide +kernel)
set_option maxRecDepth 100000 in
theorem ca_200 : am_Call at_Ts at_cl 60 mt_200 := at_call (KL := 60) (M := mt_200) (pc := 1765) (pi := 15) (ps := 0) (pn := 1764) (pl := 0) (pv := 90) (at_m8 (List.mem_of_getElem? (i := 85) rfl)) (by decide +kernel)
theorem bd_201 : am_Body at_Ts at_P at_cl at_AO at_NL mt_201 := at_body at_PN at_PX (pG := [1286, 1290, 1291, 1298, 1309, 1297, 1311]) (pP := [1283, 1299, 1289, 1310, 1312]) (pN := []) (pA := []) (pK := []) (pC := [1618, 1678, 1647, 1718, 1633, 1762, 1792]) (by decide +kernel) (by decide +kernel) (by decide +kernel) (by decide +kernel)
set_option maxRecDepth 100000 in
theorem ca_201 : am_Call at_Ts at_cl 60 mt_201 := at_call (KL := 60) (M := mt_201) (pc := 1761) (pi := 15) (ps := 0) (pn := 1759) (pl := 1760) (pv := 0) (at_m8 (List.mem_of_getElem? (i := 81) rfl)) (by decide +kernel)
theorem bd_202 : am_Body at_Ts at_P at_cl at_AO at_NL mt_202 := at_body at_PN at_PX (pG := [1312]) (pP := []) (pN := []) (pA := []) (pK := []) (pC := []) (by decide +kernel) (by decide +kernel) (by decide +kernel) (by decide +kernel)
set_option maxRecDepth 100000 in
theorem ca_202 : am_Call at_Ts at_cl 60 mt_202 := at_call (KL := 60) (M := mt_202) (pc := 1811) (pi := 15) (ps := 0) (pn := 1809) (pl := 1810) (pv := 0) (at_m8 (List.mem_of_getElem? (i := 131) rfl)) (by decide +kernel)
theorem bd_203 : am_Body at_Ts at_P at_cl at_AO at_NL mt_203 := at_body at_PN at_PX (pG := [1313, 1314]) (pP := [1314]) (pN := []) (pA := []) (pK := []) (pC := []) (by decide +kernel) (by decide +kernel) (by decide +kernel) (by decide +kernel)
set_option maxRecDepth 100000 in
theorem ca_203 : am_Call at_Ts at_cl 60 mt_203 := at_call (KL := 60) (M := mt_203) (pc := 1799) (pi := 15) (ps := 0) (pn := 1798) (pl := 0) (pv := 97) (at_m8 (List.mem_of_getElem? (i := 119) rfl)) (by decide +kernel)
theorem bd_204 : am_Body at_Ts at_P at_cl at_AO at_NL mt_204 := at_body at_PN at_PX (pG := []) (pP := []) (pN := []) (pA := []) (pK := []) (pC := [1796]) (by decide +kernel) (by decide +kernel) (by decide +kernel) (by decide +kernel)
set_option maxRecDepth 100000 in
theorem ca_204 : am_Call at_Ts at_cl 60 mt_204 := at_call (KL := 60) (M := mt_204) (pc := 1807) (pi := 15) (ps := 0) (pn := 1806) (pl := 0) (pv := 99) (at_m8 (List.mem_of_getElem? (i := 127) rfl)) (by decide +kernel)
theorem bd_205 : am_Body at_Ts at_P at_cl at_AO at_NL mt_205 := at_body at_PN at_PX (pG := []) (pP := []) (pN := []) (pA := []) (pK := []) (pC := [1796]) (by decide +kernel) (by decide +kernel) (by decide +kernel) (by decide +kernel)
set_option maxRecDepth 100000 in
theorem ca_205 : am_Call at_Ts at_cl 60 mt_205 := at_call (KL := 60) (M := mt_205) (pc := 1803) (pi := 15) (ps := 0) (pn := 1802) (pl := 0) (pv := 98) (at_m8 (List.mem_of_getElem? (i := 123) rfl)) (by decide +kernel)
theorem bd_206 : am_Body at_Ts at_P at_cl at_AO at_NL mt_206 := at_body at_PN at_PX (pG := [1314, 1264, 1259, 1315, 1316]) (pP := [1314]) (pN := []) (pA := []) (pK := []) (pC := [1777, 1694, 1796, 1800, 1804]) (by decide +kernel) (by decide +kernel) (by decide +kernel) (by decide +kernel)
set_option maxRecDepth 100000 in
theorem ca_206 : am_Call at_Ts at_cl 60 mt_206 := at_call (KL := 60) (M := mt_206) (pc := 1795) (pi := 15) (ps := 0) (pn := 1794) (pl := 0) (pv := 96) (at_m8 (List.mem_of_getElem? (i := 115) rfl)) (by decide +kernel)
theorem bd_207 : am_Body at_Ts at_P at_cl at_AO at_NL mt_207 := at_body at_PN at_PX (pG := [1314, 1313]) (pP := []) (pN := []) (pA := []) (pK := []) (pC := []) (by decide +kernel) (by decide +kernel) (by decide +kernel) (by decide +kernel)
set_option maxRecDepth 100000 in
theorem ca_207 : am_Call at_Ts at_cl 60 mt_207 := at_call (KL := 60) (M := mt_207) (pc := 1815) (pi := 15) (ps := 0) (pn := 1813) (pl := 1814) (pv := 0) (at_m8 (List.mem_of_getElem? (i := 135) rfl)) (by decide +kernel)
theorem bd_208 : am_Body at_Ts at_P at_cl at_AO at_NL mt_208 := at_body at_PN at_PX (pG := []) (pP := []) (pN := []) (pA := []) (pK := [1831]) (pC := []) (by decide +kernel) (by decide +kernel) (by decide +kernel) (by decide +kernel)
set_option maxRecDepth 100000 in
theorem ca_208 : am_Call at_Ts at_cl 60 mt_208 := at_call (KL := 60) (M := mt_208) (pc := 1830) (pi := 15) (ps := 1829) (pn := 0) (pl := 0) (pv := 0) (at_m8 (List.mem_of_getElem? (i := 150) rfl)) (by decide +kernel)
theorem bd_209 : am_Body at_Ts at_P at_cl at_AO at_NL mt_209 := at_body at_PN at_PX (pG := [1320, 1256, 1258, 1260]) (pP := []) (pN := []) (pA := []) (pK := []) (pC := [1824, 1828]) (by decide +kernel) (by decide +kernel) (by decide +kernel) (by decide +kernel)
set_option maxRecDepth 100000 in
theorem ca_209 : am_Call at_Ts at_cl 60 mt_209 := at_call (KL := 60) (M := mt_209) (pc := 1823) (pi := 15) (ps := 0) (pn := 1822) (pl := 0) (pv := 100) (at_m8 (List.mem_of_getElem? (i := 143) rfl)) (by decide +kernel)
theorem bd_210 : am_Body at_Ts at_P at_cl at_AO at_NL mt_210 := at_body at_PN at_PX (pG := [1261, 1320, 1262]) (pP := []) (pN := []) (pA := []) (pK := []) (pC := [1828]) (by decide +kernel) (by decide +kernel) (by decide +kernel) (by decide +kernel)
set_option maxRecDepth 100000 in
theorem ca_210 : am_Call at_Ts at_cl 60 mt_210 := at_call (KL := 60) (M := mt_210) (pc := 1827) (pi := 15) (ps := 0) (pn := 1826) (pl := 0) (pv := 101) (at_m8 (List.mem_of_getElem? (i := 147) rfl)) (by decide +kernel)
theorem bd_211 : am_Body at_Ts at_P at_cl at_AO at_NL mt_211 := at_body at_PN at_PX (pG := [1319, 1318, 1317, 1307]) (pP := []) (pN := []) (pA := []) (pK := []) (pC := []) (by decide +kernel) (by decide +kernel) (by decide +kernel) (by decide +kernel)
set_option maxRecDepth 100000 in
theorem ca_211 : am_Call at_Ts at_cl 60 mt_211 := at_call (KL := 60) (M := mt_211) (pc := 1840) (pi := 15) (ps := 0) (pn := 1839) (pl := 0) (pv := 103) (at_m8 (List.mem_of_getElem? (i := 160) rfl)) (by decide +kernel)
theorem bd_212 : am_Body at_Ts at_P at_cl at_AO at_NL mt_212 := at_body at_PN at_PX (pG := [1256, 1319, 1321, 1307, 1258, 1260]) (pP := []) (pN := []) (pA := []) (pK := []) (pC := [1837, 1841]) (by decide +kernel) (by decide +kernel) (by decide +kernel) (by decide +kernel)
set_option maxRecDepth 100000 in
theorem ca_212 : am_Call at_Ts at_cl 60 mt_212 := at_call (KL := 60) (M := mt_212) (pc := 1836) (pi := 15) (ps := 0) (pn := 1835) (pl := 0) (pv := 102) (at_m8 (List.mem_of_getElem? (i := 156) rfl)) (by decide +kernel)
theorem bd_213 : am_Body at_Ts at_P at_cl at_AO at_NL mt_213 := at_body at_PN at_PX (pG := [1318, 1262]) (pP := []) (pN := []) (pA := []) (pK := []) (pC := []) (by decide +kernel) (by decide +kernel) (by decide +kernel) (by decide +kernel)
set_option maxRecDepth 100000 in
theorem ca_213 : am_Call at_Ts at_cl 60 mt_213 := at_call (KL := 60) (M := mt_213) (pc := 1848) (pi := 15) (ps := 0) (pn := 1847) (pl := 0) (pv := 105) (at_m8 (List.mem_of_getElem? (i := 168) rfl)) (by decide +kernel)
theorem bd_214 : am_Body at_Ts at_P at_cl at_AO at_NL mt_214 := at_body at_PN at_PX (pG := [1262, 1318, 1307, 1308, 1317]) (pP := [1308]) (pN := []) (pA := []) (pK := []) (pC := []) (by decide +kernel) (by decide +kernel) (by decide +kernel) (by decide +kernel)
set_option maxRecDepth 100000 in
theorem ca_214 : am_Call at_Ts at_cl 60 mt_214 := at_call (KL := 60) (M := mt_214) (pc := 1856) (pi := 15) (ps := 0) (pn := 1855) (pl := 0) (pv := 107) (at_m8 (List.mem_of_getElem? (i := 176) rfl)) (by decide +kernel)
theorem bd_215 : am_Body at_Ts at_P at_cl at_AO at_NL mt_215 := at_body at_PN at_PX (pG := [1261, 1307, 1321, 1262]) (pP := []) (pN := []) (pA := []) (pK := []) (pC := [1837, 1845, 1849, 1857]) (by decide +kernel) (by decide +kernel) (by decide +kernel) (by decide +kernel)
set_option maxRecDepth 100000 in
theorem ca_215 : am_Call at_Ts at_cl 60 mt_215 := at_call (KL := 60) (M := mt_215) (pc := 1844) (pi := 15) (ps := 0) (pn := 1843) (pl := 0) (pv := 104) (at_m8 (List.mem_of_getElem? (i := 164) rfl)) (by decide +kernel)
