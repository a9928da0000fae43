/-! what a program decides of each method -/
theorem bd_255 : am_Body at_Ts at_P at_cl at_AO at_NL mt_255 := at_body at_PN at_PX (pG := []) (pP := []) (pN := []) (pA := []) (pK := []) (pC := [1888, 1891, 1998]) (by decide +kernel) (by decide +kernel) (by decide +kernel) (by decide +kernel)
set_option maxRecDepth 100000 in
theorem ca_255 : am_Call at_Ts at_cl 60 mt_255 := at_call (KL := 60) (M := mt_255) (pc := 1997) (pi := 15) (ps := 0) (pn := 1995) (pl := 1996) (pv := 0) (at_m9 (List.mem_of_getElem? (i := 77) rfl)) (by decide +kernel)
theorem bd_256 : am_Body at_Ts at_P at_cl at_AO at_NL mt_256 := at_body at_PN at_PX (pG := [1332, 1346]) (pP := []) (pN := []) (pA := []) (pK := []) (pC := [1899, 1903, 2002, 2010]) (by decide +kernel) (by decide +kernel) (by decide +kernel) (by decide +kernel)
set_option maxRecDepth 100000 in
theorem ca_256 : am_Call at_Ts at_cl 60 mt_256 := at_call (KL := 60) (M := mt_256) (pc := 2001) (pi := 15) (ps := 0) (pn := 2000) (pl := 0) (pv := 135) (at_m9 (List.mem_of_getElem? (i := 81) rfl)) (by decide +kernel)
theorem bd_257 : am_Body at_Ts at_P at_cl at_AO at_NL mt_257 := at_body at_PN at_PX (pG := [1332, 1343, 1337, 1345, 1257, 1259, 1344, 1338, 1352]) (pP := [1349, 1353, 1343]) (pN := []) (pA := []) (pK := []) (pC := [1962, 1982, 1974, 2006, 1990]) (by decide +kernel) (by decide +kernel) (by decide +kernel) (by decide +kernel)
set_option maxRecDepth 100000 in
theorem ca_257 : am_Call at_Ts at_cl 60 mt_257 := at_call (KL := 60) (M := mt_257) (pc := 2005) (pi := 15) (ps := 0) (pn := 2004) (pl := 0) (pv := 136) (at_m9 (List.mem_of_getElem? (i := 85) rfl)) (by decide +kernel)
theorem bd_258 : am_Body at_Ts at_P at_cl at_AO at_NL mt_258 := at_body at_PN at_PX (pG := [1332, 1343, 1266, 1346, 1355, 1354, 1257, 1259, 1338, 1337, 1352]) (pP := [1355, 1349, 1353, 1343]) (pN := []) (pA := []) (pK := []) (pC := [1776, 1962, 1982, 2014, 2018, 1990]) (by decide +kernel) (by decide +kernel) (by decide +kernel) (by decide +kernel)
set_option maxRecDepth 100000 in
theorem ca_258 : am_Call at_Ts at_cl 60 mt_258 := at_call (KL := 60) (M := mt_258) (pc := 2013) (pi := 15) (ps := 0) (pn := 2012) (pl := 0) (pv := 138) (at_m9 (List.mem_of_getElem? (i := 93) rfl)) (by decide +kernel)
theorem bd_259 : am_Body at_Ts at_P at_cl at_AO at_NL mt_259 := at_body at_PN at_PX (pG := [1347, 1355, 1346, 1354, 1353, 1306, 1307, 1352]) (pP := [1307]) (pN := []) (pA := []) (pK := []) (pC := [1899, 1935, 1907]) (by decide +kernel) (by decide +kernel) (by decide +kernel) (by decide +kernel)
set_option maxRecDepth 100000 in
theorem ca_259 : am_Call at_Ts at_cl 60 mt_259 := at_call (KL := 60) (M := mt_259) (pc := 2017) (pi := 15) (ps := 0) (pn := 2016) (pl := 0) (pv := 139) (at_m9 (List.mem_of_getElem? (i := 97) rfl)) (by decide +kernel)
theorem bd_260 : am_Body at_Ts at_P at_cl at_AO at_NL mt_260 := at_body at_PN at_PX (pG := [1340, 1342, 1355, 1353, 1341, 1354, 1352]) (pP := []) (pN := []) (pA := []) (pK := []) (pC := []) (by decide +kernel) (by decide +kernel) (by decide +kernel) (by decide +kernel)
set_option maxRecDepth 100000 in
theorem ca_260 : am_Call at_Ts at_cl 60 mt_260 := at_call (KL := 60) (M := mt_260) (pc := 2021) (pi := 15) (ps := 0) (pn := 2020) (pl := 0) (pv := 140) (at_m9 (List.mem_of_getElem? (i := 101) rfl)) (by decide +kernel)
theorem bd_261 : am_Body at_Ts at_P at_cl at_AO at_NL mt_261 := at_body at_PN at_PX (pG := [1332, 1334, 1335]) (pP := [1349]) (pN := []) (pA := []) (pK := []) (pC := [1891, 1876, 1935, 1990]) (by decide +kernel) (by decide +kernel) (by decide +kernel) (by decide +kernel)
set_option maxRecDepth 100000 in
theorem ca_261 : am_Call at_Ts at_cl 60 mt_261 := at_call (KL := 60) (M := mt_261) (pc := 2025) (pi := 15) (ps := 0) (pn := 2023) (pl := 2024) (pv := 0) (at_m9 (List.mem_of_getElem? (i := 105) rfl)) (by decide +kernel)
theorem bd_262 : am_Body at_Ts at_P at_cl at_AO at_NL mt_262 := at_body at_PN at_PX (pG := [1332, 1334, 1336, 1261, 1346]) (pP := [1349, 1307]) (pN := []) (pA := []) (pK := []) (pC := [1891, 1876, 1780, 1693, 1962, 1899, 1776, 1787, 1907, 1990]) (by decide +kernel) (by decide +kernel) (by decide +kernel) (by decide +kernel)
set_option maxRecDepth 100000 in
theorem ca_262 : am_Call at_Ts at_cl 60 mt_262 := at_call (KL := 60) (M := mt_262) (pc := 2029) (pi := 15) (ps := 0) (pn := 2027) (pl := 2028) (pv := 0) (at_m9 (List.mem_of_getElem? (i := 109) rfl)) (by decide +kernel)
theorem bd_263 : am_Body at_Ts at_P at_cl at_AO at_NL mt_263 := at_body at_PN at_PX (pG := []) (pP := []) (pN := []) (pA := []) (pK := []) (pC := []) (by decide +kernel) (by decide +kernel) (by decide +kernel) (by decide +kernel)
set_option maxRecDepth 100000 in
theorem ca_263 : am_Call at_Ts at_cl 60 mt_263 := at_call (KL := 60) (M := mt_263) (pc := 2040) (pi := 15) (ps := 2039) (pn := 0) (pl := 0) (pv := 0) (at_m9 (List.mem_of_getElem? (i := 120) rfl)) (by decide +kernel)
theorem bd_264 : am_Body at_Ts at_P at_cl at_AO at_NL mt_264 := at_body at_PN at_PX (pG := [1334, 1356, 1335, 1357, 1336, 1358, 1338, 1360, 1340, 1361, 1341, 1362, 1342, 1363, 1332, 1364, 1359, 1337, 1365, 1333, 1331, 1343, 1330]) (pP := [1366, 1367, 1368]) (pN := []) (pA := []) (pK := []) (pC := [2038]) (by decide +kernel) (by decide +kernel) (by decide +kernel) (by decide +kernel)
set_option maxRecDepth 100000 in
theorem ca_264 : am_Call at_Ts at_cl 60 mt_264 := at_call (KL := 60) (M := mt_264) (pc := 2037) (pi := 15) (ps := 0) (pn := 2036) (pl := 0) (pv := 141) (at_m9 (List.mem_of_getElem? (i := 117) rfl)) (by decide +kernel)
theorem bd_265 : am_Body at_Ts at_P at_cl at_AO at_NL mt_265 := at_body at_PN at_PX (pG := [1356, 1334, 1357, 1335, 1358, 1336, 1360, 1338, 1361, 1340, 1362, 1341, 1363, 1342, 1364, 1332, 1337, 1359, 1333, 1365, 1366, 1367, 1368]) (pP := [1331, 1343, 1330]) (pN := []) (pA := []) (pK := []) (pC := [2038, 1880]) (by decide +kernel) (by decide +kernel) (by decide +kernel) (by decide +kernel)
set_option maxRecDepth 100000 in
theorem ca_265 : am_Call at_Ts at_cl 60 mt_265 := at_call (KL := 60) (M := mt_265) (pc := 2058) (pi := 15) (ps := 0) (pn := 2057) (pl := 0) (pv := 145) (at_m9 (List.mem_of_getElem? (i := 138) rfl)) (by decide +kernel)
theorem bd_266 : am_Body at_Ts at_P at_cl at_AO at_NL mt_266 := at_body at_PN at_PX (pG := [1331]) (pP := []) (pN := []) (pA := []) (pK := []) (pC := [1891, 2034, 2041, 2055]) (by decide +kernel) (by decide +kernel) (by decide +kernel) (by decide +kernel)
set_option maxRecDepth 100000 in
theorem ca_266 : am_Call at_Ts at_cl 60 mt_266 := at_call (KL := 60) (M := mt_266) (pc := 2033) (pi := 15) (ps := 0) (pn := 2031) (pl := 2032) (pv := 0) (at_m9 (List.mem_of_getElem? (i := 113) rfl)) (by decide +kernel)
theorem bd_267 : am_Body at_Ts at_P at_cl at_AO at_NL mt_267 := at_body at_PN at_PX (pG := [1340, 1332, 1273, 1328, 1280, 1338]) (pP := []) (pN := []) (pA := []) (pK := []) (pC := [2045, 2046, 2050, 2051]) (by decide +kernel) (by decide +kernel) (by decide +kernel) (by decide +kernel)
set_option maxRecDepth 100000 in
theorem ca_267 : am_Call at_Ts at_cl 60 mt_267 := at_call (KL := 60) (M := mt_267) (pc := 2044) (pi := 15) (ps := 0) (pn := 2043) (pl := 0) (pv := 142) (at_m9 (List.mem_of_getElem? (i := 124) rfl)) (by decide +kernel)
theorem bd_268 : am_Body at_Ts at_P at_cl at_AO at_NL mt_268 := at_body at_PN at_PX (pG := [1335, 1332]) (pP := []) (pN := []) (pA := []) (pK := []) (pC := [1895, 1946, 1919]) (by decide +kernel) (by decide +kernel) (by decide +kernel) (by decide +kernel)
set_option maxRecDepth 100000 in
theorem ca_268 : am_Call at_Ts at_cl 60 mt_268 := at_call (KL := 60) (M := mt_268) (pc := 2049) (pi := 15) (ps := 0) (pn := 2048) (pl := 0) (pv := 143) (at_m9 (List.mem_of_getElem? (i := 129) rfl)) (by decide +kernel)
theorem bd_269 : am_Body at_Ts at_P at_cl at_AO at_NL mt_269 := at_body at_PN at_PX (pG := [1332, 1347, 1346, 1304, 1337]) (pP := []) (pN := []) (pA := []) (pK := []) (pC := [1899, 1765, 1768, 2002, 1958]) (by decide +kernel) (by decide +kernel) (by decide +kernel) (by decide +kernel)
set_option maxRecDepth 100000 in
theorem ca_269 : am_Call at_Ts at_cl 60 mt_269 := at_call (KL := 60) (M := mt_269) (pc := 2054) (pi := 15) (ps := 0) (pn := 2053) (pl := 0) (pv := 144) (at_m9 (List.mem_of_getElem? (i := 134) rfl)) (by decide +kernel)
theorem bd_270 : am_Body at_Ts at_P at_cl at_AO at_NL mt_270 := at_body at_PN at_PX (pG := [1331, 1332, 1346, 1313]) (pP := []) (pN := []) (pA := []) (pK := []) (pC := [1891, 1899, 1791]) (by decide +kernel) (by decide +kernel) (by decide +kernel) (by decide +kernel)
set_option maxRecDepth 100000 in
theorem ca_270 : am_Call at_Ts at_cl 60 mt_270 := at_call (KL := 60) (M := mt_270) (pc := 2062) (pi := 15) (ps := 0) (pn := 2060) (pl := 2061) (pv := 0) (at_m9 (List.mem_of_getElem? (i := 142) rfl)) (by decide +kernel)
theorem bd_271 : am_Body at_Ts at_P at_cl at_AO at_NL mt_271 := at_body at_PN at_PX (pG := [1332, 1340, 1342, 1346, 1341, 1313]) (pP := []) (pN := []) (pA := []) (pK := []) (pC := [1891, 2067, 1791]) (by decide +kernel) (by decide +kernel) (by decide +kernel) (by decide +kernel)
set_option maxRecDepth 100000 in
theorem ca_271 : am_Call at_Ts at_cl 60 mt_271 := at_call (KL := 60) (M := mt_271) (pc := 2066) (pi := 15) (ps := 0) (pn := 2064) (pl := 2065) (pv := 0) (at_m9 (List.mem_of_getElem? (i := 146) rfl)) (by decide +kernel)
