/-! what a program decides of each method -/
theorem bd_254 : am_Body at_Ts at_P at_cl at_AO at_NL mt_254 := at_body at_PN at_PX (pG := [1341, 1343, 1336, 1335, 1342, 1338]) (pP := []) (pN := []) (pA := []) (pK := []) (pC := [1877]) (by decide +kernel) (by decide +kernel) (by decide +kernel) (by decide +kernel)
set_option maxRecDepth 100000 in
theorem ca_254 : am_Call at_Ts at_cl 60 mt_254 := at_call (KL := 60) (M := mt_254) (pc := 1990) (pi := 15) (ps := 0) (pn := 1989) (pl := 0) (pv := 133) (at_m9 (List.mem_of_getElem? (i := 70) rfl)) (by decide +kernel)
theorem bd_255 : am_Body at_Ts at_P at_cl at_AO at_NL mt_255 := at_body at_PN at_PX (pG := []) (pP := []) (pN := []) (pA := []) (pK := []) (pC := [1889, 1892, 1999]) (by decide +kernel) (by decide +kernel) (by decide +kernel) (by decide +kernel)
set_option maxRecDepth 100000 in
theorem ca_255 : am_Call at_Ts at_cl 60 mt_255 := at_call (KL := 60) (M := mt_255) (pc := 1998) (pi := 15) (ps := 0) (pn := 1996) (pl := 1997) (pv := 0) (at_m9 (List.mem_of_getElem? (i := 78) rfl)) (by decide +kernel)
theorem bd_256 : am_Body at_Ts at_P at_cl at_AO at_NL mt_256 := at_body at_PN at_PX (pG := [1333, 1347]) (pP := []) (pN := []) (pA := []) (pK := []) (pC := [1900, 1904, 2003, 2011]) (by decide +kernel) (by decide +kernel) (by decide +kernel) (by decide +kernel)
set_option maxRecDepth 100000 in
theorem ca_256 : am_Call at_Ts at_cl 60 mt_256 := at_call (KL := 60) (M := mt_256) (pc := 2002) (pi := 15) (ps := 0) (pn := 2001) (pl := 0) (pv := 135) (at_m9 (List.mem_of_getElem? (i := 82) rfl)) (by decide +kernel)
theorem bd_257 : am_Body at_Ts at_P at_cl at_AO at_NL mt_257 := at_body at_PN at_PX (pG := [1333, 1344, 1338, 1346, 1258, 1260, 1345, 1339, 1353]) (pP := [1350, 1354, 1344]) (pN := []) (pA := []) (pK := []) (pC := [1963, 1983, 1975, 2007, 1991]) (by decide +kernel) (by decide +kernel) (by decide +kernel) (by decide +kernel)
set_option maxRecDepth 100000 in
theorem ca_257 : am_Call at_Ts at_cl 60 mt_257 := at_call (KL := 60) (M := mt_257) (pc := 2006) (pi := 15) (ps := 0) (pn := 2005) (pl := 0) (pv := 136) (at_m9 (List.mem_of_getElem? (i := 86) rfl)) (by decide +kernel)
theorem bd_258 : am_Body at_Ts at_P at_cl at_AO at_NL mt_258 := at_body at_PN at_PX (pG := [1333, 1344, 1267, 1347, 1356, 1355, 1258, 1260, 1339, 1338, 1353]) (pP := [1356, 1350, 1354, 1344]) (pN := []) (pA := []) (pK := []) (pC := [1777, 1963, 1983, 2015, 2019, 1991]) (by decide +kernel) (by decide +kernel) (by decide +kernel) (by decide +kernel)
set_option maxRecDepth 100000 in
theorem ca_258 : am_Call at_Ts at_cl 60 mt_258 := at_call (KL := 60) (M := mt_258) (pc := 2014) (pi := 15) (ps := 0) (pn := 2013) (pl := 0) (pv := 138) (at_m9 (List.mem_of_getElem? (i := 94) rfl)) (by decide +kernel)
theorem bd_259 : am_Body at_Ts at_P at_cl at_AO at_NL mt_259 := at_body at_PN at_PX (pG := [1348, 1356, 1347, 1355, 1354, 1307, 1308, 1353]) (pP := [1308]) (pN := []) (pA := []) (pK := []) (pC := [1900, 1936, 1908]) (by decide +kernel) (by decide +kernel) (by decide +kernel) (by decide +kernel)
set_option maxRecDepth 100000 in
theorem ca_259 : am_Call at_Ts at_cl 60 mt_259 := at_call (KL := 60) (M := mt_259) (pc := 2018) (pi := 15) (ps := 0) (pn := 2017) (pl := 0) (pv := 139) (at_m9 (List.mem_of_getElem? (i := 98) rfl)) (by decide +kernel)
theorem bd_260 : am_Body at_Ts at_P at_cl at_AO at_NL mt_260 := at_body at_PN at_PX (pG := [1341, 1343, 1356, 1354, 1342, 1355, 1353]) (pP := []) (pN := []) (pA := []) (pK := []) (pC := []) (by decide +kernel) (by decide +kernel) (by decide +kernel) (by decide +kernel)
set_option maxRecDepth 100000 in
theorem ca_260 : am_Call at_Ts at_cl 60 mt_260 := at_call (KL := 60) (M := mt_260) (pc := 2022) (pi := 15) (ps := 0) (pn := 2021) (pl := 0) (pv := 140) (at_m9 (List.mem_of_getElem? (i := 102) rfl)) (by decide +kernel)
theorem bd_261 : am_Body at_Ts at_P at_cl at_AO at_NL mt_261 := at_body at_PN at_PX (pG := [1333, 1335, 1336]) (pP := [1350]) (pN := []) (pA := []) (pK := []) (pC := [1892, 1877, 1936, 1991]) (by decide +kernel) (by decide +kernel) (by decide +kernel) (by decide +kernel)
set_option maxRecDepth 100000 in
theorem ca_261 : am_Call at_Ts at_cl 60 mt_261 := at_call (KL := 60) (M := mt_261) (pc := 2026) (pi := 15) (ps := 0) (pn := 2024) (pl := 2025) (pv := 0) (at_m9 (List.mem_of_getElem? (i := 106) rfl)) (by decide +kernel)
theorem bd_262 : am_Body at_Ts at_P at_cl at_AO at_NL mt_262 := at_body at_PN at_PX (pG := [1333, 1335, 1337, 1262, 1347]) (pP := [1350, 1308]) (pN := []) (pA := []) (pK := []) (pC := [1892, 1877, 1781, 1694, 1963, 1900, 1777, 1788, 1908, 1991]) (by decide +kernel) (by decide +kernel) (by decide +kernel) (by decide +kernel)
set_option maxRecDepth 100000 in
theorem ca_262 : am_Call at_Ts at_cl 60 mt_262 := at_call (KL := 60) (M := mt_262) (pc := 2030) (pi := 15) (ps := 0) (pn := 2028) (pl := 2029) (pv := 0) (at_m9 (List.mem_of_getElem? (i := 110) rfl)) (by decide +kernel)
theorem bd_263 : am_Body at_Ts at_P at_cl at_AO at_NL mt_263 := at_body at_PN at_PX (pG := []) (pP := []) (pN := []) (pA := []) (pK := []) (pC := []) (by decide +kernel) (by decide +kernel) (by decide +kernel) (by decide +kernel)
set_option maxRecDepth 100000 in
theorem ca_263 : am_Call at_Ts at_cl 60 mt_263 := at_call (KL := 60) (M := mt_263) (pc := 2041) (pi := 15) (ps := 2040) (pn := 0) (pl := 0) (pv := 0) (at_m9 (List.mem_of_getElem? (i := 121) rfl)) (by decide +kernel)
theorem bd_264 : am_Body at_Ts at_P at_cl at_AO at_NL mt_264 := at_body at_PN at_PX (pG := [1335, 1357, 1336, 1358, 1337, 1359, 1339, 1361, 1341, 1362, 1342, 1363, 1343, 1364, 1333, 1365, 1360, 1338, 1366, 1334, 1332, 1344, 1331]) (pP := [1367, 1368, 1369]) (pN := []) (pA := []) (pK := []) (pC := [2039]) (by decide +kernel) (by decide +kernel) (by decide +kernel) (by decide +kernel)
set_option maxRecDepth 100000 in
theorem ca_264 : am_Call at_Ts at_cl 60 mt_264 := at_call (KL := 60) (M := mt_264) (pc := 2038) (pi := 15) (ps := 0) (pn := 2037) (pl := 0) (pv := 141) (at_m9 (List.mem_of_getElem? (i := 118) rfl)) (by decide +kernel)
theorem bd_265 : am_Body at_Ts at_P at_cl at_AO at_NL mt_265 := at_body at_PN at_PX (pG := [1357, 1335, 1358, 1336, 1359, 1337, 1361, 1339, 1362, 1341, 1363, 1342, 1364, 1343, 1365, 1333, 1338, 1360, 1334, 1366, 1367, 1368, 1369]) (pP := [1332, 1344, 1331]) (pN := []) (pA := []) (pK := []) (pC := [2039, 1881]) (by decide +kernel) (by decide +kernel) (by decide +kernel) (by decide +kernel)
set_option maxRecDepth 100000 in
theorem ca_265 : am_Call at_Ts at_cl 60 mt_265 := at_call (KL := 60) (M := mt_265) (pc := 2059) (pi := 15) (ps := 0) (pn := 2058) (pl := 0) (pv := 145) (at_m9 (List.mem_of_getElem? (i := 139) rfl)) (by decide +kernel)
theorem bd_266 : am_Body at_Ts at_P at_cl at_AO at_NL mt_266 := at_body at_PN at_PX (pG := [1332]) (pP := []) (pN := []) (pA := []) (pK := []) (pC := [1892, 2035, 2042, 2056]) (by decide +kernel) (by decide +kernel) (by decide +kernel) (by decide +kernel)
set_option maxRecDepth 100000 in
theorem ca_266 : am_Call at_Ts at_cl 60 mt_266 := at_call (KL := 60) (M := mt_266) (pc := 2034) (pi := 15) (ps := 0) (pn := 2032) (pl := 2033) (pv := 0) (at_m9 (List.mem_of_getElem? (i := 114) rfl)) (by decide +kernel)
theorem bd_267 : am_Body at_Ts at_P at_cl at_AO at_NL mt_267 := at_body at_PN at_PX (pG := [1341, 1333, 1274, 1329, 1281, 1339]) (pP := []) (pN := []) (pA := []) (pK := []) (pC := [2046, 2047, 2051, 2052]) (by decide +kernel) (by decide +kernel) (by decide +kernel) (by decide +kernel)
set_option maxRecDepth 100000 in
theorem ca_267 : am_Call at_Ts at_cl 60 mt_267 := at_call (KL := 60) (M := mt_267) (pc := 2045) (pi := 15) (ps := 0) (pn := 2044) (pl := 0) (pv := 142) (at_m9 (List.mem_of_getElem? (i := 125) rfl)) (by decide +kernel)
theorem bd_268 : am_Body at_Ts at_P at_cl at_AO at_NL mt_268 := at_body at_PN at_PX (pG := [1336, 1333]) (pP := []) (pN := []) (pA := []) (pK := []) (pC := [1896, 1947, 1920]) (by decide +kernel) (by decide +kernel) (by decide +kernel) (by decide +kernel)
set_option maxRecDepth 100000 in
theorem ca_268 : am_Call at_Ts at_cl 60 mt_268 := at_call (KL := 60) (M := mt_268) (pc := 2050) (pi := 15) (ps := 0) (pn := 2049) (pl := 0) (pv := 143) (at_m9 (List.mem_of_getElem? (i := 130) rfl)) (by decide +kernel)
theorem bd_269 : am_Body at_Ts at_P at_cl at_AO at_NL mt_269 := at_body at_PN at_PX (pG := [1333, 1348, 1347, 1305, 1338]) (pP := []) (pN := []) (pA := []) (pK := []) (pC := [1900, 1766, 1769, 2003, 1959]) (by decide +kernel) (by decide +kernel) (by decide +kernel) (by decide +kernel)
set_option maxRecDepth 100000 in
theorem ca_269 : am_Call at_Ts at_cl 60 mt_269 := at_call (KL := 60) (M := mt_269) (pc := 2055) (pi := 15) (ps := 0) (pn := 2054) (pl := 0) (pv := 144) (at_m9 (List.mem_of_getElem? (i := 135) rfl)) (by decide +kernel)
