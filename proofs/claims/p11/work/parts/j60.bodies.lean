/-! what a program decides of each method -/
theorem bd_255 : am_Body at_Ts at_P at_cl at_AO at_NL mt_255 := at_body at_PN at_PX (pG := []) (pP := []) (pN := []) (pA := []) (pK := []) (pC := [1884, 1887, 1994]) (by decide +kernel) (by decide +kernel) (by decide +kernel) (by decide +kernel)
set_option maxRecDepth 100000 in
theorem ca_255 : am_Call at_Ts at_cl 60 mt_255 := at_call (KL := 60) (M := mt_255) (pc := 1993) (pi := 15) (ps := 0) (pn := 1991) (pl := 1992) (pv := 0) (at_m9 (List.mem_of_getElem? (i := 73) rfl)) (by decide +kernel)
theorem bd_256 : am_Body at_Ts at_P at_cl at_AO at_NL mt_256 := at_body at_PN at_PX (pG := [1332, 1346]) (pP := []) (pN := []) (pA := []) (pK := []) (pC := [1895, 1899, 1998, 2006]) (by decide +kernel) (by decide +kernel) (by decide +kernel) (by decide +kernel)
set_option maxRecDepth 100000 in
theorem ca_256 : am_Call at_Ts at_cl 60 mt_256 := at_call (KL := 60) (M := mt_256) (pc := 1997) (pi := 15) (ps := 0) (pn := 1996) (pl := 0) (pv := 135) (at_m9 (List.mem_of_getElem? (i := 77) rfl)) (by decide +kernel)
theorem bd_257 : am_Body at_Ts at_P at_cl at_AO at_NL mt_257 := at_body at_PN at_PX (pG := [1332, 1343, 1337, 1345, 1257, 1259, 1344, 1338, 1352]) (pP := [1349, 1353, 1343]) (pN := []) (pA := []) (pK := []) (pC := [1958, 1978, 1970, 2002, 1986]) (by decide +kernel) (by decide +kernel) (by decide +kernel) (by decide +kernel)
set_option maxRecDepth 100000 in
theorem ca_257 : am_Call at_Ts at_cl 60 mt_257 := at_call (KL := 60) (M := mt_257) (pc := 2001) (pi := 15) (ps := 0) (pn := 2000) (pl := 0) (pv := 136) (at_m9 (List.mem_of_getElem? (i := 81) rfl)) (by decide +kernel)
theorem bd_258 : am_Body at_Ts at_P at_cl at_AO at_NL mt_258 := at_body at_PN at_PX (pG := [1332, 1343, 1266, 1346, 1355, 1354, 1257, 1259, 1338, 1337, 1352]) (pP := [1355, 1349, 1353, 1343]) (pN := []) (pA := []) (pK := []) (pC := [1772, 1958, 1978, 2010, 2014, 1986]) (by decide +kernel) (by decide +kernel) (by decide +kernel) (by decide +kernel)
set_option maxRecDepth 100000 in
theorem ca_258 : am_Call at_Ts at_cl 60 mt_258 := at_call (KL := 60) (M := mt_258) (pc := 2009) (pi := 15) (ps := 0) (pn := 2008) (pl := 0) (pv := 138) (at_m9 (List.mem_of_getElem? (i := 89) rfl)) (by decide +kernel)
theorem bd_259 : am_Body at_Ts at_P at_cl at_AO at_NL mt_259 := at_body at_PN at_PX (pG := [1347, 1355, 1346, 1354, 1353, 1306, 1307, 1352]) (pP := [1307]) (pN := []) (pA := []) (pK := []) (pC := [1895, 1931, 1903]) (by decide +kernel) (by decide +kernel) (by decide +kernel) (by decide +kernel)
set_option maxRecDepth 100000 in
theorem ca_259 : am_Call at_Ts at_cl 60 mt_259 := at_call (KL := 60) (M := mt_259) (pc := 2013) (pi := 15) (ps := 0) (pn := 2012) (pl := 0) (pv := 139) (at_m9 (List.mem_of_getElem? (i := 93) rfl)) (by decide +kernel)
theorem bd_260 : am_Body at_Ts at_P at_cl at_AO at_NL mt_260 := at_body at_PN at_PX (pG := [1340, 1342, 1355, 1353, 1341, 1354, 1352]) (pP := []) (pN := []) (pA := []) (pK := []) (pC := []) (by decide +kernel) (by decide +kernel) (by decide +kernel) (by decide +kernel)
set_option maxRecDepth 100000 in
theorem ca_260 : am_Call at_Ts at_cl 60 mt_260 := at_call (KL := 60) (M := mt_260) (pc := 2017) (pi := 15) (ps := 0) (pn := 2016) (pl := 0) (pv := 140) (at_m9 (List.mem_of_getElem? (i := 97) rfl)) (by decide +kernel)
theorem bd_261 : am_Body at_Ts at_P at_cl at_AO at_NL mt_261 := at_body at_PN at_PX (pG := [1332, 1334, 1335]) (pP := [1349]) (pN := []) (pA := []) (pK := []) (pC := [1887, 1872, 1931, 1986]) (by decide +kernel) (by decide +kernel) (by decide +kernel) (by decide +kernel)
set_option maxRecDepth 100000 in
theorem ca_261 : am_Call at_Ts at_cl 60 mt_261 := at_call (KL := 60) (M := mt_261) (pc := 2021) (pi := 15) (ps := 0) (pn := 2019) (pl := 2020) (pv := 0) (at_m9 (List.mem_of_getElem? (i := 101) rfl)) (by decide +kernel)
theorem bd_262 : am_Body at_Ts at_P at_cl at_AO at_NL mt_262 := at_body at_PN at_PX (pG := [1332, 1334, 1336, 1261, 1346]) (pP := [1349, 1307]) (pN := []) (pA := []) (pK := []) (pC := [1887, 1872, 1776, 1689, 1958, 1895, 1772, 1783, 1903, 1986]) (by decide +kernel) (by decide +kernel) (by decide +kernel) (by decide +kernel)
set_option maxRecDepth 100000 in
theorem ca_262 : am_Call at_Ts at_cl 60 mt_262 := at_call (KL := 60) (M := mt_262) (pc := 2025) (pi := 15) (ps := 0) (pn := 2023) (pl := 2024) (pv := 0) (at_m9 (List.mem_of_getElem? (i := 105) rfl)) (by decide +kernel)
theorem bd_263 : am_Body at_Ts at_P at_cl at_AO at_NL mt_263 := at_body at_PN at_PX (pG := []) (pP := []) (pN := []) (pA := []) (pK := []) (pC := []) (by decide +kernel) (by decide +kernel) (by decide +kernel) (by decide +kernel)
set_option maxRecDepth 100000 in
theorem ca_263 : am_Call at_Ts at_cl 60 mt_263 := at_call (KL := 60) (M := mt_263) (pc := 2036) (pi := 15) (ps := 2035) (pn := 0) (pl := 0) (pv := 0) (at_m9 (List.mem_of_getElem? (i := 116) rfl)) (by decide +kernel)
theorem bd_264 : am_Body at_Ts at_P at_cl at_AO at_NL mt_264 := at_body at_PN at_PX (pG := [1334, 1356, 1335, 1357, 1336, 1358, 1338, 1360, 1340, 1361, 1341, 1362, 1342, 1363, 1332, 1364, 1359, 1337, 1365, 1333, 1331, 1343, 1330]) (pP := [1366, 1367, 1368]) (pN := []) (pA := []) (pK := []) (pC := [2034]) (by decide +kernel) (by decide +kernel) (by decide +kernel) (by decide +kernel)
set_option maxRecDepth 100000 in
theorem ca_264 : am_Call at_Ts at_cl 60 mt_264 := at_call (KL := 60) (M := mt_264) (pc := 2033) (pi := 15) (ps := 0) (pn := 2032) (pl := 0) (pv := 141) (at_m9 (List.mem_of_getElem? (i := 113) rfl)) (by decide +kernel)
theorem bd_265 : am_Body at_Ts at_P at_cl at_AO at_NL mt_265 := at_body at_PN at_PX (pG := [1356, 1334, 1357, 1335, 1358, 1336, 1360, 1338, 1361, 1340, 1362, 1341, 1363, 1342, 1364, 1332, 1337, 1359, 1333, 1365, 1366, 1367, 1368]) (pP := [1331, 1343, 1330]) (pN := []) (pA := []) (pK := []) (pC := [2034, 1876]) (by decide +kernel) (by decide +kernel) (by decide +kernel) (by decide +kernel)
set_option maxRecDepth 100000 in
theorem ca_265 : am_Call at_Ts at_cl 60 mt_265 := at_call (KL := 60) (M := mt_265) (pc := 2054) (pi := 15) (ps := 0) (pn := 2053) (pl := 0) (pv := 145) (at_m9 (List.mem_of_getElem? (i := 134) rfl)) (by decide +kernel)
theorem bd_266 : am_Body at_Ts at_P at_cl at_AO at_NL mt_266 := at_body at_PN at_PX (pG := [1331]) (pP := []) (pN := []) (pA := []) (pK := []) (pC := [1887, 2030, 2037, 2051]) (by decide +kernel) (by decide +kernel) (by decide +kernel) (by decide +kernel)
set_option maxRecDepth 100000 in
theorem ca_266 : am_Call at_Ts at_cl 60 mt_266 := at_call (KL := 60) (M := mt_266) (pc := 2029) (pi := 15) (ps := 0) (pn := 2027) (pl := 2028) (pv := 0) (at_m9 (List.mem_of_getElem? (i := 109) rfl)) (by decide +kernel)
theorem bd_267 : am_Body at_Ts at_P at_cl at_AO at_NL mt_267 := at_body at_PN at_PX (pG := [1340, 1332, 1273, 1328, 1280, 1338]) (pP := []) (pN := []) (pA := []) (pK := []) (pC := [2041, 2042, 2046, 2047]) (by decide +kernel) (by decide +kernel) (by decide +kernel) (by decide +kernel)
set_option maxRecDepth 100000 in
theorem ca_267 : am_Call at_Ts at_cl 60 mt_267 := at_call (KL := 60) (M := mt_267) (pc := 2040) (pi := 15) (ps := 0) (pn := 2039) (pl := 0) (pv := 142) (at_m9 (List.mem_of_getElem? (i := 120) rfl)) (by decide +kernel)
theorem bd_268 : am_Body at_Ts at_P at_cl at_AO at_NL mt_268 := at_body at_PN at_PX (pG := [1335, 1332]) (pP := []) (pN := []) (pA := []) (pK := []) (pC := [1891, 1942, 1915]) (by decide +kernel) (by decide +kernel) (by decide +kernel) (by decide +kernel)
set_option maxRecDepth 100000 in
theorem ca_268 : am_Call at_Ts at_cl 60 mt_268 := at_call (KL := 60) (M := mt_268) (pc := 2045) (pi := 15) (ps := 0) (pn := 2044) (pl := 0) (pv := 143) (at_m9 (List.mem_of_getElem? (i := 125) rfl)) (by decide +kernel)
theorem bd_269 : am_Body at_Ts at_P at_cl at_AO at_NL mt_269 := at_body at_PN at_PX (pG := [1332, 1347, 1346, 1304, 1337]) (pP := []) (pN := []) (pA := []) (pK := []) (pC := [1895, 1761, 1764, 1998, 1954]) (by decide +kernel) (by decide +kernel) (by decide +kernel) (by decide +kernel)
set_option maxRecDepth 100000 in
theorem ca_269 : am_Call at_Ts at_cl 60 mt_269 := at_call (KL := 60) (M := mt_269) (pc := 2050) (pi := 15) (ps := 0) (pn := 2049) (pl := 0) (pv := 144) (at_m9 (List.mem_of_getElem? (i := 130) rfl)) (by decide +kernel)
theorem bd_270 : am_Body at_Ts at_P at_cl at_AO at_NL mt_270 := at_body at_PN at_PX (pG := [1331, 1332, 1346, 1313]) (pP := []) (pN := []) (pA := []) (pK := []) (pC := [1887, 1895, 1787]) (by decide +kernel) (by decide +kernel) (by decide +kernel) (by decide +kernel)
set_option maxRecDepth 100000 in
theorem ca_270 : am_Call at_Ts at_cl 60 mt_270 := at_call (KL := 60) (M := mt_270) (pc := 2058) (pi := 15) (ps := 0) (pn := 2056) (pl := 2057) (pv := 0) (at_m9 (List.mem_of_getElem? (i := 138) rfl)) (by decide +kernel)
theorem bd_271 : am_Body at_Ts at_P at_cl at_AO at_NL mt_271 := at_body at_PN at_PX (pG := [1332, 1340, 1342, 1346, 1341, 1313]) (pP := []) (pN := []) (pA := []) (pK := []) (pC := [1887, 2063, 1787]) (by decide +kernel) (by decide +kernel) (by decide +kernel) (by decide +kernel)
set_option maxRecDepth 100000 in
theorem ca_271 : am_Call at_Ts at_cl 60 mt_271 := at_call (KL := 60) (M := mt_271) (pc := 2062) (pi := 15) (ps := 0) (pn := 2060) (pl := 2061) (pv := 0) (at_m9 (List.mem_of_getElem? (i := 142) rfl)) (by decide +kernel)
