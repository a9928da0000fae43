/-! what a program decides of each method -/
theorem bd_232 : am_Body at_Ts at_P at_cl at_AO at_NL mt_232 := at_body at_PN at_PX (pG := [1331, 1332, 1330, 1281, 1329]) (pP := [1331]) (pN := []) (pA := []) (pK := []) (pC := [1881]) (by decide +kernel) (by decide +kernel) (by decide +kernel) (by decide +kernel)
set_option maxRecDepth 100000 in
theorem ca_232 : am_Call at_Ts at_cl 60 mt_232 := at_call (KL := 60) (M := mt_232) (pc := 1915) (pi := 15) (ps := 0) (pn := 1914) (pl := 0) (pv := 118) (at_m8 (List.mem_of_getElem? (i := 235) rfl)) (by decide +kernel)
theorem bd_233 : am_Body at_Ts at_P at_cl at_AO at_NL mt_233 := at_body at_PN at_PX (pG := [1349, 1350]) (pP := [1350]) (pN := []) (pA := []) (pK := []) (pC := [1873, 1967]) (by decide +kernel) (by decide +kernel) (by decide +kernel) (by decide +kernel)
set_option maxRecDepth 100000 in
theorem ca_233 : am_Call at_Ts at_cl 60 mt_233 := at_call (KL := 60) (M := mt_233) (pc := 1966) (pi := 15) (ps := 0) (pn := 1965) (pl := 0) (pv := 127) (at_m9 (List.mem_of_getElem? (i := 46) rfl)) (by decide +kernel)
theorem bd_234 : am_Body at_Ts at_P at_cl at_AO at_NL mt_234 := at_body at_PN at_PX (pG := [1332, 1350, 1334, 1349, 1333]) (pP := [1332]) (pN := []) (pA := []) (pK := []) (pC := [1912]) (by decide +kernel) (by decide +kernel) (by decide +kernel) (by decide +kernel)
set_option maxRecDepth 100000 in
theorem ca_234 : am_Call at_Ts at_cl 60 mt_234 := at_call (KL := 60) (M := mt_234) (pc := 1994) (pi := 15) (ps := 0) (pn := 1993) (pl := 0) (pv := 134) (at_m9 (List.mem_of_getElem? (i := 74) rfl)) (by decide +kernel)
theorem bd_235 : am_Body at_Ts at_P at_cl at_AO at_NL mt_235 := at_body at_PN at_PX (pG := [1332]) (pP := []) (pN := []) (pA := []) (pK := []) (pC := []) (by decide +kernel) (by decide +kernel) (by decide +kernel) (by decide +kernel)
set_option maxRecDepth 100000 in
theorem ca_235 : am_Call at_Ts at_cl 60 mt_235 := at_call (KL := 60) (M := mt_235) (pc := 1895) (pi := 15) (ps := 0) (pn := 1894) (pl := 0) (pv := 113) (at_m8 (List.mem_of_getElem? (i := 215) rfl)) (by decide +kernel)
theorem bd_236 : am_Body at_Ts at_P at_cl at_AO at_NL mt_236 := at_body at_PN at_PX (pG := []) (pP := []) (pN := []) (pA := []) (pK := []) (pC := []) (by decide +kernel) (by decide +kernel) (by decide +kernel) (by decide +kernel)
set_option maxRecDepth 100000 in
theorem ca_236 : am_Call at_Ts at_cl 60 mt_236 := at_call (KL := 60) (M := mt_236) (pc := 1891) (pi := 15) (ps := 1890) (pn := 0) (pl := 0) (pv := 0) (at_m8 (List.mem_of_getElem? (i := 211) rfl)) (by decide +kernel)
theorem bd_237 : am_Body at_Ts at_P at_cl at_AO at_NL mt_237 := at_body at_PN at_PX (pG := []) (pP := []) (pN := []) (pA := []) (pK := []) (pC := [1889, 1892, 1896]) (by decide +kernel) (by decide +kernel) (by decide +kernel) (by decide +kernel)
set_option maxRecDepth 100000 in
theorem ca_237 : am_Call at_Ts at_cl 60 mt_237 := at_call (KL := 60) (M := mt_237) (pc := 1888) (pi := 15) (ps := 0) (pn := 1886) (pl := 1887) (pv := 0) (at_m8 (List.mem_of_getElem? (i := 208) rfl)) (by decide +kernel)
theorem bd_238 : am_Body at_Ts at_P at_cl at_AO at_NL mt_238 := at_body at_PN at_PX (pG := [1333, 1347, 1348]) (pP := []) (pN := []) (pA := []) (pK := []) (pC := [1900, 1904, 1766, 1769, 1784, 1908, 1912]) (by decide +kernel) (by decide +kernel) (by decide +kernel) (by decide +kernel)
set_option maxRecDepth 100000 in
theorem ca_238 : am_Call at_Ts at_cl 60 mt_238 := at_call (KL := 60) (M := mt_238) (pc := 1899) (pi := 15) (ps := 0) (pn := 1898) (pl := 0) (pv := 114) (at_m8 (List.mem_of_getElem? (i := 219) rfl)) (by decide +kernel)
theorem bd_239 : am_Body at_Ts at_P at_cl at_AO at_NL mt_239 := at_body at_PN at_PX (pG := [1351, 1348, 1347]) (pP := []) (pN := []) (pA := []) (pK := []) (pC := [1777, 1928, 1936]) (by decide +kernel) (by decide +kernel) (by decide +kernel) (by decide +kernel)
set_option maxRecDepth 100000 in
theorem ca_239 : am_Call at_Ts at_cl 60 mt_239 := at_call (KL := 60) (M := mt_239) (pc := 1927) (pi := 15) (ps := 0) (pn := 1926) (pl := 0) (pv := 120) (at_m9 (List.mem_of_getElem? (i := 7) rfl)) (by decide +kernel)
theorem bd_240 : am_Body at_Ts at_P at_cl at_AO at_NL mt_240 := at_body at_PN at_PX (pG := [1352, 1280, 1345, 1346, 1347]) (pP := []) (pN := []) (pA := []) (pK := []) (pC := [1932, 1781]) (by decide +kernel) (by decide +kernel) (by decide +kernel) (by decide +kernel)
set_option maxRecDepth 100000 in
theorem ca_240 : am_Call at_Ts at_cl 60 mt_240 := at_call (KL := 60) (M := mt_240) (pc := 1931) (pi := 15) (ps := 0) (pn := 1930) (pl := 0) (pv := 121) (at_m9 (List.mem_of_getElem? (i := 11) rfl)) (by decide +kernel)
theorem bd_241 : am_Body at_Ts at_P at_cl at_AO at_NL mt_241 := at_body at_PN at_PX (pG := []) (pP := []) (pN := []) (pA := []) (pK := []) (pC := []) (by decide +kernel) (by decide +kernel) (by decide +kernel) (by decide +kernel)
set_option maxRecDepth 100000 in
theorem ca_241 : am_Call at_Ts at_cl 60 mt_241 := at_call (KL := 60) (M := mt_241) (pc := 1938) (pi := 15) (ps := 1937) (pn := 0) (pl := 0) (pv := 0) (at_m9 (List.mem_of_getElem? (i := 18) rfl)) (by decide +kernel)
theorem bd_242 : am_Body at_Ts at_P at_cl at_AO at_NL mt_242 := at_body at_PN at_PX (pG := [1347, 1307, 1308, 1351, 1348]) (pP := [1308]) (pN := []) (pA := []) (pK := []) (pC := [1788, 1777]) (by decide +kernel) (by decide +kernel) (by decide +kernel) (by decide +kernel)
set_option maxRecDepth 100000 in
theorem ca_242 : am_Call at_Ts at_cl 60 mt_242 := at_call (KL := 60) (M := mt_242) (pc := 1942) (pi := 15) (ps := 0) (pn := 1941) (pl := 0) (pv := 123) (at_m9 (List.mem_of_getElem? (i := 22) rfl)) (by decide +kernel)
theorem bd_243 : am_Body at_Ts at_P at_cl at_AO at_NL mt_243 := at_body at_PN at_PX (pG := [1274]) (pP := []) (pN := []) (pA := []) (pK := []) (pC := [1889, 1892, 1920]) (by decide +kernel) (by decide +kernel) (by decide +kernel) (by decide +kernel)
set_option maxRecDepth 100000 in
theorem ca_243 : am_Call at_Ts at_cl 60 mt_243 := at_call (KL := 60) (M := mt_243) (pc := 1919) (pi := 15) (ps := 0) (pn := 1917) (pl := 1918) (pv := 0) (at_m8 (List.mem_of_getElem? (i := 239) rfl)) (by decide +kernel)
theorem bd_244 : am_Body at_Ts at_P at_cl at_AO at_NL mt_244 := at_body at_PN at_PX (pG := [1333, 1281, 1330, 1276, 1277, 1337]) (pP := [1352]) (pN := []) (pA := []) (pK := []) (pC := [1900, 1904, 1924, 1939, 1908, 1912]) (by decide +kernel) (by decide +kernel) (by decide +kernel) (by decide +kernel)
set_option maxRecDepth 100000 in
theorem ca_244 : am_Call at_Ts at_cl 60 mt_244 := at_call (KL := 60) (M := mt_244) (pc := 1923) (pi := 15) (ps := 0) (pn := 1922) (pl := 0) (pv := 119) (at_m9 (List.mem_of_getElem? (i := 3) rfl)) (by decide +kernel)
theorem bd_245 : am_Body at_Ts at_P at_cl at_AO at_NL mt_245 := at_body at_PN at_PX (pG := []) (pP := []) (pN := []) (pA := []) (pK := []) (pC := [1889, 1892, 1947]) (by decide +kernel) (by decide +kernel) (by decide +kernel) (by decide +kernel)
set_option maxRecDepth 100000 in
theorem ca_245 : am_Call at_Ts at_cl 60 mt_245 := at_call (KL := 60) (M := mt_245) (pc := 1946) (pi := 15) (ps := 0) (pn := 1944) (pl := 1945) (pv := 0) (at_m9 (List.mem_of_getElem? (i := 26) rfl)) (by decide +kernel)
theorem bd_246 : am_Body at_Ts at_P at_cl at_AO at_NL mt_246 := at_body at_PN at_PX (pG := [1333, 1341, 1342, 1343, 1337, 1330]) (pP := []) (pN := []) (pA := []) (pK := []) (pC := [1900, 1904, 1924, 1939, 1908, 1912]) (by decide +kernel) (by decide +kernel) (by decide +kernel) (by decide +kernel)
set_option maxRecDepth 100000 in
theorem ca_246 : am_Call at_Ts at_cl 60 mt_246 := at_call (KL := 60) (M := mt_246) (pc := 1950) (pi := 15) (ps := 0) (pn := 1949) (pl := 0) (pv := 124) (at_m9 (List.mem_of_getElem? (i := 30) rfl)) (by decide +kernel)
theorem bd_247 : am_Body at_Ts at_P at_cl at_AO at_NL mt_247 := at_body at_PN at_PX (pG := [1336, 1335]) (pP := []) (pN := []) (pA := []) (pK := []) (pC := [1877]) (by decide +kernel) (by decide +kernel) (by decide +kernel) (by decide +kernel)
set_option maxRecDepth 100000 in
theorem ca_247 : am_Call at_Ts at_cl 60 mt_247 := at_call (KL := 60) (M := mt_247) (pc := 1958) (pi := 15) (ps := 0) (pn := 1957) (pl := 0) (pv := 125) (at_m9 (List.mem_of_getElem? (i := 38) rfl)) (by decide +kernel)
theorem bd_248 : am_Body at_Ts at_P at_cl at_AO at_NL mt_248 := at_body at_PN at_PX (pG := [1354, 1307, 1308, 1353]) (pP := [1308]) (pN := []) (pA := []) (pK := []) (pC := []) (by decide +kernel) (by decide +kernel) (by decide +kernel) (by decide +kernel)
set_option maxRecDepth 100000 in
theorem ca_248 : am_Call at_Ts at_cl 60 mt_248 := at_call (KL := 60) (M := mt_248) (pc := 1982) (pi := 15) (ps := 0) (pn := 1981) (pl := 0) (pv := 131) (at_m9 (List.mem_of_getElem? (i := 62) rfl)) (by decide +kernel)
theorem bd_249 : am_Body at_Ts at_P at_cl at_AO at_NL mt_249 := at_body at_PN at_PX (pG := [1353, 1261, 1344, 1345, 1262, 1346]) (pP := [1354, 1344]) (pN := []) (pA := []) (pK := []) (pC := []) (by decide +kernel) (by decide +kernel) (by decide +kernel) (by decide +kernel)
set_option maxRecDepth 100000 in
theorem ca_249 : am_Call at_Ts at_cl 60 mt_249 := at_call (KL := 60) (M := mt_249) (pc := 1986) (pi := 15) (ps := 0) (pn := 1985) (pl := 0) (pv := 132) (at_m9 (List.mem_of_getElem? (i := 66) rfl)) (by decide +kernel)
theorem bd_250 : am_Body at_Ts at_P at_cl at_AO at_NL mt_250 := at_body at_PN at_PX (pG := [1335, 1336]) (pP := []) (pN := []) (pA := []) (pK := []) (pC := [1877, 1979, 1908]) (by decide +kernel) (by decide +kernel) (by decide +kernel) (by decide +kernel)
set_option maxRecDepth 100000 in
theorem ca_250 : am_Call at_Ts at_cl 60 mt_250 := at_call (KL := 60) (M := mt_250) (pc := 1978) (pi := 15) (ps := 0) (pn := 1977) (pl := 0) (pv := 130) (at_m9 (List.mem_of_getElem? (i := 58) rfl)) (by decide +kernel)
theorem bd_251 : am_Body at_Ts at_P at_cl at_AO at_NL mt_251 := at_body at_PN at_PX (pG := [1341, 1342, 1343, 1308, 1307]) (pP := []) (pN := []) (pA := []) (pK := []) (pC := [1979]) (by decide +kernel) (by decide +kernel) (by decide +kernel) (by decide +kernel)
set_option maxRecDepth 100000 in
theorem ca_251 : am_Call at_Ts at_cl 60 mt_251 := at_call (KL := 60) (M := mt_251) (pc := 2010) (pi := 15) (ps := 0) (pn := 2009) (pl := 0) (pv := 137) (at_m9 (List.mem_of_getElem? (i := 90) rfl)) (by decide +kernel)
theorem bd_252 : am_Body at_Ts at_P at_cl at_AO at_NL mt_252 := at_body at_PN at_PX (pG := [1344, 1333, 1338]) (pP := []) (pN := []) (pA := []) (pK := []) (pC := [1892, 1955, 1959]) (by decide +kernel) (by decide +kernel) (by decide +kernel) (by decide +kernel)
set_option maxRecDepth 100000 in
theorem ca_252 : am_Call at_Ts at_cl 60 mt_252 := at_call (KL := 60) (M := mt_252) (pc := 1954) (pi := 15) (ps := 0) (pn := 1952) (pl := 1953) (pv := 0) (at_m9 (List.mem_of_getElem? (i := 34) rfl)) (by decide +kernel)
theorem bd_253 : am_Body at_Ts at_P at_cl at_AO at_NL mt_253 := at_body at_PN at_PX (pG := [1333, 1344, 1346, 1353, 1339, 1258, 1260, 1345, 1338]) (pP := [1350, 1354, 1344]) (pN := []) (pA := []) (pK := []) (pC := [1963, 1975, 1983, 1987, 1991]) (by decide +kernel) (by decide +kernel) (by decide +kernel) (by decide +kernel)
set_option maxRecDepth 100000 in
theorem ca_253 : am_Call at_Ts at_cl 60 mt_253 := at_call (KL := 60) (M := mt_253) (pc := 1962) (pi := 15) (ps := 0) (pn := 1961) (pl := 0) (pv := 126) (at_m9 (List.mem_of_getElem? (i := 42) rfl)) (by decide +kernel)
