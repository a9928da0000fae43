/-! what a program decides of each method -/
theorem bd_235 : am_Body at_Ts at_P at_cl at_AO at_NL mt_235 := at_body at_PN at_PX (pG := [1331]) (pP := []) (pN := []) (pA := []) (pK := []) (pC := []) (by decide +kernel) (by decide +kernel) (by decide +kernel) (by decide +kernel)
set_option maxRecDepth 100000 in
theorem ca_235 : am_Call at_Ts at_cl 60 mt_235 := at_call (KL := 60) (M := mt_235) (pc := 1890) (pi := 15) (ps := 0) (pn := 1889) (pl := 0) (pv := 113) (at_m8 (List.mem_of_getElem? (i := 210) rfl)) (by decide +kernel)
theorem bd_236 : am_Body at_Ts at_P at_cl at_AO at_NL mt_236 := at_body at_PN at_PX (pG := []) (pP := []) (pN := []) (pA := []) (pK := []) (pC := []) (by decide +kernel) (by decide +kernel) (by decide +kernel) (by decide +kernel)
set_option maxRecDepth 100000 in
theorem ca_236 : am_Call at_Ts at_cl 60 mt_236 := at_call (KL := 60) (M := mt_236) (pc := 1886) (pi := 15) (ps := 1885) (pn := 0) (pl := 0) (pv := 0) (at_m8 (List.mem_of_getElem? (i := 206) rfl)) (by decide +kernel)
theorem bd_237 : am_Body at_Ts at_P at_cl at_AO at_NL mt_237 := at_body at_PN at_PX (pG := []) (pP := []) (pN := []) (pA := []) (pK := []) (pC := [1884, 1887, 1891]) (by decide +kernel) (by decide +kernel) (by decide +kernel) (by decide +kernel)
set_option maxRecDepth 100000 in
theorem ca_237 : am_Call at_Ts at_cl 60 mt_237 := at_call (KL := 60) (M := mt_237) (pc := 1883) (pi := 15) (ps := 0) (pn := 1881) (pl := 1882) (pv := 0) (at_m8 (List.mem_of_getElem? (i := 203) rfl)) (by decide +kernel)
theorem bd_238 : am_Body at_Ts at_P at_cl at_AO at_NL mt_238 := at_body at_PN at_PX (pG := [1332, 1346, 1347]) (pP := []) (pN := []) (pA := []) (pK := []) (pC := [1895, 1899, 1761, 1764, 1779, 1903, 1907]) (by decide +kernel) (by decide +kernel) (by decide +kernel) (by decide +kernel)
set_option maxRecDepth 100000 in
theorem ca_238 : am_Call at_Ts at_cl 60 mt_238 := at_call (KL := 60) (M := mt_238) (pc := 1894) (pi := 15) (ps := 0) (pn := 1893) (pl := 0) (pv := 114) (at_m8 (List.mem_of_getElem? (i := 214) rfl)) (by decide +kernel)
theorem bd_239 : am_Body at_Ts at_P at_cl at_AO at_NL mt_239 := at_body at_PN at_PX (pG := [1350, 1347, 1346]) (pP := []) (pN := []) (pA := []) (pK := []) (pC := [1772, 1923, 1931]) (by decide +kernel) (by decide +kernel) (by decide +kernel) (by decide +kernel)
set_option maxRecDepth 100000 in
theorem ca_239 : am_Call at_Ts at_cl 60 mt_239 := at_call (KL := 60) (M := mt_239) (pc := 1922) (pi := 15) (ps := 0) (pn := 1921) (pl := 0) (pv := 120) (at_m9 (List.mem_of_getElem? (i := 2) rfl)) (by decide +kernel)
theorem bd_240 : am_Body at_Ts at_P at_cl at_AO at_NL mt_240 := at_body at_PN at_PX (pG := [1351, 1279, 1344, 1345, 1346]) (pP := []) (pN := []) (pA := []) (pK := []) (pC := [1927, 1776]) (by decide +kernel) (by decide +kernel) (by decide +kernel) (by decide +kernel)
set_option maxRecDepth 100000 in
theorem ca_240 : am_Call at_Ts at_cl 60 mt_240 := at_call (KL := 60) (M := mt_240) (pc := 1926) (pi := 15) (ps := 0) (pn := 1925) (pl := 0) (pv := 121) (at_m9 (List.mem_of_getElem? (i := 6) rfl)) (by decide +kernel)
theorem bd_241 : am_Body at_Ts at_P at_cl at_AO at_NL mt_241 := at_body at_PN at_PX (pG := []) (pP := []) (pN := []) (pA := []) (pK := []) (pC := []) (by decide +kernel) (by decide +kernel) (by decide +kernel) (by decide +kernel)
set_option maxRecDepth 100000 in
theorem ca_241 : am_Call at_Ts at_cl 60 mt_241 := at_call (KL := 60) (M := mt_241) (pc := 1933) (pi := 15) (ps := 1932) (pn := 0) (pl := 0) (pv := 0) (at_m9 (List.mem_of_getElem? (i := 13) rfl)) (by decide +kernel)
theorem bd_242 : am_Body at_Ts at_P at_cl at_AO at_NL mt_242 := at_body at_PN at_PX (pG := [1346, 1306, 1307, 1350, 1347]) (pP := [1307]) (pN := []) (pA := []) (pK := []) (pC := [1783, 1772]) (by decide +kernel) (by decide +kernel) (by decide +kernel) (by decide +kernel)
set_option maxRecDepth 100000 in
theorem ca_242 : am_Call at_Ts at_cl 60 mt_242 := at_call (KL := 60) (M := mt_242) (pc := 1937) (pi := 15) (ps := 0) (pn := 1936) (pl := 0) (pv := 123) (at_m9 (List.mem_of_getElem? (i := 17) rfl)) (by decide +kernel)
theorem bd_243 : am_Body at_Ts at_P at_cl at_AO at_NL mt_243 := at_body at_PN at_PX (pG := [1273]) (pP := []) (pN := []) (pA := []) (pK := []) (pC := [1884, 1887, 1915]) (by decide +kernel) (by decide +kernel) (by decide +kernel) (by decide +kernel)
set_option maxRecDepth 100000 in
theorem ca_243 : am_Call at_Ts at_cl 60 mt_243 := at_call (KL := 60) (M := mt_243) (pc := 1914) (pi := 15) (ps := 0) (pn := 1912) (pl := 1913) (pv := 0) (at_m8 (List.mem_of_getElem? (i := 234) rfl)) (by decide +kernel)
theorem bd_244 : am_Body at_Ts at_P at_cl at_AO at_NL mt_244 := at_body at_PN at_PX (pG := [1332, 1280, 1329, 1275, 1276, 1336]) (pP := [1351]) (pN := []) (pA := []) (pK := []) (pC := [1895, 1899, 1919, 1934, 1903, 1907]) (by decide +kernel) (by decide +kernel) (by decide +kernel) (by decide +kernel)
set_option maxRecDepth 100000 in
theorem ca_244 : am_Call at_Ts at_cl 60 mt_244 := at_call (KL := 60) (M := mt_244) (pc := 1918) (pi := 15) (ps := 0) (pn := 1917) (pl := 0) (pv := 119) (at_m8 (List.mem_of_getElem? (i := 238) rfl)) (by decide +kernel)
theorem bd_245 : am_Body at_Ts at_P at_cl at_AO at_NL mt_245 := at_body at_PN at_PX (pG := []) (pP := []) (pN := []) (pA := []) (pK := []) (pC := [1884, 1887, 1942]) (by decide +kernel) (by decide +kernel) (by decide +kernel) (by decide +kernel)
set_option maxRecDepth 100000 in
theorem ca_245 : am_Call at_Ts at_cl 60 mt_245 := at_call (KL := 60) (M := mt_245) (pc := 1941) (pi := 15) (ps := 0) (pn := 1939) (pl := 1940) (pv := 0) (at_m9 (List.mem_of_getElem? (i := 21) rfl)) (by decide +kernel)
theorem bd_246 : am_Body at_Ts at_P at_cl at_AO at_NL mt_246 := at_body at_PN at_PX (pG := [1332, 1340, 1341, 1342, 1336, 1329]) (pP := []) (pN := []) (pA := []) (pK := []) (pC := [1895, 1899, 1919, 1934, 1903, 1907]) (by decide +kernel) (by decide +kernel) (by decide +kernel) (by decide +kernel)
set_option maxRecDepth 100000 in
theorem ca_246 : am_Call at_Ts at_cl 60 mt_246 := at_call (KL := 60) (M := mt_246) (pc := 1945) (pi := 15) (ps := 0) (pn := 1944) (pl := 0) (pv := 124) (at_m9 (List.mem_of_getElem? (i := 25) rfl)) (by decide +kernel)
theorem bd_247 : am_Body at_Ts at_P at_cl at_AO at_NL mt_247 := at_body at_PN at_PX (pG := [1335, 1334]) (pP := []) (pN := []) (pA := []) (pK := []) (pC := [1872]) (by decide +kernel) (by decide +kernel) (by decide +kernel) (by decide +kernel)
set_option maxRecDepth 100000 in
theorem ca_247 : am_Call at_Ts at_cl 60 mt_247 := at_call (KL := 60) (M := mt_247) (pc := 1953) (pi := 15) (ps := 0) (pn := 1952) (pl := 0) (pv := 125) (at_m9 (List.mem_of_getElem? (i := 33) rfl)) (by decide +kernel)
theorem bd_248 : am_Body at_Ts at_P at_cl at_AO at_NL mt_248 := at_body at_PN at_PX (pG := [1353, 1306, 1307, 1352]) (pP := [1307]) (pN := []) (pA := []) (pK := []) (pC := []) (by decide +kernel) (by decide +kernel) (by decide +kernel) (by decide +kernel)
set_option maxRecDepth 100000 in
theorem ca_248 : am_Call at_Ts at_cl 60 mt_248 := at_call (KL := 60) (M := mt_248) (pc := 1977) (pi := 15) (ps := 0) (pn := 1976) (pl := 0) (pv := 131) (at_m9 (List.mem_of_getElem? (i := 57) rfl)) (by decide +kernel)
theorem bd_249 : am_Body at_Ts at_P at_cl at_AO at_NL mt_249 := at_body at_PN at_PX (pG := [1352, 1260, 1343, 1344, 1261, 1345]) (pP := [1353, 1343]) (pN := []) (pA := []) (pK := []) (pC := []) (by decide +kernel) (by decide +kernel) (by decide +kernel) (by decide +kernel)
set_option maxRecDepth 100000 in
theorem ca_249 : am_Call at_Ts at_cl 60 mt_249 := at_call (KL := 60) (M := mt_249) (pc := 1981) (pi := 15) (ps := 0) (pn := 1980) (pl := 0) (pv := 132) (at_m9 (List.mem_of_getElem? (i := 61) rfl)) (by decide +kernel)
theorem bd_250 : am_Body at_Ts at_P at_cl at_AO at_NL mt_250 := at_body at_PN at_PX (pG := [1334, 1335]) (pP := []) (pN := []) (pA := []) (pK := []) (pC := [1872, 1974, 1903]) (by decide +kernel) (by decide +kernel) (by decide +kernel) (by decide +kernel)
set_option maxRecDepth 100000 in
theorem ca_250 : am_Call at_Ts at_cl 60 mt_250 := at_call (KL := 60) (M := mt_250) (pc := 1973) (pi := 15) (ps := 0) (pn := 1972) (pl := 0) (pv := 130) (at_m9 (List.mem_of_getElem? (i := 53) rfl)) (by decide +kernel)
theorem bd_251 : am_Body at_Ts at_P at_cl at_AO at_NL mt_251 := at_body at_PN at_PX (pG := [1340, 1341, 1342, 1307, 1306]) (pP := []) (pN := []) (pA := []) (pK := []) (pC := [1974]) (by decide +kernel) (by decide +kernel) (by decide +kernel) (by decide +kernel)
set_option maxRecDepth 100000 in
theorem ca_251 : am_Call at_Ts at_cl 60 mt_251 := at_call (KL := 60) (M := mt_251) (pc := 2005) (pi := 15) (ps := 0) (pn := 2004) (pl := 0) (pv := 137) (at_m9 (List.mem_of_getElem? (i := 85) rfl)) (by decide +kernel)
theorem bd_252 : am_Body at_Ts at_P at_cl at_AO at_NL mt_252 := at_body at_PN at_PX (pG := [1343, 1332, 1337]) (pP := []) (pN := []) (pA := []) (pK := []) (pC := [1887, 1950, 1954]) (by decide +kernel) (by decide +kernel) (by decide +kernel) (by decide +kernel)
set_option maxRecDepth 100000 in
theorem ca_252 : am_Call at_Ts at_cl 60 mt_252 := at_call (KL := 60) (M := mt_252) (pc := 1949) (pi := 15) (ps := 0) (pn := 1947) (pl := 1948) (pv := 0) (at_m9 (List.mem_of_getElem? (i := 29) rfl)) (by decide +kernel)
theorem bd_253 : am_Body at_Ts at_P at_cl at_AO at_NL mt_253 := at_body at_PN at_PX (pG := [1332, 1343, 1345, 1352, 1338, 1257, 1259, 1344, 1337]) (pP := [1349, 1353, 1343]) (pN := []) (pA := []) (pK := []) (pC := [1958, 1970, 1978, 1982, 1986]) (by decide +kernel) (by decide +kernel) (by decide +kernel) (by decide +kernel)
set_option maxRecDepth 100000 in
theorem ca_253 : am_Call at_Ts at_cl 60 mt_253 := at_call (KL := 60) (M := mt_253) (pc := 1957) (pi := 15) (ps := 0) (pn := 1956) (pl := 0) (pv := 126) (at_m9 (List.mem_of_getElem? (i := 37) rfl)) (by decide +kernel)
theorem bd_254 : am_Body at_Ts at_P at_cl at_AO at_NL mt_254 := at_body at_PN at_PX (pG := [1340, 1342, 1335, 1334, 1341, 1337]) (pP := []) (pN := []) (pA := []) (pK := []) (pC := [1872]) (by decide +kernel) (by decide +kernel) (by decide +kernel) (by decide +kernel)
set_option maxRecDepth 100000 in
theorem ca_254 : am_Call at_Ts at_cl 60 mt_254 := at_call (KL := 60) (M := mt_254) (pc := 1985) (pi := 15) (ps := 0) (pn := 1984) (pl := 0) (pv := 133) (at_m9 (List.mem_of_getElem? (i := 65) rfl)) (by decide +kernel)
