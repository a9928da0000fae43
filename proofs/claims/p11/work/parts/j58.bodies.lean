/-! what a program decides of each method -/
theorem bd_218 : am_Body at_Ts at_P at_cl at_AO at_NL mt_218 := at_body at_PN at_PX (pG := [1273, 1278, 1319, 1279, 1324, 1317, 1323, 1316, 1318]) (pP := [1321]) (pN := []) (pA := []) (pK := [1827]) (pC := [1815, 1823, 1828, 1856]) (by decide +kernel) (by decide +kernel) (by decide +kernel) (by decide +kernel)
set_option maxRecDepth 100000 in
theorem ca_218 : am_Call at_Ts at_cl 60 mt_218 := at_call (KL := 60) (M := mt_218) (pc := 1814) (pi := 15) (ps := 0) (pn := 1812) (pl := 1813) (pv := 0) (at_m8 (List.mem_of_getElem? (i := 134) rfl)) (by decide +kernel)
theorem bd_219 : am_Body at_Ts at_P at_cl at_AO at_NL mt_219 := at_body at_PN at_PX (pG := [1276, 1275, 1279, 1324, 1317, 1306, 1307, 1316, 1308, 1309, 1325, 1326]) (pP := [1307, 1309, 1326]) (pN := []) (pA := []) (pK := []) (pC := [1757]) (by decide +kernel) (by decide +kernel) (by decide +kernel) (by decide +kernel)
set_option maxRecDepth 100000 in
theorem ca_219 : am_Call at_Ts at_cl 60 mt_219 := at_call (KL := 60) (M := mt_219) (pc := 1859) (pi := 15) (ps := 0) (pn := 1858) (pl := 0) (pv := 109) (at_m8 (List.mem_of_getElem? (i := 179) rfl)) (by decide +kernel)
theorem bd_220 : am_Body at_Ts at_P at_cl at_AO at_NL mt_220 := at_body at_PN at_PX (pG := [1321, 1278, 1327, 1323, 1313]) (pP := []) (pN := []) (pA := []) (pK := []) (pC := [1787]) (by decide +kernel) (by decide +kernel) (by decide +kernel) (by decide +kernel)
set_option maxRecDepth 100000 in
theorem ca_220 : am_Call at_Ts at_cl 60 mt_220 := at_call (KL := 60) (M := mt_220) (pc := 1863) (pi := 15) (ps := 0) (pn := 1861) (pl := 1862) (pv := 0) (at_m8 (List.mem_of_getElem? (i := 183) rfl)) (by decide +kernel)
theorem bd_221 : am_Body at_Ts at_P at_cl at_AO at_NL mt_221 := at_body at_PN at_PX (pG := []) (pP := []) (pN := []) (pA := []) (pK := []) (pC := []) (by decide +kernel) (by decide +kernel) (by decide +kernel) (by decide +kernel)
set_option maxRecDepth 100000 in
theorem ca_221 : am_Call at_Ts at_cl 60 mt_221 := at_call (KL := 60) (M := mt_221) (pc := 1875) (pi := 15) (ps := 0) (pn := 1874) (pl := 0) (pv := 111) (at_m8 (List.mem_of_getElem? (i := 195) rfl)) (by decide +kernel)
theorem bd_222 : am_Body at_Ts at_P at_cl at_AO at_NL mt_222 := at_body at_PN at_PX (pG := []) (pP := []) (pN := []) (pA := []) (pK := []) (pC := []) (by decide +kernel) (by decide +kernel) (by decide +kernel) (by decide +kernel)
set_option maxRecDepth 100000 in
theorem ca_222 : am_Call at_Ts at_cl 60 mt_222 := at_call (KL := 60) (M := mt_222) (pc := 2066) (pi := 15) (ps := 0) (pn := 2065) (pl := 0) (pv := 146) (at_m9 (List.mem_of_getElem? (i := 146) rfl)) (by decide +kernel)
theorem bd_223 : am_Body at_Ts at_P at_cl at_AO at_NL mt_223 := at_body at_PN at_PX (pG := [1339, 1331, 1340, 1332]) (pP := []) (pN := []) (pA := []) (pK := []) (pC := []) (by decide +kernel) (by decide +kernel) (by decide +kernel) (by decide +kernel)
set_option maxRecDepth 100000 in
theorem ca_223 : am_Call at_Ts at_cl 60 mt_223 := at_call (KL := 60) (M := mt_223) (pc := 1879) (pi := 15) (ps := 0) (pn := 1878) (pl := 0) (pv := 112) (at_m8 (List.mem_of_getElem? (i := 199) rfl)) (by decide +kernel)
theorem bd_224 : am_Body at_Ts at_P at_cl at_AO at_NL mt_224 := at_body at_PN at_PX (pG := [1333]) (pP := []) (pN := []) (pA := []) (pK := []) (pC := []) (by decide +kernel) (by decide +kernel) (by decide +kernel) (by decide +kernel)
set_option maxRecDepth 100000 in
theorem ca_224 : am_Call at_Ts at_cl 60 mt_224 := at_call (KL := 60) (M := mt_224) (pc := 1871) (pi := 15) (ps := 0) (pn := 1870) (pl := 0) (pv := 110) (at_m8 (List.mem_of_getElem? (i := 191) rfl)) (by decide +kernel)
theorem bd_225 : am_Body at_Ts at_P at_cl at_AO at_NL mt_225 := at_body at_PN at_PX (pG := [1335, 1334, 1336, 1337, 1338]) (pP := []) (pN := []) (pA := []) (pK := []) (pC := [1872, 1966]) (by decide +kernel) (by decide +kernel) (by decide +kernel) (by decide +kernel)
set_option maxRecDepth 100000 in
theorem ca_225 : am_Call at_Ts at_cl 60 mt_225 := at_call (KL := 60) (M := mt_225) (pc := 1965) (pi := 15) (ps := 0) (pn := 1964) (pl := 0) (pv := 128) (at_m9 (List.mem_of_getElem? (i := 45) rfl)) (by decide +kernel)
theorem bd_226 : am_Body at_Ts at_P at_cl at_AO at_NL mt_226 := at_body at_PN at_PX (pG := [1340, 1342, 1341]) (pP := []) (pN := []) (pA := []) (pK := []) (pC := []) (by decide +kernel) (by decide +kernel) (by decide +kernel) (by decide +kernel)
set_option maxRecDepth 100000 in
theorem ca_226 : am_Call at_Ts at_cl 60 mt_226 := at_call (KL := 60) (M := mt_226) (pc := 1969) (pi := 15) (ps := 0) (pn := 1968) (pl := 0) (pv := 129) (at_m9 (List.mem_of_getElem? (i := 49) rfl)) (by decide +kernel)
theorem bd_227 : am_Body at_Ts at_P at_cl at_AO at_NL mt_227 := at_body at_PN at_PX (pG := [1273, 1333, 1332, 1335, 1276, 1334, 1275, 1336, 1277, 1337, 1338, 1340, 1278, 1343, 1344, 1279, 1345]) (pP := [1328, 1329, 1330, 1331, 1343]) (pN := []) (pA := []) (pK := []) (pC := [1868, 1872, 1876]) (by decide +kernel) (by decide +kernel) (by decide +kernel) (by decide +kernel)
set_option maxRecDepth 100000 in
theorem ca_227 : am_Call at_Ts at_cl 60 mt_227 := at_call (KL := 60) (M := mt_227) (pc := 1867) (pi := 15) (ps := 0) (pn := 1865) (pl := 1866) (pv := 0) (at_m8 (List.mem_of_getElem? (i := 187) rfl)) (by decide +kernel)
theorem bd_228 : am_Body at_Ts at_P at_cl at_AO at_NL mt_228 := at_body at_PN at_PX (pG := [1335, 1347, 1346, 1334]) (pP := [1347]) (pN := []) (pA := []) (pK := []) (pC := [1872]) (by decide +kernel) (by decide +kernel) (by decide +kernel) (by decide +kernel)
set_option maxRecDepth 100000 in
theorem ca_228 : am_Call at_Ts at_cl 60 mt_228 := at_call (KL := 60) (M := mt_228) (pc := 1898) (pi := 15) (ps := 0) (pn := 1897) (pl := 0) (pv := 115) (at_m8 (List.mem_of_getElem? (i := 218) rfl)) (by decide +kernel)
theorem bd_229 : am_Body at_Ts at_P at_cl at_AO at_NL mt_229 := at_body at_PN at_PX (pG := [1307, 1335, 1334, 1306]) (pP := []) (pN := []) (pA := []) (pK := []) (pC := [1872]) (by decide +kernel) (by decide +kernel) (by decide +kernel) (by decide +kernel)
set_option maxRecDepth 100000 in
theorem ca_229 : am_Call at_Ts at_cl 60 mt_229 := at_call (KL := 60) (M := mt_229) (pc := 1906) (pi := 15) (ps := 0) (pn := 1905) (pl := 0) (pv := 117) (at_m8 (List.mem_of_getElem? (i := 226) rfl)) (by decide +kernel)
theorem bd_230 : am_Body at_Ts at_P at_cl at_AO at_NL mt_230 := at_body at_PN at_PX (pG := [1346]) (pP := []) (pN := []) (pA := []) (pK := []) (pC := [1689, 1772]) (by decide +kernel) (by decide +kernel) (by decide +kernel) (by decide +kernel)
set_option maxRecDepth 100000 in
theorem ca_230 : am_Call at_Ts at_cl 60 mt_230 := at_call (KL := 60) (M := mt_230) (pc := 1902) (pi := 15) (ps := 0) (pn := 1901) (pl := 0) (pv := 116) (at_m8 (List.mem_of_getElem? (i := 222) rfl)) (by decide +kernel)
theorem bd_231 : am_Body at_Ts at_P at_cl at_AO at_NL mt_231 := at_body at_PN at_PX (pG := [1300, 1299, 1346]) (pP := []) (pN := []) (pA := []) (pK := []) (pC := [1689, 1693]) (by decide +kernel) (by decide +kernel) (by decide +kernel) (by decide +kernel)
set_option maxRecDepth 100000 in
theorem ca_231 : am_Call at_Ts at_cl 60 mt_231 := at_call (KL := 60) (M := mt_231) (pc := 1930) (pi := 15) (ps := 0) (pn := 1929) (pl := 0) (pv := 122) (at_m9 (List.mem_of_getElem? (i := 10) rfl)) (by decide +kernel)
theorem bd_232 : am_Body at_Ts at_P at_cl at_AO at_NL mt_232 := at_body at_PN at_PX (pG := [1330, 1331, 1329, 1280, 1328]) (pP := [1330]) (pN := []) (pA := []) (pK := []) (pC := [1876]) (by decide +kernel) (by decide +kernel) (by decide +kernel) (by decide +kernel)
set_option maxRecDepth 100000 in
theorem ca_232 : am_Call at_Ts at_cl 60 mt_232 := at_call (KL := 60) (M := mt_232) (pc := 1910) (pi := 15) (ps := 0) (pn := 1909) (pl := 0) (pv := 118) (at_m8 (List.mem_of_getElem? (i := 230) rfl)) (by decide +kernel)
theorem bd_233 : am_Body at_Ts at_P at_cl at_AO at_NL mt_233 := at_body at_PN at_PX (pG := [1348, 1349]) (pP := [1349]) (pN := []) (pA := []) (pK := []) (pC := [1868, 1962]) (by decide +kernel) (by decide +kernel) (by decide +kernel) (by decide +kernel)
set_option maxRecDepth 100000 in
theorem ca_233 : am_Call at_Ts at_cl 60 mt_233 := at_call (KL := 60) (M := mt_233) (pc := 1961) (pi := 15) (ps := 0) (pn := 1960) (pl := 0) (pv := 127) (at_m9 (List.mem_of_getElem? (i := 41) rfl)) (by decide +kernel)
theorem bd_234 : am_Body at_Ts at_P at_cl at_AO at_NL mt_234 := at_body at_PN at_PX (pG := [1331, 1349, 1333, 1348, 1332]) (pP := [1331]) (pN := []) (pA := []) (pK := []) (pC := [1907]) (by decide +kernel) (by decide +kernel) (by decide +kernel) (by decide +kernel)
set_option maxRecDepth 100000 in
theorem ca_234 : am_Call at_Ts at_cl 60 mt_234 := at_call (KL := 60) (M := mt_234) (pc := 1989) (pi := 15) (ps := 0) (pn := 1988) (pl := 0) (pv := 134) (at_m9 (List.mem_of_getElem? (i := 69) rfl)) (by decide +kernel)
