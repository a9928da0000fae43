/-! what a program decides of each method -/
theorem bd_216 : am_Body at_Ts at_P at_cl at_AO at_NL mt_216 := at_body at_PN at_PX (pG := [1307]) (pP := [1308]) (pN := []) (pA := []) (pK := []) (pC := [1853]) (by decide +kernel) (by decide +kernel) (by decide +kernel) (by decide +kernel)
set_option maxRecDepth 100000 in
theorem ca_216 : am_Call at_Ts at_cl 60 mt_216 := at_call (KL := 60) (M := mt_216) (pc := 1852) (pi := 15) (ps := 0) (pn := 1851) (pl := 0) (pv := 106) (at_m8 (List.mem_of_getElem? (i := 172) rfl)) (by decide +kernel)
theorem bd_217 : am_Body at_Ts at_P at_cl at_AO at_NL mt_217 := at_body at_PN at_PX (pG := [1261, 1321, 1262]) (pP := []) (pN := []) (pA := []) (pK := []) (pC := [1845, 1849, 1853, 1837]) (by decide +kernel) (by decide +kernel) (by decide +kernel) (by decide +kernel)
set_option maxRecDepth 100000 in
theorem ca_217 : am_Call at_Ts at_cl 60 mt_217 := at_call (KL := 60) (M := mt_217) (pc := 1860) (pi := 15) (ps := 0) (pn := 1859) (pl := 0) (pv := 108) (at_m8 (List.mem_of_getElem? (i := 180) rfl)) (by decide +kernel)
theorem bd_218 : am_Body at_Ts at_P at_cl at_AO at_NL mt_218 := at_body at_PN at_PX (pG := [1274, 1279, 1320, 1280, 1325, 1318, 1324, 1317, 1319]) (pP := [1322]) (pN := []) (pA := []) (pK := [1832]) (pC := [1820, 1828, 1833, 1861]) (by decide +kernel) (by decide +kernel) (by decide +kernel) (by decide +kernel)
set_option maxRecDepth 100000 in
theorem ca_218 : am_Call at_Ts at_cl 60 mt_218 := at_call (KL := 60) (M := mt_218) (pc := 1819) (pi := 15) (ps := 0) (pn := 1817) (pl := 1818) (pv := 0) (at_m8 (List.mem_of_getElem? (i := 139) rfl)) (by decide +kernel)
theorem bd_219 : am_Body at_Ts at_P at_cl at_AO at_NL mt_219 := at_body at_PN at_PX (pG := [1277, 1276, 1280, 1325, 1318, 1307, 1308, 1317, 1309, 1310, 1326, 1327]) (pP := [1308, 1310, 1327]) (pN := []) (pA := []) (pK := []) (pC := [1762]) (by decide +kernel) (by decide +kernel) (by decide +kernel) (by decide +kernel)
set_option maxRecDepth 100000 in
theorem ca_219 : am_Call at_Ts at_cl 60 mt_219 := at_call (KL := 60) (M := mt_219) (pc := 1864) (pi := 15) (ps := 0) (pn := 1863) (pl := 0) (pv := 109) (at_m8 (List.mem_of_getElem? (i := 184) rfl)) (by decide +kernel)
theorem bd_220 : am_Body at_Ts at_P at_cl at_AO at_NL mt_220 := at_body at_PN at_PX (pG := [1322, 1279, 1328, 1324, 1314]) (pP := []) (pN := []) (pA := []) (pK := []) (pC := [1792]) (by decide +kernel) (by decide +kernel) (by decide +kernel) (by decide +kernel)
set_option maxRecDepth 100000 in
theorem ca_220 : am_Call at_Ts at_cl 60 mt_220 := at_call (KL := 60) (M := mt_220) (pc := 1868) (pi := 15) (ps := 0) (pn := 1866) (pl := 1867) (pv := 0) (at_m8 (List.mem_of_getElem? (i := 188) rfl)) (by decide +kernel)
theorem bd_221 : am_Body at_Ts at_P at_cl at_AO at_NL mt_221 := at_body at_PN at_PX (pG := []) (pP := []) (pN := []) (pA := []) (pK := []) (pC := []) (by decide +kernel) (by decide +kernel) (by decide +kernel) (by decide +kernel)
set_option maxRecDepth 100000 in
theorem ca_221 : am_Call at_Ts at_cl 60 mt_221 := at_call (KL := 60) (M := mt_221) (pc := 1880) (pi := 15) (ps := 0) (pn := 1879) (pl := 0) (pv := 111) (at_m8 (List.mem_of_getElem? (i := 200) rfl)) (by decide +kernel)
theorem bd_222 : am_Body at_Ts at_P at_cl at_AO at_NL mt_222 := at_body at_PN at_PX (pG := []) (pP := []) (pN := []) (pA := []) (pK := []) (pC := []) (by decide +kernel) (by decide +kernel) (by decide +kernel) (by decide +kernel)
set_option maxRecDepth 100000 in
theorem ca_222 : am_Call at_Ts at_cl 60 mt_222 := at_call (KL := 60) (M := mt_222) (pc := 2071) (pi := 15) (ps := 0) (pn := 2070) (pl := 0) (pv := 146) (at_m9 (List.mem_of_getElem? (i := 151) rfl)) (by decide +kernel)
theorem bd_223 : am_Body at_Ts at_P at_cl at_AO at_NL mt_223 := at_body at_PN at_PX (pG := [1340, 1332, 1341, 1333]) (pP := []) (pN := []) (pA := []) (pK := []) (pC := []) (by decide +kernel) (by decide +kernel) (by decide +kernel) (by decide +kernel)
set_option maxRecDepth 100000 in
theorem ca_223 : am_Call at_Ts at_cl 60 mt_223 := at_call (KL := 60) (M := mt_223) (pc := 1884) (pi := 15) (ps := 0) (pn := 1883) (pl := 0) (pv := 112) (at_m8 (List.mem_of_getElem? (i := 204) rfl)) (by decide +kernel)
theorem bd_224 : am_Body at_Ts at_P at_cl at_AO at_NL mt_224 := at_body at_PN at_PX (pG := [1334]) (pP := []) (pN := []) (pA := []) (pK := []) (pC := []) (by decide +kernel) (by decide +kernel) (by decide +kernel) (by decide +kernel)
set_option maxRecDepth 100000 in
theorem ca_224 : am_Call at_Ts at_cl 60 mt_224 := at_call (KL := 60) (M := mt_224) (pc := 1876) (pi := 15) (ps := 0) (pn := 1875) (pl := 0) (pv := 110) (at_m8 (List.mem_of_getElem? (i := 196) rfl)) (by decide +kernel)
theorem bd_225 : am_Body at_Ts at_P at_cl at_AO at_NL mt_225 := at_body at_PN at_PX (pG := [1336, 1335, 1337, 1338, 1339]) (pP := []) (pN := []) (pA := []) (pK := []) (pC := [1877, 1971]) (by decide +kernel) (by decide +kernel) (by decide +kernel) (by decide +kernel)
set_option maxRecDepth 100000 in
theorem ca_225 : am_Call at_Ts at_cl 60 mt_225 := at_call (KL := 60) (M := mt_225) (pc := 1970) (pi := 15) (ps := 0) (pn := 1969) (pl := 0) (pv := 128) (at_m9 (List.mem_of_getElem? (i := 50) rfl)) (by decide +kernel)
theorem bd_226 : am_Body at_Ts at_P at_cl at_AO at_NL mt_226 := at_body at_PN at_PX (pG := [1341, 1343, 1342]) (pP := []) (pN := []) (pA := []) (pK := []) (pC := []) (by decide +kernel) (by decide +kernel) (by decide +kernel) (by decide +kernel)
set_option maxRecDepth 100000 in
theorem ca_226 : am_Call at_Ts at_cl 60 mt_226 := at_call (KL := 60) (M := mt_226) (pc := 1974) (pi := 15) (ps := 0) (pn := 1973) (pl := 0) (pv := 129) (at_m9 (List.mem_of_getElem? (i := 54) rfl)) (by decide +kernel)
theorem bd_227 : am_Body at_Ts at_P at_cl at_AO at_NL mt_227 := at_body at_PN at_PX (pG := [1274, 1334, 1333, 1336, 1277, 1335, 1276, 1337, 1278, 1338, 1339, 1341, 1279, 1344, 1345, 1280, 1346]) (pP := [1329, 1330, 1331, 1332, 1344]) (pN := []) (pA := []) (pK := []) (pC := [1873, 1877, 1881]) (by decide +kernel) (by decide +kernel) (by decide +kernel) (by decide +kernel)
set_option maxRecDepth 100000 in
theorem ca_227 : am_Call at_Ts at_cl 60 mt_227 := at_call (KL := 60) (M := mt_227) (pc := 1872) (pi := 15) (ps := 0) (pn := 1870) (pl := 1871) (pv := 0) (at_m8 (List.mem_of_getElem? (i := 192) rfl)) (by decide +kernel)
theorem bd_228 : am_Body at_Ts at_P at_cl at_AO at_NL mt_228 := at_body at_PN at_PX (pG := [1336, 1348, 1347, 1335]) (pP := [1348]) (pN := []) (pA := []) (pK := []) (pC := [1877]) (by decide +kernel) (by decide +kernel) (by decide +kernel) (by decide +kernel)
set_option maxRecDepth 100000 in
theorem ca_228 : am_Call at_Ts at_cl 60 mt_228 := at_call (KL := 60) (M := mt_228) (pc := 1903) (pi := 15) (ps := 0) (pn := 1902) (pl := 0) (pv := 115) (at_m8 (List.mem_of_getElem? (i := 223) rfl)) (by decide +kernel)
theorem bd_229 : am_Body at_Ts at_P at_cl at_AO at_NL mt_229 := at_body at_PN at_PX (pG := [1308, 1336, 1335, 1307]) (pP := []) (pN := []) (pA := []) (pK := []) (pC := [1877]) (by decide +kernel) (by decide +kernel) (by decide +kernel) (by decide +kernel)
set_option maxRecDepth 100000 in
theorem ca_229 : am_Call at_Ts at_cl 60 mt_229 := at_call (KL := 60) (M := mt_229) (pc := 1911) (pi := 15) (ps := 0) (pn := 1910) (pl := 0) (pv := 117) (at_m8 (List.mem_of_getElem? (i := 231) rfl)) (by decide +kernel)
theorem bd_230 : am_Body at_Ts at_P at_cl at_AO at_NL mt_230 := at_body at_PN at_PX (pG := [1347]) (pP := []) (pN := []) (pA := []) (pK := []) (pC := [1694, 1777]) (by decide +kernel) (by decide +kernel) (by decide +kernel) (by decide +kernel)
set_option maxRecDepth 100000 in
theorem ca_230 : am_Call at_Ts at_cl 60 mt_230 := at_call (KL := 60) (M := mt_230) (pc := 1907) (pi := 15) (ps := 0) (pn := 1906) (pl := 0) (pv := 116) (at_m8 (List.mem_of_getElem? (i := 227) rfl)) (by decide +kernel)
theorem bd_231 : am_Body at_Ts at_P at_cl at_AO at_NL mt_231 := at_body at_PN at_PX (pG := [1301, 1300, 1347]) (pP := []) (pN := []) (pA := []) (pK := []) (pC := [1694, 1698]) (by decide +kernel) (by decide +kernel) (by decide +kernel) (by decide +kernel)
set_option maxRecDepth 100000 in
theorem ca_231 : am_Call at_Ts at_cl 60 mt_231 := at_call (KL := 60) (M := mt_231) (pc := 1935) (pi := 15) (ps := 0) (pn := 1934) (pl := 0) (pv := 122) (at_m9 (List.mem_of_getElem? (i := 15) rfl)) (by decide +kernel)
