/-! what a program decides of each method -/
theorem bd_270 : am_Body at_Ts at_P at_cl at_AO at_NL mt_270 := at_body at_PN at_PX (pG := [1332, 1333, 1347, 1314]) (pP := []) (pN := []) (pA := []) (pK := []) (pC := [1892, 1900, 1792]) (by decide +kernel) (by decide +kernel) (by decide +kernel) (by decide +kernel)
set_option maxRecDepth 100000 in
theorem ca_270 : am_Call at_Ts at_cl 60 mt_270 := at_call (KL := 60) (M := mt_270) (pc := 2063) (pi := 15) (ps := 0) (pn := 2061) (pl := 2062) (pv := 0) (at_m9 (List.mem_of_getElem? (i := 143) rfl)) (by decide +kernel)
theorem bd_271 : am_Body at_Ts at_P at_cl at_AO at_NL mt_271 := at_body at_PN at_PX (pG := [1333, 1341, 1343, 1347, 1342, 1314]) (pP := []) (pN := []) (pA := []) (pK := []) (pC := [1892, 2068, 1792]) (by decide +kernel) (by decide +kernel) (by decide +kernel) (by decide +kernel)
set_option maxRecDepth 100000 in
theorem ca_271 : am_Call at_Ts at_cl 60 mt_271 := at_call (KL := 60) (M := mt_271) (pc := 2067) (pi := 15) (ps := 0) (pn := 2065) (pl := 2066) (pv := 0) (at_m9 (List.mem_of_getElem? (i := 147) rfl)) (by decide +kernel)
theorem bd_272 : am_Body at_Ts at_P at_cl at_AO at_NL mt_272 := at_body at_PN at_PX (pG := [1274, 1277, 1347, 1276, 1314]) (pP := []) (pN := []) (pA := []) (pK := []) (pC := [1792]) (by decide +kernel) (by decide +kernel) (by decide +kernel) (by decide +kernel)
set_option maxRecDepth 100000 in
theorem ca_272 : am_Call at_Ts at_cl 60 mt_272 := at_call (KL := 60) (M := mt_272) (pc := 2075) (pi := 15) (ps := 0) (pn := 2073) (pl := 2074) (pv := 0) (at_m9 (List.mem_of_getElem? (i := 155) rfl)) (by decide +kernel)
