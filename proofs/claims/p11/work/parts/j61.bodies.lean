/-! what a program decides of each method -/
theorem bd_272 : am_Body at_Ts at_P at_cl at_AO at_NL mt_272 := at_body at_PN at_PX (pG := [1273, 1276, 1346, 1275, 1313]) (pP := []) (pN := []) (pA := []) (pK := []) (pC := [1787]) (by decide +kernel) (by decide +kernel) (by decide +kernel) (by decide +kernel)
set_option maxRecDepth 100000 in
theorem ca_272 : am_Call at_Ts at_cl 60 mt_272 := at_call (KL := 60) (M := mt_272) (pc := 2070) (pi := 15) (ps := 0) (pn := 2068) (pl := 2069) (pv := 0) (at_m9 (List.mem_of_getElem? (i := 150) rfl)) (by decide +kernel)
