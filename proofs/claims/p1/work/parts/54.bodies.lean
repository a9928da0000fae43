/-! what a program decides of each method -/
theorem bd_127 : am_Body at_Ts at_P at_cl at_AO at_NL mt_127 := at_body at_PN at_PX (pG := [459, 433, 477, 457, 195, 97, 84, 473, 463, 475, 472, 476, 424, 435]) (pP := [435, 433]) (pN := []) (pA := []) (pK := []) (pC := [1016, 1022, 1039, 1043, 1048, 1031, 1052]) (by decide +kernel) (by decide +kernel) (by decide +kernel) (by decide +kernel)
set_option maxRecDepth 100000 in
theorem ca_127 : am_Call at_Ts at_cl 60 mt_127 := at_call (KL := 60) (M := mt_127) (pc := 1015) (pi := 12) (ps := 0) (pn := 1014) (pl := 0) (pv := 48) (at_m5 (List.mem_of_getElem? (i := 55) rfl)) (by decide +kernel)
theorem bd_128 : am_Body at_Ts at_P at_cl at_AO at_NL mt_128 := at_body at_PN at_PX (pG := [471, 457, 195, 89, 459, 421]) (pP := [133]) (pN := []) (pA := []) (pK := []) (pC := [1020, 1011, 1021, 1010]) (by decide +kernel) (by decide +kernel) (by decide +kernel) (by decide +kernel)
set_option maxRecDepth 100000 in
theorem ca_128 : am_Call at_Ts at_cl 60 mt_128 := at_call (KL := 60) (M := mt_128) (pc := 1019) (pi := 12) (ps := 0) (pn := 1018) (pl := 0) (pv := 49) (at_m5 (List.mem_of_getElem? (i := 59) rfl)) (by decide +kernel)
theorem bd_129 : am_Body at_Ts at_P at_cl at_AO at_NL mt_129 := at_body at_PN at_PX (pG := [459, 418, 405, 476, 402, 471, 133, 390, 470]) (pP := [405, 402]) (pN := []) (pA := []) (pK := []) (pC := [1026, 1031, 1034]) (by decide +kernel) (by decide +kernel) (by decide +kernel) (by decide +kernel)
set_option maxRecDepth 100000 in
theorem ca_129 : am_Call at_Ts at_cl 60 mt_129 := at_call (KL := 60) (M := mt_129) (pc := 1025) (pi := 12) (ps := 0) (pn := 1024) (pl := 0) (pv := 50) (at_m5 (List.mem_of_getElem? (i := 65) rfl)) (by decide +kernel)
theorem bd_130 : am_Body at_Ts at_P at_cl at_AO at_NL mt_130 := at_body at_PN at_PX (pG := [459, 418, 471, 133, 421, 473, 464, 398, 390, 470, 394, 474]) (pP := [133, 398]) (pN := []) (pA := []) (pK := []) (pC := [1010, 1011, 1034]) (by decide +kernel) (by decide +kernel) (by decide +kernel) (by decide +kernel)
set_option maxRecDepth 100000 in
theorem ca_130 : am_Call at_Ts at_cl 60 mt_130 := at_call (KL := 60) (M := mt_130) (pc := 1042) (pi := 12) (ps := 0) (pn := 1041) (pl := 0) (pv := 51) (at_m5 (List.mem_of_getElem? (i := 82) rfl)) (by decide +kernel)
theorem bd_131 : am_Body at_Ts at_P at_cl at_AO at_NL mt_131 := at_body at_PN at_PX (pG := [402, 470, 398, 390, 471, 394]) (pP := [402, 398]) (pN := []) (pA := []) (pK := []) (pC := [1047, 938]) (by decide +kernel) (by decide +kernel) (by decide +kernel) (by decide +kernel)
set_option maxRecDepth 100000 in
theorem ca_131 : am_Call at_Ts at_cl 60 mt_131 := at_call (KL := 60) (M := mt_131) (pc := 1046) (pi := 12) (ps := 0) (pn := 1045) (pl := 0) (pv := 52) (at_m5 (List.mem_of_getElem? (i := 86) rfl)) (by decide +kernel)
theorem bd_132 : am_Body at_Ts at_P at_cl at_AO at_NL mt_132 := at_body at_PN at_PX (pG := [459, 418, 398, 394, 472, 390, 470, 471]) (pP := []) (pN := []) (pA := []) (pK := []) (pC := [1034]) (by decide +kernel) (by decide +kernel) (by decide +kernel) (by decide +kernel)
set_option maxRecDepth 100000 in
theorem ca_132 : am_Call at_Ts at_cl 60 mt_132 := at_call (KL := 60) (M := mt_132) (pc := 1051) (pi := 12) (ps := 0) (pn := 1050) (pl := 0) (pv := 53) (at_m5 (List.mem_of_getElem? (i := 91) rfl)) (by decide +kernel)
theorem bd_133 : am_Body at_Ts at_P at_cl at_AO at_NL mt_133 := at_body at_PN at_PX (pG := []) (pP := []) (pN := []) (pA := []) (pK := []) (pC := []) (by decide +kernel) (by decide +kernel) (by decide +kernel) (by decide +kernel)
set_option maxRecDepth 100000 in
theorem ca_133 : am_Call at_Ts at_cl 60 mt_133 := at_call (KL := 60) (M := mt_133) (pc := 1033) (pi := 12) (ps := 1032) (pn := 0) (pl := 0) (pv := 0) (at_m5 (List.mem_of_getElem? (i := 73) rfl)) (by decide +kernel)
theorem bd_134 : am_Body at_Ts at_P at_cl at_AO at_NL mt_134 := at_body at_PN at_PX (pG := [459, 418, 390]) (pP := []) (pN := []) (pA := []) (pK := []) (pC := [1078, 1052]) (by decide +kernel) (by decide +kernel) (by decide +kernel) (by decide +kernel)
set_option maxRecDepth 100000 in
theorem ca_134 : am_Call at_Ts at_cl 60 mt_134 := at_call (KL := 60) (M := mt_134) (pc := 1077) (pi := 12) (ps := 0) (pn := 1075) (pl := 1076) (pv := 0) (at_m5 (List.mem_of_getElem? (i := 117) rfl)) (by decide +kernel)
theorem bd_135 : am_Body at_Ts at_P at_cl at_AO at_NL mt_135 := at_body at_PN at_PX (pG := [459, 418, 390, 424, 463]) (pP := [133]) (pN := []) (pA := []) (pK := []) (pC := [925, 931, 1026, 926, 1069, 1052]) (by decide +kernel) (by decide +kernel) (by decide +kernel) (by decide +kernel)
set_option maxRecDepth 100000 in
theorem ca_135 : am_Call at_Ts at_cl 60 mt_135 := at_call (KL := 60) (M := mt_135) (pc := 1086) (pi := 12) (ps := 0) (pn := 1084) (pl := 1085) (pv := 0) (at_m5 (List.mem_of_getElem? (i := 126) rfl)) (by decide +kernel)
theorem bd_136 : am_Body at_Ts at_P at_cl at_AO at_NL mt_136 := at_body at_PN at_PX (pG := [459, 424, 463, 418, 427, 457, 429, 205, 167, 431]) (pP := [424, 427, 167]) (pN := []) (pA := []) (pK := []) (pC := [1056, 947, 1060]) (by decide +kernel) (by decide +kernel) (by decide +kernel) (by decide +kernel)
set_option maxRecDepth 100000 in
theorem ca_136 : am_Call at_Ts at_cl 60 mt_136 := at_call (KL := 60) (M := mt_136) (pc := 1055) (pi := 12) (ps := 0) (pn := 1054) (pl := 0) (pv := 54) (at_m5 (List.mem_of_getElem? (i := 95) rfl)) (by decide +kernel)
theorem bd_137 : am_Body at_Ts at_P at_cl at_AO at_NL mt_137 := at_body at_PN at_PX (pG := [459, 418]) (pP := []) (pN := []) (pA := []) (pK := []) (pC := []) (by decide +kernel) (by decide +kernel) (by decide +kernel) (by decide +kernel)
set_option maxRecDepth 100000 in
theorem ca_137 : am_Call at_Ts at_cl 60 mt_137 := at_call (KL := 60) (M := mt_137) (pc := 1059) (pi := 12) (ps := 0) (pn := 1058) (pl := 0) (pv := 55) (at_m5 (List.mem_of_getElem? (i := 99) rfl)) (by decide +kernel)
theorem bd_138 : am_Body at_Ts at_P at_cl at_AO at_NL mt_138 := at_body at_PN at_PX (pG := []) (pP := []) (pN := []) (pA := []) (pK := []) (pC := [1104, 1105, 1110, 1121, 1122]) (by decide +kernel) (by decide +kernel) (by decide +kernel) (by decide +kernel)
set_option maxRecDepth 100000 in
theorem ca_138 : am_Call at_Ts at_cl 60 mt_138 := at_call (KL := 60) (M := mt_138) (pc := 1103) (pi := 12) (ps := 0) (pn := 1101) (pl := 1102) (pv := 0) (at_m5 (List.mem_of_getElem? (i := 143) rfl)) (by decide +kernel)
theorem bd_139 : am_Body at_Ts at_P at_cl at_AO at_NL mt_139 := at_body at_PN at_PX (pG := [133]) (pP := []) (pN := []) (pA := []) (pK := []) (pC := [921, 1109]) (by decide +kernel) (by decide +kernel) (by decide +kernel) (by decide +kernel)
set_option maxRecDepth 100000 in
theorem ca_139 : am_Call at_Ts at_cl 60 mt_139 := at_call (KL := 60) (M := mt_139) (pc := 1108) (pi := 12) (ps := 0) (pn := 1107) (pl := 0) (pv := 56) (at_m5 (List.mem_of_getElem? (i := 148) rfl)) (by decide +kernel)
theorem bd_140 : am_Body at_Ts at_P at_cl at_AO at_NL mt_140 := at_body at_PN at_PX (pG := [459, 418, 398, 457, 214, 429]) (pP := []) (pN := []) (pA := []) (pK := []) (pC := [1114, 1115, 1120]) (by decide +kernel) (by decide +kernel) (by decide +kernel) (by decide +kernel)
set_option maxRecDepth 100000 in
theorem ca_140 : am_Call at_Ts at_cl 60 mt_140 := at_call (KL := 60) (M := mt_140) (pc := 1113) (pi := 12) (ps := 0) (pn := 1112) (pl := 0) (pv := 57) (at_m5 (List.mem_of_getElem? (i := 153) rfl)) (by decide +kernel)
theorem bd_141 : am_Body at_Ts at_P at_cl at_AO at_NL mt_141 := at_body at_PN at_PX (pG := [133]) (pP := []) (pN := []) (pA := []) (pK := []) (pC := [921, 1119]) (by decide +kernel) (by decide +kernel) (by decide +kernel) (by decide +kernel)
set_option maxRecDepth 100000 in
theorem ca_141 : am_Call at_Ts at_cl 60 mt_141 := at_call (KL := 60) (M := mt_141) (pc := 1118) (pi := 12) (ps := 0) (pn := 1117) (pl := 0) (pv := 58) (at_m5 (List.mem_of_getElem? (i := 158) rfl)) (by decide +kernel)
theorem bd_142 : am_Body at_Ts at_P at_cl at_AO at_NL mt_142 := at_body at_PN at_PX (pG := [459, 418, 405, 133, 458, 305]) (pP := []) (pN := []) (pA := []) (pK := []) (pC := [921, 932, 925, 971, 931, 1002, 1126, 1127]) (by decide +kernel) (by decide +kernel) (by decide +kernel) (by decide +kernel)
set_option maxRecDepth 100000 in
theorem ca_142 : am_Call at_Ts at_cl 60 mt_142 := at_call (KL := 60) (M := mt_142) (pc := 1125) (pi := 12) (ps := 0) (pn := 1124) (pl := 0) (pv := 59) (at_m5 (List.mem_of_getElem? (i := 165) rfl)) (by decide +kernel)
theorem bd_143 : am_Body at_Ts at_P at_cl at_AO at_NL mt_143 := at_body at_PN at_PX (pG := [417]) (pP := [417, 420]) (pN := [380]) (pA := [380]) (pK := []) (pC := [379, 383]) (by decide +kernel) (by decide +kernel) (by decide +kernel) (by decide +kernel)
set_option maxRecDepth 100000 in
theorem ca_143 : am_Call at_Ts at_cl 60 mt_143 := at_call (KL := 60) (M := mt_143) (pc := 378) (pi := 13) (ps := 0) (pn := 377) (pl := 0) (pv := 0) (at_m2 (List.mem_of_getElem? (i := 138) rfl)) (by decide +kernel)
theorem bd_144 : am_Body at_Ts at_P at_cl at_AO at_NL mt_144 := at_body at_PN at_PX (pG := []) (pP := [422, 425]) (pN := []) (pA := []) (pK := []) (pC := []) (by decide +kernel) (by decide +kernel) (by decide +kernel) (by decide +kernel)
set_option maxRecDepth 100000 in
theorem ca_144 : am_Call at_Ts at_cl 60 mt_144 := at_call (KL := 60) (M := mt_144) (pc := 733) (pi := 13) (ps := 0) (pn := 731) (pl := 732) (pv := 0) (at_m4 (List.mem_of_getElem? (i := 13) rfl)) (by decide +kernel)
theorem bd_145 : am_Body at_Ts at_P at_cl at_AO at_NL mt_145 := at_body at_PN at_PX (pG := [159, 432, 155, 420, 417, 391, 144, 150]) (pP := [428, 430, 425, 422, 432, 434, 397, 401, 404]) (pN := []) (pA := []) (pK := []) (pC := [907, 908]) (by decide +kernel) (by decide +kernel) (by decide +kernel) (by decide +kernel)
set_option maxRecDepth 100000 in
theorem ca_145 : am_Call at_Ts at_cl 60 mt_145 := at_call (KL := 60) (M := mt_145) (pc := 906) (pi := 13) (ps := 0) (pn := 904) (pl := 905) (pv := 0) (at_m4 (List.mem_of_getElem? (i := 186) rfl)) (by decide +kernel)
theorem bd_146 : am_Body at_Ts at_P at_cl at_AO at_NL mt_146 := at_body at_PN at_PX (pG := [422, 425, 428, 430, 432, 434, 420, 417]) (pP := [422, 425, 428, 430, 432, 434]) (pN := []) (pA := []) (pK := []) (pC := [1095]) (by decide +kernel) (by decide +kernel) (by decide +kernel) (by decide +kernel)
set_option maxRecDepth 100000 in
theorem ca_146 : am_Call at_Ts at_cl 60 mt_146 := at_call (KL := 60) (M := mt_146) (pc := 1094) (pi := 13) (ps := 0) (pn := 1092) (pl := 1093) (pv := 0) (at_m5 (List.mem_of_getElem? (i := 134) rfl)) (by decide +kernel)
