/-! what a program decides of each method -/
theorem bd_127 : am_Body at_Ts at_P at_cl at_AO at_NL mt_127 := at_body at_PN at_PX (pG := [458, 428, 476, 456, 195, 97, 84, 472, 462, 474, 471, 475, 419, 430, 432, 469]) (pP := [430, 432, 428]) (pN := []) (pA := []) (pK := []) (pC := [1015, 1021, 1035, 1039, 1043, 1047, 1050, 1051]) (by decide +kernel) (by decide +kernel) (by decide +kernel) (by decide +kernel)
set_option maxRecDepth 100000 in
theorem ca_127 : am_Call at_Ts at_cl 60 mt_127 := at_call (KL := 60) (M := mt_127) (pc := 1014) (pi := 12) (ps := 0) (pn := 1013) (pl := 0) (pv := 48) (at_m5 (List.mem_of_getElem? (i := 54) rfl)) (by decide +kernel)
theorem bd_128 : am_Body at_Ts at_P at_cl at_AO at_NL mt_128 := at_body at_PN at_PX (pG := [470, 456, 195, 89, 458, 416]) (pP := [133]) (pN := []) (pA := []) (pK := []) (pC := [1019, 1010, 1020, 1009]) (by decide +kernel) (by decide +kernel) (by decide +kernel) (by decide +kernel)
set_option maxRecDepth 100000 in
theorem ca_128 : am_Call at_Ts at_cl 60 mt_128 := at_call (KL := 60) (M := mt_128) (pc := 1018) (pi := 12) (ps := 0) (pn := 1017) (pl := 0) (pv := 49) (at_m5 (List.mem_of_getElem? (i := 58) rfl)) (by decide +kernel)
theorem bd_129 : am_Body at_Ts at_P at_cl at_AO at_NL mt_129 := at_body at_PN at_PX (pG := [458, 413, 402, 390, 469, 470]) (pP := [402]) (pN := []) (pA := []) (pK := []) (pC := [1025, 1030]) (by decide +kernel) (by decide +kernel) (by decide +kernel) (by decide +kernel)
set_option maxRecDepth 100000 in
theorem ca_129 : am_Call at_Ts at_cl 60 mt_129 := at_call (KL := 60) (M := mt_129) (pc := 1024) (pi := 12) (ps := 0) (pn := 1023) (pl := 0) (pv := 50) (at_m5 (List.mem_of_getElem? (i := 64) rfl)) (by decide +kernel)
theorem bd_130 : am_Body at_Ts at_P at_cl at_AO at_NL mt_130 := at_body at_PN at_PX (pG := [458, 413, 470, 133, 416, 472, 463, 398, 390, 469, 394, 473]) (pP := [133, 398]) (pN := []) (pA := []) (pK := []) (pC := [1009, 1010, 1030]) (by decide +kernel) (by decide +kernel) (by decide +kernel) (by decide +kernel)
set_option maxRecDepth 100000 in
theorem ca_130 : am_Call at_Ts at_cl 60 mt_130 := at_call (KL := 60) (M := mt_130) (pc := 1038) (pi := 12) (ps := 0) (pn := 1037) (pl := 0) (pv := 51) (at_m5 (List.mem_of_getElem? (i := 78) rfl)) (by decide +kernel)
theorem bd_131 : am_Body at_Ts at_P at_cl at_AO at_NL mt_131 := at_body at_PN at_PX (pG := [398, 390, 469, 470, 394]) (pP := [398]) (pN := []) (pA := []) (pK := []) (pC := [937]) (by decide +kernel) (by decide +kernel) (by decide +kernel) (by decide +kernel)
set_option maxRecDepth 100000 in
theorem ca_131 : am_Call at_Ts at_cl 60 mt_131 := at_call (KL := 60) (M := mt_131) (pc := 1042) (pi := 12) (ps := 0) (pn := 1041) (pl := 0) (pv := 52) (at_m5 (List.mem_of_getElem? (i := 82) rfl)) (by decide +kernel)
theorem bd_132 : am_Body at_Ts at_P at_cl at_AO at_NL mt_132 := at_body at_PN at_PX (pG := [458, 413, 398, 394, 471, 390, 469, 470]) (pP := []) (pN := []) (pA := []) (pK := []) (pC := [1030]) (by decide +kernel) (by decide +kernel) (by decide +kernel) (by decide +kernel)
set_option maxRecDepth 100000 in
theorem ca_132 : am_Call at_Ts at_cl 60 mt_132 := at_call (KL := 60) (M := mt_132) (pc := 1046) (pi := 12) (ps := 0) (pn := 1045) (pl := 0) (pv := 53) (at_m5 (List.mem_of_getElem? (i := 86) rfl)) (by decide +kernel)
theorem bd_133 : am_Body at_Ts at_P at_cl at_AO at_NL mt_133 := at_body at_PN at_PX (pG := []) (pP := []) (pN := []) (pA := []) (pK := []) (pC := []) (by decide +kernel) (by decide +kernel) (by decide +kernel) (by decide +kernel)
set_option maxRecDepth 100000 in
theorem ca_133 : am_Call at_Ts at_cl 60 mt_133 := at_call (KL := 60) (M := mt_133) (pc := 1049) (pi := 12) (ps := 1048) (pn := 0) (pl := 0) (pv := 0) (at_m5 (List.mem_of_getElem? (i := 89) rfl)) (by decide +kernel)
theorem bd_134 : am_Body at_Ts at_P at_cl at_AO at_NL mt_134 := at_body at_PN at_PX (pG := [458, 413, 390]) (pP := []) (pN := []) (pA := []) (pK := []) (pC := [1077, 1051]) (by decide +kernel) (by decide +kernel) (by decide +kernel) (by decide +kernel)
set_option maxRecDepth 100000 in
theorem ca_134 : am_Call at_Ts at_cl 60 mt_134 := at_call (KL := 60) (M := mt_134) (pc := 1076) (pi := 12) (ps := 0) (pn := 1074) (pl := 1075) (pv := 0) (at_m5 (List.mem_of_getElem? (i := 116) rfl)) (by decide +kernel)
theorem bd_135 : am_Body at_Ts at_P at_cl at_AO at_NL mt_135 := at_body at_PN at_PX (pG := [458, 413, 390, 419, 462]) (pP := [133]) (pN := []) (pA := []) (pK := []) (pC := [924, 930, 1025, 925, 1068, 1051]) (by decide +kernel) (by decide +kernel) (by decide +kernel) (by decide +kernel)
set_option maxRecDepth 100000 in
theorem ca_135 : am_Call at_Ts at_cl 60 mt_135 := at_call (KL := 60) (M := mt_135) (pc := 1085) (pi := 12) (ps := 0) (pn := 1083) (pl := 1084) (pv := 0) (at_m5 (List.mem_of_getElem? (i := 125) rfl)) (by decide +kernel)
theorem bd_136 : am_Body at_Ts at_P at_cl at_AO at_NL mt_136 := at_body at_PN at_PX (pG := [458, 419, 462, 413, 422, 456, 424, 205, 167, 426]) (pP := [419, 422, 167]) (pN := []) (pA := []) (pK := []) (pC := [1055, 946, 1059]) (by decide +kernel) (by decide +kernel) (by decide +kernel) (by decide +kernel)
set_option maxRecDepth 100000 in
theorem ca_136 : am_Call at_Ts at_cl 60 mt_136 := at_call (KL := 60) (M := mt_136) (pc := 1054) (pi := 12) (ps := 0) (pn := 1053) (pl := 0) (pv := 54) (at_m5 (List.mem_of_getElem? (i := 94) rfl)) (by decide +kernel)
theorem bd_137 : am_Body at_Ts at_P at_cl at_AO at_NL mt_137 := at_body at_PN at_PX (pG := [458, 413]) (pP := []) (pN := []) (pA := []) (pK := []) (pC := []) (by decide +kernel) (by decide +kernel) (by decide +kernel) (by decide +kernel)
set_option maxRecDepth 100000 in
theorem ca_137 : am_Call at_Ts at_cl 60 mt_137 := at_call (KL := 60) (M := mt_137) (pc := 1058) (pi := 12) (ps := 0) (pn := 1057) (pl := 0) (pv := 55) (at_m5 (List.mem_of_getElem? (i := 98) rfl)) (by decide +kernel)
theorem bd_138 : am_Body at_Ts at_P at_cl at_AO at_NL mt_138 := at_body at_PN at_PX (pG := []) (pP := []) (pN := []) (pA := []) (pK := []) (pC := [1103, 1104, 1109, 1120, 1121]) (by decide +kernel) (by decide +kernel) (by decide +kernel) (by decide +kernel)
set_option maxRecDepth 100000 in
theorem ca_138 : am_Call at_Ts at_cl 60 mt_138 := at_call (KL := 60) (M := mt_138) (pc := 1102) (pi := 12) (ps := 0) (pn := 1100) (pl := 1101) (pv := 0) (at_m5 (List.mem_of_getElem? (i := 142) rfl)) (by decide +kernel)
theorem bd_139 : am_Body at_Ts at_P at_cl at_AO at_NL mt_139 := at_body at_PN at_PX (pG := [133]) (pP := []) (pN := []) (pA := []) (pK := []) (pC := [920, 1108]) (by decide +kernel) (by decide +kernel) (by decide +kernel) (by decide +kernel)
set_option maxRecDepth 100000 in
theorem ca_139 : am_Call at_Ts at_cl 60 mt_139 := at_call (KL := 60) (M := mt_139) (pc := 1107) (pi := 12) (ps := 0) (pn := 1106) (pl := 0) (pv := 56) (at_m5 (List.mem_of_getElem? (i := 147) rfl)) (by decide +kernel)
theorem bd_140 : am_Body at_Ts at_P at_cl at_AO at_NL mt_140 := at_body at_PN at_PX (pG := [458, 413, 398, 456, 214, 424]) (pP := []) (pN := []) (pA := []) (pK := []) (pC := [1113, 1114, 1119]) (by decide +kernel) (by decide +kernel) (by decide +kernel) (by decide +kernel)
set_option maxRecDepth 100000 in
theorem ca_140 : am_Call at_Ts at_cl 60 mt_140 := at_call (KL := 60) (M := mt_140) (pc := 1112) (pi := 12) (ps := 0) (pn := 1111) (pl := 0) (pv := 57) (at_m5 (List.mem_of_getElem? (i := 152) rfl)) (by decide +kernel)
theorem bd_141 : am_Body at_Ts at_P at_cl at_AO at_NL mt_141 := at_body at_PN at_PX (pG := [133]) (pP := []) (pN := []) (pA := []) (pK := []) (pC := [920, 1118]) (by decide +kernel) (by decide +kernel) (by decide +kernel) (by decide +kernel)
set_option maxRecDepth 100000 in
theorem ca_141 : am_Call at_Ts at_cl 60 mt_141 := at_call (KL := 60) (M := mt_141) (pc := 1117) (pi := 12) (ps := 0) (pn := 1116) (pl := 0) (pv := 58) (at_m5 (List.mem_of_getElem? (i := 157) rfl)) (by decide +kernel)
theorem bd_142 : am_Body at_Ts at_P at_cl at_AO at_NL mt_142 := at_body at_PN at_PX (pG := [458, 413, 402, 133, 457, 305]) (pP := []) (pN := []) (pA := []) (pK := []) (pC := [920, 931, 924, 970, 930, 1001, 1125, 1126]) (by decide +kernel) (by decide +kernel) (by decide +kernel) (by decide +kernel)
set_option maxRecDepth 100000 in
theorem ca_142 : am_Call at_Ts at_cl 60 mt_142 := at_call (KL := 60) (M := mt_142) (pc := 1124) (pi := 12) (ps := 0) (pn := 1123) (pl := 0) (pv := 59) (at_m5 (List.mem_of_getElem? (i := 164) rfl)) (by decide +kernel)
theorem bd_143 : am_Body at_Ts at_P at_cl at_AO at_NL mt_143 := at_body at_PN at_PX (pG := [412]) (pP := [412, 415]) (pN := [380]) (pA := [380]) (pK := []) (pC := [379, 383]) (by decide +kernel) (by decide +kernel) (by decide +kernel) (by decide +kernel)
set_option maxRecDepth 100000 in
theorem ca_143 : am_Call at_Ts at_cl 60 mt_143 := at_call (KL := 60) (M := mt_143) (pc := 378) (pi := 13) (ps := 0) (pn := 377) (pl := 0) (pv := 0) (at_m2 (List.mem_of_getElem? (i := 138) rfl)) (by decide +kernel)
theorem bd_144 : am_Body at_Ts at_P at_cl at_AO at_NL mt_144 := at_body at_PN at_PX (pG := []) (pP := [417, 420]) (pN := []) (pA := []) (pK := []) (pC := []) (by decide +kernel) (by decide +kernel) (by decide +kernel) (by decide +kernel)
set_option maxRecDepth 100000 in
theorem ca_144 : am_Call at_Ts at_cl 60 mt_144 := at_call (KL := 60) (M := mt_144) (pc := 732) (pi := 13) (ps := 0) (pn := 730) (pl := 731) (pv := 0) (at_m4 (List.mem_of_getElem? (i := 12) rfl)) (by decide +kernel)
theorem bd_145 : am_Body at_Ts at_P at_cl at_AO at_NL mt_145 := at_body at_PN at_PX (pG := [159, 427, 155, 415, 412, 391, 144, 150]) (pP := [423, 425, 420, 417, 427, 429, 431, 397, 401]) (pN := []) (pA := []) (pK := []) (pC := [906, 907]) (by decide +kernel) (by decide +kernel) (by decide +kernel) (by decide +kernel)
set_option maxRecDepth 100000 in
theorem ca_145 : am_Call at_Ts at_cl 60 mt_145 := at_call (KL := 60) (M := mt_145) (pc := 905) (pi := 13) (ps := 0) (pn := 903) (pl := 904) (pv := 0) (at_m4 (List.mem_of_getElem? (i := 185) rfl)) (by decide +kernel)
theorem bd_146 : am_Body at_Ts at_P at_cl at_AO at_NL mt_146 := at_body at_PN at_PX (pG := [431]) (pP := []) (pN := []) (pA := []) (pK := []) (pC := []) (by decide +kernel) (by decide +kernel) (by decide +kernel) (by decide +kernel)
set_option maxRecDepth 100000 in
theorem ca_146 : am_Call at_Ts at_cl 60 mt_146 := at_call (KL := 60) (M := mt_146) (pc := 1004) (pi := 13) (ps := 0) (pn := 1002) (pl := 1003) (pv := 0) (at_m5 (List.mem_of_getElem? (i := 44) rfl)) (by decide +kernel)
theorem bd_147 : am_Body at_Ts at_P at_cl at_AO at_NL mt_147 := at_body at_PN at_PX (pG := [417, 420, 423, 425, 427, 429, 431, 415, 412]) (pP := [417, 420, 423, 425, 427, 429, 431]) (pN := []) (pA := []) (pK := []) (pC := [1094]) (by decide +kernel) (by decide +kernel) (by decide +kernel) (by decide +kernel)
set_option maxRecDepth 100000 in
theorem ca_147 : am_Call at_Ts at_cl 60 mt_147 := at_call (KL := 60) (M := mt_147) (pc := 1093) (pi := 13) (ps := 0) (pn := 1091) (pl := 1092) (pv := 0) (at_m5 (List.mem_of_getElem? (i := 133) rfl)) (by decide +kernel)
