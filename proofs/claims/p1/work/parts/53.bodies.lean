/-! what a program decides of each method -/
theorem bd_105 : am_Body at_Ts at_P at_cl at_AO at_NL mt_105 := at_body at_PN at_PX (pG := [130, 126, 337]) (pP := [130]) (pN := []) (pA := []) (pK := []) (pC := [878, 879, 880, 868]) (by decide +kernel) (by decide +kernel) (by decide +kernel) (by decide +kernel)
set_option maxRecDepth 100000 in
theorem ca_105 : am_Call at_Ts at_cl 60 mt_105 := at_call (KL := 60) (M := mt_105) (pc := 877) (pi := 11) (ps := 0) (pn := 876) (pl := 0) (pv := 40) (at_m4 (List.mem_of_getElem? (i := 157) rfl)) (by decide +kernel)
theorem bd_106 : am_Body at_Ts at_P at_cl at_AO at_NL mt_106 := at_body at_PN at_PX (pG := [332, 188, 95, 334, 342, 193, 82]) (pP := []) (pN := []) (pA := []) (pK := []) (pC := [837, 841]) (by decide +kernel) (by decide +kernel) (by decide +kernel) (by decide +kernel)
set_option maxRecDepth 100000 in
theorem ca_106 : am_Call at_Ts at_cl 60 mt_106 := at_call (KL := 60) (M := mt_106) (pc := 836) (pi := 11) (ps := 0) (pn := 835) (pl := 0) (pv := 31) (at_m4 (List.mem_of_getElem? (i := 116) rfl)) (by decide +kernel)
theorem bd_107 : am_Body at_Ts at_P at_cl at_AO at_NL mt_107 := at_body at_PN at_PX (pG := [332, 193, 87, 335]) (pP := []) (pN := []) (pA := []) (pK := []) (pC := [841, 842, 843, 847]) (by decide +kernel) (by decide +kernel) (by decide +kernel) (by decide +kernel)
set_option maxRecDepth 100000 in
theorem ca_107 : am_Call at_Ts at_cl 60 mt_107 := at_call (KL := 60) (M := mt_107) (pc := 840) (pi := 11) (ps := 0) (pn := 839) (pl := 0) (pv := 32) (at_m4 (List.mem_of_getElem? (i := 120) rfl)) (by decide +kernel)
theorem bd_108 : am_Body at_Ts at_P at_cl at_AO at_NL mt_108 := at_body at_PN at_PX (pG := [334]) (pP := []) (pN := []) (pA := []) (pK := []) (pC := []) (by decide +kernel) (by decide +kernel) (by decide +kernel) (by decide +kernel)
set_option maxRecDepth 100000 in
theorem ca_108 : am_Call at_Ts at_cl 60 mt_108 := at_call (KL := 60) (M := mt_108) (pc := 846) (pi := 11) (ps := 0) (pn := 845) (pl := 0) (pv := 33) (at_m4 (List.mem_of_getElem? (i := 126) rfl)) (by decide +kernel)
theorem bd_109 : am_Body at_Ts at_P at_cl at_AO at_NL mt_109 := at_body at_PN at_PX (pG := [335]) (pP := []) (pN := []) (pA := []) (pK := []) (pC := []) (by decide +kernel) (by decide +kernel) (by decide +kernel) (by decide +kernel)
set_option maxRecDepth 100000 in
theorem ca_109 : am_Call at_Ts at_cl 60 mt_109 := at_call (KL := 60) (M := mt_109) (pc := 850) (pi := 11) (ps := 0) (pn := 849) (pl := 0) (pv := 34) (at_m4 (List.mem_of_getElem? (i := 130) rfl)) (by decide +kernel)
theorem bd_110 : am_Body at_Ts at_P at_cl at_AO at_NL mt_110 := at_body at_PN at_PX (pG := [160, 158, 336]) (pP := []) (pN := []) (pA := []) (pK := []) (pC := [843, 841]) (by decide +kernel) (by decide +kernel) (by decide +kernel) (by decide +kernel)
set_option maxRecDepth 100000 in
theorem ca_110 : am_Call at_Ts at_cl 60 mt_110 := at_call (KL := 60) (M := mt_110) (pc := 854) (pi := 11) (ps := 0) (pn := 853) (pl := 0) (pv := 35) (at_m4 (List.mem_of_getElem? (i := 134) rfl)) (by decide +kernel)
theorem bd_111 : am_Body at_Ts at_P at_cl at_AO at_NL mt_111 := at_body at_PN at_PX (pG := [160, 336, 158, 337]) (pP := [130]) (pN := []) (pA := []) (pK := []) (pC := [841, 863, 843, 864]) (by decide +kernel) (by decide +kernel) (by decide +kernel) (by decide +kernel)
set_option maxRecDepth 100000 in
theorem ca_111 : am_Call at_Ts at_cl 60 mt_111 := at_call (KL := 60) (M := mt_111) (pc := 862) (pi := 11) (ps := 0) (pn := 861) (pl := 0) (pv := 37) (at_m4 (List.mem_of_getElem? (i := 142) rfl)) (by decide +kernel)
theorem bd_112 : am_Body at_Ts at_P at_cl at_AO at_NL mt_112 := at_body at_PN at_PX (pG := [342, 332, 193, 95, 82]) (pP := []) (pN := []) (pA := []) (pK := []) (pC := [868, 847, 869, 870]) (by decide +kernel) (by decide +kernel) (by decide +kernel) (by decide +kernel)
set_option maxRecDepth 100000 in
theorem ca_112 : am_Call at_Ts at_cl 60 mt_112 := at_call (KL := 60) (M := mt_112) (pc := 867) (pi := 11) (ps := 0) (pn := 866) (pl := 0) (pv := 38) (at_m4 (List.mem_of_getElem? (i := 147) rfl)) (by decide +kernel)
theorem bd_113 : am_Body at_Ts at_P at_cl at_AO at_NL mt_113 := at_body at_PN at_PX (pG := [332, 193, 87]) (pP := []) (pN := []) (pA := []) (pK := []) (pC := [842, 843, 847, 863, 864]) (by decide +kernel) (by decide +kernel) (by decide +kernel) (by decide +kernel)
set_option maxRecDepth 100000 in
theorem ca_113 : am_Call at_Ts at_cl 60 mt_113 := at_call (KL := 60) (M := mt_113) (pc := 873) (pi := 11) (ps := 0) (pn := 872) (pl := 0) (pv := 39) (at_m4 (List.mem_of_getElem? (i := 153) rfl)) (by decide +kernel)
theorem bd_114 : am_Body at_Ts at_P at_cl at_AO at_NL mt_114 := at_body at_PN at_PX (pG := [464, 459, 421, 463]) (pP := [459, 461, 463, 464, 470, 471, 457, 458, 465, 466, 469]) (pN := [374, 454, 453]) (pA := [453]) (pK := []) (pC := [373, 376, 455, 456]) (by decide +kernel) (by decide +kernel) (by decide +kernel) (by decide +kernel)
set_option maxRecDepth 100000 in
theorem ca_114 : am_Call at_Ts at_cl 60 mt_114 := at_call (KL := 60) (M := mt_114) (pc := 372) (pi := 12) (ps := 0) (pn := 371) (pl := 0) (pv := 0) (at_m2 (List.mem_of_getElem? (i := 132) rfl)) (by decide +kernel)
theorem bd_115 : am_Body at_Ts at_P at_cl at_AO at_NL mt_115 := at_body at_PN at_PX (pG := [459, 418, 390]) (pP := []) (pN := []) (pA := []) (pK := []) (pC := []) (by decide +kernel) (by decide +kernel) (by decide +kernel) (by decide +kernel)
set_option maxRecDepth 100000 in
theorem ca_115 : am_Call at_Ts at_cl 60 mt_115 := at_call (KL := 60) (M := mt_115) (pc := 924) (pi := 12) (ps := 0) (pn := 923) (pl := 0) (pv := 43) (at_m4 (List.mem_of_getElem? (i := 204) rfl)) (by decide +kernel)
theorem bd_116 : am_Body at_Ts at_P at_cl at_AO at_NL mt_116 := at_body at_PN at_PX (pG := []) (pP := []) (pN := []) (pA := []) (pK := []) (pC := [921, 925, 926]) (by decide +kernel) (by decide +kernel) (by decide +kernel) (by decide +kernel)
set_option maxRecDepth 100000 in
theorem ca_116 : am_Call at_Ts at_cl 60 mt_116 := at_call (KL := 60) (M := mt_116) (pc := 920) (pi := 12) (ps := 0) (pn := 918) (pl := 919) (pv := 0) (at_m4 (List.mem_of_getElem? (i := 200) rfl)) (by decide +kernel)
theorem bd_117 : am_Body at_Ts at_P at_cl at_AO at_NL mt_117 := at_body at_PN at_PX (pG := [458, 303, 464]) (pP := []) (pN := []) (pA := []) (pK := []) (pC := [921, 925, 931, 932, 933, 934]) (by decide +kernel) (by decide +kernel) (by decide +kernel) (by decide +kernel)
set_option maxRecDepth 100000 in
theorem ca_117 : am_Call at_Ts at_cl 60 mt_117 := at_call (KL := 60) (M := mt_117) (pc := 930) (pi := 12) (ps := 0) (pn := 928) (pl := 929) (pv := 0) (at_m4 (List.mem_of_getElem? (i := 210) rfl)) (by decide +kernel)
theorem bd_118 : am_Body at_Ts at_P at_cl at_AO at_NL mt_118 := at_body at_PN at_PX (pG := [457, 205, 151, 145, 167, 156, 459, 431]) (pP := [465, 466, 467, 468, 469]) (pN := []) (pA := []) (pK := [948]) (pC := [947]) (by decide +kernel) (by decide +kernel) (by decide +kernel) (by decide +kernel)
set_option maxRecDepth 100000 in
theorem ca_118 : am_Call at_Ts at_cl 60 mt_118 := at_call (KL := 60) (M := mt_118) (pc := 946) (pi := 12) (ps := 0) (pn := 944) (pl := 945) (pv := 0) (at_m4 (List.mem_of_getElem? (i := 226) rfl)) (by decide +kernel)
theorem bd_119 : am_Body at_Ts at_P at_cl at_AO at_NL mt_119 := at_body at_PN at_PX (pG := [459, 418, 398, 390, 394, 431, 435, 421]) (pP := [465, 466, 467, 468, 469]) (pN := []) (pA := []) (pK := []) (pC := []) (by decide +kernel) (by decide +kernel) (by decide +kernel) (by decide +kernel)
set_option maxRecDepth 100000 in
theorem ca_119 : am_Call at_Ts at_cl 60 mt_119 := at_call (KL := 60) (M := mt_119) (pc := 983) (pi := 12) (ps := 0) (pn := 981) (pl := 982) (pv := 0) (at_m5 (List.mem_of_getElem? (i := 23) rfl)) (by decide +kernel)
theorem bd_120 : am_Body at_Ts at_P at_cl at_AO at_NL mt_120 := at_body at_PN at_PX (pG := [458, 465, 467, 466, 464]) (pP := []) (pN := []) (pA := []) (pK := []) (pC := [921, 953, 962, 972, 933, 934]) (by decide +kernel) (by decide +kernel) (by decide +kernel) (by decide +kernel)
set_option maxRecDepth 100000 in
theorem ca_120 : am_Call at_Ts at_cl 60 mt_120 := at_call (KL := 60) (M := mt_120) (pc := 952) (pi := 12) (ps := 0) (pn := 950) (pl := 951) (pv := 0) (at_m4 (List.mem_of_getElem? (i := 232) rfl)) (by decide +kernel)
theorem bd_121 : am_Body at_Ts at_P at_cl at_AO at_NL mt_121 := at_body at_PN at_PX (pG := [469, 458, 299, 457, 459, 421, 468]) (pP := []) (pN := []) (pA := []) (pK := []) (pC := [925, 966, 967]) (by decide +kernel) (by decide +kernel) (by decide +kernel) (by decide +kernel)
set_option maxRecDepth 100000 in
theorem ca_121 : am_Call at_Ts at_cl 60 mt_121 := at_call (KL := 60) (M := mt_121) (pc := 965) (pi := 12) (ps := 0) (pn := 964) (pl := 0) (pv := 45) (at_m5 (List.mem_of_getElem? (i := 5) rfl)) (by decide +kernel)
theorem bd_122 : am_Body at_Ts at_P at_cl at_AO at_NL mt_122 := at_body at_PN at_PX (pG := [127, 459, 435]) (pP := []) (pN := []) (pA := []) (pK := []) (pC := [926, 931, 971]) (by decide +kernel) (by decide +kernel) (by decide +kernel) (by decide +kernel)
set_option maxRecDepth 100000 in
theorem ca_122 : am_Call at_Ts at_cl 60 mt_122 := at_call (KL := 60) (M := mt_122) (pc := 970) (pi := 12) (ps := 0) (pn := 969) (pl := 0) (pv := 46) (at_m5 (List.mem_of_getElem? (i := 10) rfl)) (by decide +kernel)
theorem bd_123 : am_Body at_Ts at_P at_cl at_AO at_NL mt_123 := at_body at_PN at_PX (pG := [464, 459, 427, 424]) (pP := [427]) (pN := []) (pA := []) (pK := []) (pC := [938]) (by decide +kernel) (by decide +kernel) (by decide +kernel) (by decide +kernel)
set_option maxRecDepth 100000 in
theorem ca_123 : am_Call at_Ts at_cl 60 mt_123 := at_call (KL := 60) (M := mt_123) (pc := 937) (pi := 12) (ps := 0) (pn := 936) (pl := 0) (pv := 44) (at_m4 (List.mem_of_getElem? (i := 217) rfl)) (by decide +kernel)
theorem bd_124 : am_Body at_Ts at_P at_cl at_AO at_NL mt_124 := at_body at_PN at_PX (pG := [459, 418, 433, 402]) (pP := [474, 475, 476]) (pN := []) (pA := []) (pK := [948]) (pC := [992, 1002, 1006, 1012]) (by decide +kernel) (by decide +kernel) (by decide +kernel) (by decide +kernel)
set_option maxRecDepth 100000 in
theorem ca_124 : am_Call at_Ts at_cl 60 mt_124 := at_call (KL := 60) (M := mt_124) (pc := 991) (pi := 12) (ps := 0) (pn := 989) (pl := 990) (pv := 0) (at_m5 (List.mem_of_getElem? (i := 31) rfl)) (by decide +kernel)
theorem bd_125 : am_Body at_Ts at_P at_cl at_AO at_NL mt_125 := at_body at_PN at_PX (pG := [459, 433, 418, 457, 200, 97, 470, 84]) (pP := [475, 476, 133, 472, 473, 477]) (pN := []) (pA := []) (pK := []) (pC := [921, 925, 971, 931, 1006, 1002, 1012, 926, 1069]) (by decide +kernel) (by decide +kernel) (by decide +kernel) (by decide +kernel)
set_option maxRecDepth 100000 in
theorem ca_125 : am_Call at_Ts at_cl 60 mt_125 := at_call (KL := 60) (M := mt_125) (pc := 1068) (pi := 12) (ps := 0) (pn := 1066) (pl := 1067) (pv := 0) (at_m5 (List.mem_of_getElem? (i := 108) rfl)) (by decide +kernel)
theorem bd_126 : am_Body at_Ts at_P at_cl at_AO at_NL mt_126 := at_body at_PN at_PX (pG := [470, 459, 421, 435]) (pP := [133, 472, 473, 477]) (pN := []) (pA := []) (pK := []) (pC := [1010, 1011]) (by decide +kernel) (by decide +kernel) (by decide +kernel) (by decide +kernel)
set_option maxRecDepth 100000 in
theorem ca_126 : am_Call at_Ts at_cl 60 mt_126 := at_call (KL := 60) (M := mt_126) (pc := 1009) (pi := 12) (ps := 0) (pn := 1008) (pl := 0) (pv := 47) (at_m5 (List.mem_of_getElem? (i := 49) rfl)) (by decide +kernel)
