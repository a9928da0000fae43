/-! what a program decides of each method -/
theorem bd_105 : am_Body at_Ts at_P at_cl at_AO at_NL mt_105 := at_body at_PN at_PX (pG := [130, 126, 337]) (pP := [130]) (pN := []) (pA := []) (pK := []) (pC := [877, 878, 879, 867]) (by decide +kernel) (by decide +kernel) (by decide +kernel) (by decide +kernel)
set_option maxRecDepth 100000 in
theorem ca_105 : am_Call at_Ts at_cl 60 mt_105 := at_call (KL := 60) (M := mt_105) (pc := 876) (pi := 11) (ps := 0) (pn := 875) (pl := 0) (pv := 40) (at_m4 (List.mem_of_getElem? (i := 156) rfl)) (by decide +kernel)
theorem bd_106 : am_Body at_Ts at_P at_cl at_AO at_NL mt_106 := at_body at_PN at_PX (pG := [332, 188, 95, 334, 342, 193, 82]) (pP := []) (pN := []) (pA := []) (pK := []) (pC := [836, 840]) (by decide +kernel) (by decide +kernel) (by decide +kernel) (by decide +kernel)
set_option maxRecDepth 100000 in
theorem ca_106 : am_Call at_Ts at_cl 60 mt_106 := at_call (KL := 60) (M := mt_106) (pc := 835) (pi := 11) (ps := 0) (pn := 834) (pl := 0) (pv := 31) (at_m4 (List.mem_of_getElem? (i := 115) rfl)) (by decide +kernel)
theorem bd_107 : am_Body at_Ts at_P at_cl at_AO at_NL mt_107 := at_body at_PN at_PX (pG := [332, 193, 87, 335]) (pP := []) (pN := []) (pA := []) (pK := []) (pC := [840, 841, 842, 846]) (by decide +kernel) (by decide +kernel) (by decide +kernel) (by decide +kernel)
set_option maxRecDepth 100000 in
theorem ca_107 : am_Call at_Ts at_cl 60 mt_107 := at_call (KL := 60) (M := mt_107) (pc := 839) (pi := 11) (ps := 0) (pn := 838) (pl := 0) (pv := 32) (at_m4 (List.mem_of_getElem? (i := 119) rfl)) (by decide +kernel)
theorem bd_108 : am_Body at_Ts at_P at_cl at_AO at_NL mt_108 := at_body at_PN at_PX (pG := [334]) (pP := []) (pN := []) (pA := []) (pK := []) (pC := []) (by decide +kernel) (by decide +kernel) (by decide +kernel) (by decide +kernel)
set_option maxRecDepth 100000 in
theorem ca_108 : am_Call at_Ts at_cl 60 mt_108 := at_call (KL := 60) (M := mt_108) (pc := 845) (pi := 11) (ps := 0) (pn := 844) (pl := 0) (pv := 33) (at_m4 (List.mem_of_getElem? (i := 125) rfl)) (by decide +kernel)
theorem bd_109 : am_Body at_Ts at_P at_cl at_AO at_NL mt_109 := at_body at_PN at_PX (pG := [335]) (pP := []) (pN := []) (pA := []) (pK := []) (pC := []) (by decide +kernel) (by decide +kernel) (by decide +kernel) (by decide +kernel)
set_option maxRecDepth 100000 in
theorem ca_109 : am_Call at_Ts at_cl 60 mt_109 := at_call (KL := 60) (M := mt_109) (pc := 849) (pi := 11) (ps := 0) (pn := 848) (pl := 0) (pv := 34) (at_m4 (List.mem_of_getElem? (i := 129) rfl)) (by decide +kernel)
theorem bd_110 : am_Body at_Ts at_P at_cl at_AO at_NL mt_110 := at_body at_PN at_PX (pG := [160, 158, 336]) (pP := []) (pN := []) (pA := []) (pK := []) (pC := [842, 840]) (by decide +kernel) (by decide +kernel) (by decide +kernel) (by decide +kernel)
set_option maxRecDepth 100000 in
theorem ca_110 : am_Call at_Ts at_cl 60 mt_110 := at_call (KL := 60) (M := mt_110) (pc := 853) (pi := 11) (ps := 0) (pn := 852) (pl := 0) (pv := 35) (at_m4 (List.mem_of_getElem? (i := 133) rfl)) (by decide +kernel)
theorem bd_111 : am_Body at_Ts at_P at_cl at_AO at_NL mt_111 := at_body at_PN at_PX (pG := [160, 336, 158, 337]) (pP := [130]) (pN := []) (pA := []) (pK := []) (pC := [840, 862, 842, 863]) (by decide +kernel) (by decide +kernel) (by decide +kernel) (by decide +kernel)
set_option maxRecDepth 100000 in
theorem ca_111 : am_Call at_Ts at_cl 60 mt_111 := at_call (KL := 60) (M := mt_111) (pc := 861) (pi := 11) (ps := 0) (pn := 860) (pl := 0) (pv := 37) (at_m4 (List.mem_of_getElem? (i := 141) rfl)) (by decide +kernel)
theorem bd_112 : am_Body at_Ts at_P at_cl at_AO at_NL mt_112 := at_body at_PN at_PX (pG := [342, 332, 193, 95, 82]) (pP := []) (pN := []) (pA := []) (pK := []) (pC := [867, 846, 868, 869]) (by decide +kernel) (by decide +kernel) (by decide +kernel) (by decide +kernel)
set_option maxRecDepth 100000 in
theorem ca_112 : am_Call at_Ts at_cl 60 mt_112 := at_call (KL := 60) (M := mt_112) (pc := 866) (pi := 11) (ps := 0) (pn := 865) (pl := 0) (pv := 38) (at_m4 (List.mem_of_getElem? (i := 146) rfl)) (by decide +kernel)
theorem bd_113 : am_Body at_Ts at_P at_cl at_AO at_NL mt_113 := at_body at_PN at_PX (pG := [332, 193, 87]) (pP := []) (pN := []) (pA := []) (pK := []) (pC := [841, 842, 846, 862, 863]) (by decide +kernel) (by decide +kernel) (by decide +kernel) (by decide +kernel)
set_option maxRecDepth 100000 in
theorem ca_113 : am_Call at_Ts at_cl 60 mt_113 := at_call (KL := 60) (M := mt_113) (pc := 872) (pi := 11) (ps := 0) (pn := 871) (pl := 0) (pv := 39) (at_m4 (List.mem_of_getElem? (i := 152) rfl)) (by decide +kernel)
theorem bd_114 : am_Body at_Ts at_P at_cl at_AO at_NL mt_114 := at_body at_PN at_PX (pG := [463, 458, 416, 462]) (pP := [458, 460, 462, 463, 469, 470, 456, 457, 464, 465, 468]) (pN := [374, 453, 452]) (pA := [452]) (pK := []) (pC := [373, 376, 454, 455]) (by decide +kernel) (by decide +kernel) (by decide +kernel) (by decide +kernel)
set_option maxRecDepth 100000 in
theorem ca_114 : am_Call at_Ts at_cl 60 mt_114 := at_call (KL := 60) (M := mt_114) (pc := 372) (pi := 12) (ps := 0) (pn := 371) (pl := 0) (pv := 0) (at_m2 (List.mem_of_getElem? (i := 132) rfl)) (by decide +kernel)
theorem bd_115 : am_Body at_Ts at_P at_cl at_AO at_NL mt_115 := at_body at_PN at_PX (pG := [458, 413, 390]) (pP := []) (pN := []) (pA := []) (pK := []) (pC := []) (by decide +kernel) (by decide +kernel) (by decide +kernel) (by decide +kernel)
set_option maxRecDepth 100000 in
theorem ca_115 : am_Call at_Ts at_cl 60 mt_115 := at_call (KL := 60) (M := mt_115) (pc := 923) (pi := 12) (ps := 0) (pn := 922) (pl := 0) (pv := 43) (at_m4 (List.mem_of_getElem? (i := 203) rfl)) (by decide +kernel)
theorem bd_116 : am_Body at_Ts at_P at_cl at_AO at_NL mt_116 := at_body at_PN at_PX (pG := []) (pP := []) (pN := []) (pA := []) (pK := []) (pC := [920, 924, 925]) (by decide +kernel) (by decide +kernel) (by decide +kernel) (by decide +kernel)
set_option maxRecDepth 100000 in
theorem ca_116 : am_Call at_Ts at_cl 60 mt_116 := at_call (KL := 60) (M := mt_116) (pc := 919) (pi := 12) (ps := 0) (pn := 917) (pl := 918) (pv := 0) (at_m4 (List.mem_of_getElem? (i := 199) rfl)) (by decide +kernel)
theorem bd_117 : am_Body at_Ts at_P at_cl at_AO at_NL mt_117 := at_body at_PN at_PX (pG := [457, 303, 463]) (pP := []) (pN := []) (pA := []) (pK := []) (pC := [920, 924, 930, 931, 932, 933]) (by decide +kernel) (by decide +kernel) (by decide +kernel) (by decide +kernel)
set_option maxRecDepth 100000 in
theorem ca_117 : am_Call at_Ts at_cl 60 mt_117 := at_call (KL := 60) (M := mt_117) (pc := 929) (pi := 12) (ps := 0) (pn := 927) (pl := 928) (pv := 0) (at_m4 (List.mem_of_getElem? (i := 209) rfl)) (by decide +kernel)
theorem bd_118 : am_Body at_Ts at_P at_cl at_AO at_NL mt_118 := at_body at_PN at_PX (pG := [456, 205, 151, 145, 167, 156, 458, 426]) (pP := [464, 465, 466, 467, 468]) (pN := []) (pA := []) (pK := [947]) (pC := [946]) (by decide +kernel) (by decide +kernel) (by decide +kernel) (by decide +kernel)
set_option maxRecDepth 100000 in
theorem ca_118 : am_Call at_Ts at_cl 60 mt_118 := at_call (KL := 60) (M := mt_118) (pc := 945) (pi := 12) (ps := 0) (pn := 943) (pl := 944) (pv := 0) (at_m4 (List.mem_of_getElem? (i := 225) rfl)) (by decide +kernel)
theorem bd_119 : am_Body at_Ts at_P at_cl at_AO at_NL mt_119 := at_body at_PN at_PX (pG := [458, 413, 398, 390, 394, 426, 430, 416]) (pP := [464, 465, 466, 467, 468]) (pN := []) (pA := []) (pK := []) (pC := []) (by decide +kernel) (by decide +kernel) (by decide +kernel) (by decide +kernel)
set_option maxRecDepth 100000 in
theorem ca_119 : am_Call at_Ts at_cl 60 mt_119 := at_call (KL := 60) (M := mt_119) (pc := 982) (pi := 12) (ps := 0) (pn := 980) (pl := 981) (pv := 0) (at_m5 (List.mem_of_getElem? (i := 22) rfl)) (by decide +kernel)
theorem bd_120 : am_Body at_Ts at_P at_cl at_AO at_NL mt_120 := at_body at_PN at_PX (pG := [457, 464, 466, 465, 463]) (pP := []) (pN := []) (pA := []) (pK := []) (pC := [920, 952, 961, 971, 932, 933]) (by decide +kernel) (by decide +kernel) (by decide +kernel) (by decide +kernel)
set_option maxRecDepth 100000 in
theorem ca_120 : am_Call at_Ts at_cl 60 mt_120 := at_call (KL := 60) (M := mt_120) (pc := 951) (pi := 12) (ps := 0) (pn := 949) (pl := 950) (pv := 0) (at_m4 (List.mem_of_getElem? (i := 231) rfl)) (by decide +kernel)
theorem bd_121 : am_Body at_Ts at_P at_cl at_AO at_NL mt_121 := at_body at_PN at_PX (pG := [468, 457, 299, 456, 458, 416, 467]) (pP := []) (pN := []) (pA := []) (pK := []) (pC := [924, 965, 966]) (by decide +kernel) (by decide +kernel) (by decide +kernel) (by decide +kernel)
set_option maxRecDepth 100000 in
theorem ca_121 : am_Call at_Ts at_cl 60 mt_121 := at_call (KL := 60) (M := mt_121) (pc := 964) (pi := 12) (ps := 0) (pn := 963) (pl := 0) (pv := 45) (at_m5 (List.mem_of_getElem? (i := 4) rfl)) (by decide +kernel)
theorem bd_122 : am_Body at_Ts at_P at_cl at_AO at_NL mt_122 := at_body at_PN at_PX (pG := [127, 458, 430]) (pP := []) (pN := []) (pA := []) (pK := []) (pC := [925, 930, 970]) (by decide +kernel) (by decide +kernel) (by decide +kernel) (by decide +kernel)
set_option maxRecDepth 100000 in
theorem ca_122 : am_Call at_Ts at_cl 60 mt_122 := at_call (KL := 60) (M := mt_122) (pc := 969) (pi := 12) (ps := 0) (pn := 968) (pl := 0) (pv := 46) (at_m5 (List.mem_of_getElem? (i := 9) rfl)) (by decide +kernel)
theorem bd_123 : am_Body at_Ts at_P at_cl at_AO at_NL mt_123 := at_body at_PN at_PX (pG := [463, 458, 422, 419]) (pP := [422]) (pN := []) (pA := []) (pK := []) (pC := [937]) (by decide +kernel) (by decide +kernel) (by decide +kernel) (by decide +kernel)
set_option maxRecDepth 100000 in
theorem ca_123 : am_Call at_Ts at_cl 60 mt_123 := at_call (KL := 60) (M := mt_123) (pc := 936) (pi := 12) (ps := 0) (pn := 935) (pl := 0) (pv := 44) (at_m4 (List.mem_of_getElem? (i := 216) rfl)) (by decide +kernel)
theorem bd_124 : am_Body at_Ts at_P at_cl at_AO at_NL mt_124 := at_body at_PN at_PX (pG := [458, 413, 428, 432]) (pP := [473, 474, 475]) (pN := []) (pA := []) (pK := [947]) (pC := [991, 1001, 1005, 1011]) (by decide +kernel) (by decide +kernel) (by decide +kernel) (by decide +kernel)
set_option maxRecDepth 100000 in
theorem ca_124 : am_Call at_Ts at_cl 60 mt_124 := at_call (KL := 60) (M := mt_124) (pc := 990) (pi := 12) (ps := 0) (pn := 988) (pl := 989) (pv := 0) (at_m5 (List.mem_of_getElem? (i := 30) rfl)) (by decide +kernel)
theorem bd_125 : am_Body at_Ts at_P at_cl at_AO at_NL mt_125 := at_body at_PN at_PX (pG := [458, 428, 456, 200, 97, 469, 84]) (pP := [474, 475, 133, 471, 472, 476]) (pN := []) (pA := []) (pK := []) (pC := [920, 924, 970, 930, 1005, 1001, 1011, 925, 1068]) (by decide +kernel) (by decide +kernel) (by decide +kernel) (by decide +kernel)
set_option maxRecDepth 100000 in
theorem ca_125 : am_Call at_Ts at_cl 60 mt_125 := at_call (KL := 60) (M := mt_125) (pc := 1067) (pi := 12) (ps := 0) (pn := 1065) (pl := 1066) (pv := 0) (at_m5 (List.mem_of_getElem? (i := 107) rfl)) (by decide +kernel)
theorem bd_126 : am_Body at_Ts at_P at_cl at_AO at_NL mt_126 := at_body at_PN at_PX (pG := [469, 458, 416, 430]) (pP := [133, 471, 472, 476]) (pN := []) (pA := []) (pK := []) (pC := [1009, 1010]) (by decide +kernel) (by decide +kernel) (by decide +kernel) (by decide +kernel)
set_option maxRecDepth 100000 in
theorem ca_126 : am_Call at_Ts at_cl 60 mt_126 := at_call (KL := 60) (M := mt_126) (pc := 1008) (pi := 12) (ps := 0) (pn := 1007) (pl := 0) (pv := 47) (at_m5 (List.mem_of_getElem? (i := 48) rfl)) (by decide +kernel)
