/-! what a program decides of each method -/
theorem bd_0 : am_Body at_Ts at_P at_cl at_AO at_NL mt_0 := at_body at_PN at_PX (pG := [519, 520, 523]) (pP := [519, 520, 521, 522, 523, 524, 525, 526]) (pN := [30, 63, 230, 268, 289, 323, 368, 517]) (pA := []) (pK := []) (pC := [27, 0, 65, 232, 270, 291, 325, 370, 518]) (by decide +kernel) (by decide +kernel) (by decide +kernel) (by decide +kernel)
set_option maxRecDepth 100000 in
theorem ca_0 : am_Call at_Ts at_cl 60 mt_0 := at_call (KL := 60) (M := mt_0) (pc := 26) (pi := 1) (ps := 0) (pn := 25) (pl := 0) (pv := 0) (at_m1 (List.mem_of_getElem? (i := 26) rfl)) (by decide +kernel)
theorem bd_1 : am_Body at_Ts at_P at_cl at_AO at_NL mt_1 := at_body at_PN at_PX (pG := [519, 37]) (pP := []) (pN := []) (pA := []) (pK := []) (pC := [1219]) (by decide +kernel) (by decide +kernel) (by decide +kernel) (by decide +kernel)
set_option maxRecDepth 100000 in
theorem ca_1 : am_Call at_Ts at_cl 60 mt_1 := at_call (KL := 60) (M := mt_1) (pc := 1151) (pi := 1) (ps := 0) (pn := 1149) (pl := 1150) (pv := 0) (at_m5 (List.mem_of_getElem? (i := 191) rfl)) (by decide +kernel)
theorem bd_2 : am_Body at_Ts at_P at_cl at_AO at_NL mt_2 := at_body at_PN at_PX (pG := [519, 37]) (pP := [37]) (pN := []) (pA := []) (pK := []) (pC := []) (by decide +kernel) (by decide +kernel) (by decide +kernel) (by decide +kernel)
set_option maxRecDepth 100000 in
theorem ca_2 : am_Call at_Ts at_cl 60 mt_2 := at_call (KL := 60) (M := mt_2) (pc := 1230) (pi := 1) (ps := 0) (pn := 1228) (pl := 1229) (pv := 0) (at_m6 (List.mem_of_getElem? (i := 30) rfl)) (by decide +kernel)
theorem bd_3 : am_Body at_Ts at_P at_cl at_AO at_NL mt_3 := at_body at_PN at_PX (pG := [521, 519, 525, 460]) (pP := [37]) (pN := []) (pA := []) (pK := []) (pC := [551, 730]) (by decide +kernel) (by decide +kernel) (by decide +kernel) (by decide +kernel)
set_option maxRecDepth 100000 in
theorem ca_3 : am_Call at_Ts at_cl 60 mt_3 := at_call (KL := 60) (M := mt_3) (pc := 550) (pi := 1) (ps := 0) (pn := 548) (pl := 549) (pv := 0) (at_m3 (List.mem_of_getElem? (i := 70) rfl)) (by decide +kernel)
theorem bd_4 : am_Body at_Ts at_P at_cl at_AO at_NL mt_4 := at_body at_PN at_PX (pG := [521, 240]) (pP := []) (pN := []) (pA := []) (pK := []) (pC := []) (by decide +kernel) (by decide +kernel) (by decide +kernel) (by decide +kernel)
set_option maxRecDepth 100000 in
theorem ca_4 : am_Call at_Ts at_cl 60 mt_4 := at_call (KL := 60) (M := mt_4) (pc := 737) (pi := 1) (ps := 0) (pn := 735) (pl := 736) (pv := 0) (at_m4 (List.mem_of_getElem? (i := 17) rfl)) (by decide +kernel)
theorem bd_5 : am_Body at_Ts at_P at_cl at_AO at_NL mt_5 := at_body at_PN at_PX (pG := [525, 460, 520, 189, 96, 194, 199, 210, 213, 423, 426, 419, 399]) (pP := []) (pN := []) (pA := []) (pK := []) (pC := []) (by decide +kernel) (by decide +kernel) (by decide +kernel) (by decide +kernel)
set_option maxRecDepth 100000 in
theorem ca_5 : am_Call at_Ts at_cl 60 mt_5 := at_call (KL := 60) (M := mt_5) (pc := 741) (pi := 1) (ps := 0) (pn := 739) (pl := 740) (pv := 0) (at_m4 (List.mem_of_getElem? (i := 21) rfl)) (by decide +kernel)
theorem bd_6 : am_Body at_Ts at_P at_cl at_AO at_NL mt_6 := at_body at_PN at_PX (pG := [520, 206, 169, 161, 146, 132, 152]) (pP := []) (pN := []) (pA := []) (pK := []) (pC := [746]) (by decide +kernel) (by decide +kernel) (by decide +kernel) (by decide +kernel)
set_option maxRecDepth 100000 in
theorem ca_6 : am_Call at_Ts at_cl 60 mt_6 := at_call (KL := 60) (M := mt_6) (pc := 745) (pi := 1) (ps := 0) (pn := 743) (pl := 744) (pv := 0) (at_m4 (List.mem_of_getElem? (i := 25) rfl)) (by decide +kernel)
theorem bd_7 : am_Body at_Ts at_P at_cl at_AO at_NL mt_7 := at_body at_PN at_PX (pG := [521, 526, 519, 523, 307, 522]) (pP := [37, 527]) (pN := []) (pA := []) (pK := []) (pC := [754, 758, 798]) (by decide +kernel) (by decide +kernel) (by decide +kernel) (by decide +kernel)
set_option maxRecDepth 100000 in
theorem ca_7 : am_Call at_Ts at_cl 60 mt_7 := at_call (KL := 60) (M := mt_7) (pc := 753) (pi := 1) (ps := 0) (pn := 751) (pl := 752) (pv := 0) (at_m4 (List.mem_of_getElem? (i := 33) rfl)) (by decide +kernel)
theorem bd_8 : am_Body at_Ts at_P at_cl at_AO at_NL mt_8 := at_body at_PN at_PX (pG := [527]) (pP := []) (pN := []) (pA := []) (pK := []) (pC := []) (by decide +kernel) (by decide +kernel) (by decide +kernel) (by decide +kernel)
set_option maxRecDepth 100000 in
theorem ca_8 : am_Call at_Ts at_cl 60 mt_8 := at_call (KL := 60) (M := mt_8) (pc := 824) (pi := 1) (ps := 0) (pn := 822) (pl := 823) (pv := 0) (at_m4 (List.mem_of_getElem? (i := 104) rfl)) (by decide +kernel)
theorem bd_9 : am_Body at_Ts at_P at_cl at_AO at_NL mt_9 := at_body at_PN at_PX (pG := [520, 524, 206]) (pP := []) (pN := []) (pA := []) (pK := []) (pC := [746, 829]) (by decide +kernel) (by decide +kernel) (by decide +kernel) (by decide +kernel)
set_option maxRecDepth 100000 in
theorem ca_9 : am_Call at_Ts at_cl 60 mt_9 := at_call (KL := 60) (M := mt_9) (pc := 828) (pi := 1) (ps := 0) (pn := 826) (pl := 827) (pv := 0) (at_m4 (List.mem_of_getElem? (i := 108) rfl)) (by decide +kernel)
theorem bd_10 : am_Body at_Ts at_P at_cl at_AO at_NL mt_10 := at_body at_PN at_PX (pG := [524, 344, 522, 339]) (pP := []) (pN := []) (pA := []) (pK := []) (pC := [798]) (by decide +kernel) (by decide +kernel) (by decide +kernel) (by decide +kernel)
set_option maxRecDepth 100000 in
theorem ca_10 : am_Call at_Ts at_cl 60 mt_10 := at_call (KL := 60) (M := mt_10) (pc := 898) (pi := 1) (ps := 0) (pn := 896) (pl := 897) (pv := 0) (at_m4 (List.mem_of_getElem? (i := 178) rfl)) (by decide +kernel)
theorem bd_11 : am_Body at_Ts at_P at_cl at_AO at_NL mt_11 := at_body at_PN at_PX (pG := [520, 525, 460, 206, 423]) (pP := []) (pN := []) (pA := []) (pK := []) (pC := [746, 903]) (by decide +kernel) (by decide +kernel) (by decide +kernel) (by decide +kernel)
set_option maxRecDepth 100000 in
theorem ca_11 : am_Call at_Ts at_cl 60 mt_11 := at_call (KL := 60) (M := mt_11) (pc := 902) (pi := 1) (ps := 0) (pn := 900) (pl := 901) (pv := 0) (at_m4 (List.mem_of_getElem? (i := 182) rfl)) (by decide +kernel)
theorem bd_12 : am_Body at_Ts at_P at_cl at_AO at_NL mt_12 := at_body at_PN at_PX (pG := [525]) (pP := []) (pN := []) (pA := []) (pK := []) (pC := [913, 917, 927]) (by decide +kernel) (by decide +kernel) (by decide +kernel) (by decide +kernel)
set_option maxRecDepth 100000 in
theorem ca_12 : am_Call at_Ts at_cl 60 mt_12 := at_call (KL := 60) (M := mt_12) (pc := 912) (pi := 1) (ps := 0) (pn := 910) (pl := 911) (pv := 0) (at_m4 (List.mem_of_getElem? (i := 192) rfl)) (by decide +kernel)
theorem bd_13 : am_Body at_Ts at_P at_cl at_AO at_NL mt_13 := at_body at_PN at_PX (pG := [520, 525]) (pP := []) (pN := []) (pA := []) (pK := []) (pC := [746, 913, 943, 917, 949]) (by decide +kernel) (by decide +kernel) (by decide +kernel) (by decide +kernel)
set_option maxRecDepth 100000 in
theorem ca_13 : am_Call at_Ts at_cl 60 mt_13 := at_call (KL := 60) (M := mt_13) (pc := 942) (pi := 1) (ps := 0) (pn := 940) (pl := 941) (pv := 0) (at_m4 (List.mem_of_getElem? (i := 222) rfl)) (by decide +kernel)
theorem bd_14 : am_Body at_Ts at_P at_cl at_AO at_NL mt_14 := at_body at_PN at_PX (pG := [525]) (pP := []) (pN := []) (pA := []) (pK := []) (pC := [913, 980, 917, 949]) (by decide +kernel) (by decide +kernel) (by decide +kernel) (by decide +kernel)
set_option maxRecDepth 100000 in
theorem ca_14 : am_Call at_Ts at_cl 60 mt_14 := at_call (KL := 60) (M := mt_14) (pc := 979) (pi := 1) (ps := 0) (pn := 977) (pl := 978) (pv := 0) (at_m5 (List.mem_of_getElem? (i := 19) rfl)) (by decide +kernel)
theorem bd_15 : am_Body at_Ts at_P at_cl at_AO at_NL mt_15 := at_body at_PN at_PX (pG := [525, 460, 423]) (pP := []) (pN := []) (pA := []) (pK := []) (pC := [988]) (by decide +kernel) (by decide +kernel) (by decide +kernel) (by decide +kernel)
set_option maxRecDepth 100000 in
theorem ca_15 : am_Call at_Ts at_cl 60 mt_15 := at_call (KL := 60) (M := mt_15) (pc := 987) (pi := 1) (ps := 0) (pn := 985) (pl := 986) (pv := 0) (at_m5 (List.mem_of_getElem? (i := 27) rfl)) (by decide +kernel)
theorem bd_16 : am_Body at_Ts at_P at_cl at_AO at_NL mt_16 := at_body at_PN at_PX (pG := [525]) (pP := []) (pN := []) (pA := []) (pK := []) (pC := [913, 917, 1065]) (by decide +kernel) (by decide +kernel) (by decide +kernel) (by decide +kernel)
set_option maxRecDepth 100000 in
theorem ca_16 : am_Call at_Ts at_cl 60 mt_16 := at_call (KL := 60) (M := mt_16) (pc := 1064) (pi := 1) (ps := 0) (pn := 1062) (pl := 1063) (pv := 0) (at_m5 (List.mem_of_getElem? (i := 104) rfl)) (by decide +kernel)
theorem bd_17 : am_Body at_Ts at_P at_cl at_AO at_NL mt_17 := at_body at_PN at_PX (pG := [525, 460, 423]) (pP := []) (pN := []) (pA := []) (pK := []) (pC := [1074]) (by decide +kernel) (by decide +kernel) (by decide +kernel) (by decide +kernel)
set_option maxRecDepth 100000 in
theorem ca_17 : am_Call at_Ts at_cl 60 mt_17 := at_call (KL := 60) (M := mt_17) (pc := 1073) (pi := 1) (ps := 0) (pn := 1071) (pl := 1072) (pv := 0) (at_m5 (List.mem_of_getElem? (i := 113) rfl)) (by decide +kernel)
theorem bd_18 : am_Body at_Ts at_P at_cl at_AO at_NL mt_18 := at_body at_PN at_PX (pG := [525, 460, 423]) (pP := []) (pN := []) (pA := []) (pK := []) (pC := [1083]) (by decide +kernel) (by decide +kernel) (by decide +kernel) (by decide +kernel)
set_option maxRecDepth 100000 in
theorem ca_18 : am_Call at_Ts at_cl 60 mt_18 := at_call (KL := 60) (M := mt_18) (pc := 1082) (pi := 1) (ps := 0) (pn := 1080) (pl := 1081) (pv := 0) (at_m5 (List.mem_of_getElem? (i := 122) rfl)) (by decide +kernel)
theorem bd_19 : am_Body at_Ts at_P at_cl at_AO at_NL mt_19 := at_body at_PN at_PX (pG := [525, 460, 423, 462]) (pP := []) (pN := []) (pA := []) (pK := []) (pC := [1091, 1100]) (by decide +kernel) (by decide +kernel) (by decide +kernel) (by decide +kernel)
set_option maxRecDepth 100000 in
theorem ca_19 : am_Call at_Ts at_cl 60 mt_19 := at_call (KL := 60) (M := mt_19) (pc := 1090) (pi := 1) (ps := 0) (pn := 1088) (pl := 1089) (pv := 0) (at_m5 (List.mem_of_getElem? (i := 130) rfl)) (by decide +kernel)
theorem bd_20 : am_Body at_Ts at_P at_cl at_AO at_NL mt_20 := at_body at_PN at_PX (pG := [525, 460, 423, 522, 419, 392]) (pP := []) (pN := []) (pA := []) (pK := []) (pC := [798]) (by decide +kernel) (by decide +kernel) (by decide +kernel) (by decide +kernel)
set_option maxRecDepth 100000 in
theorem ca_20 : am_Call at_Ts at_cl 60 mt_20 := at_call (KL := 60) (M := mt_20) (pc := 1131) (pi := 1) (ps := 0) (pn := 1129) (pl := 1130) (pv := 0) (at_m5 (List.mem_of_getElem? (i := 171) rfl)) (by decide +kernel)
theorem bd_21 : am_Body at_Ts at_P at_cl at_AO at_NL mt_21 := at_body at_PN at_PX (pG := [525, 460, 423, 419, 399, 522, 392, 395]) (pP := []) (pN := []) (pA := []) (pK := []) (pC := [798]) (by decide +kernel) (by decide +kernel) (by decide +kernel) (by decide +kernel)
set_option maxRecDepth 100000 in
theorem ca_21 : am_Call at_Ts at_cl 60 mt_21 := at_call (KL := 60) (M := mt_21) (pc := 1135) (pi := 1) (ps := 0) (pn := 1133) (pl := 1134) (pv := 0) (at_m5 (List.mem_of_getElem? (i := 175) rfl)) (by decide +kernel)
theorem bd_22 : am_Body at_Ts at_P at_cl at_AO at_NL mt_22 := at_body at_PN at_PX (pG := [520, 206, 522, 146, 152]) (pP := []) (pN := []) (pA := []) (pK := []) (pC := [746, 798]) (by decide +kernel) (by decide +kernel) (by decide +kernel) (by decide +kernel)
set_option maxRecDepth 100000 in
theorem ca_22 : am_Call at_Ts at_cl 60 mt_22 := at_call (KL := 60) (M := mt_22) (pc := 1139) (pi := 1) (ps := 0) (pn := 1137) (pl := 1138) (pv := 0) (at_m5 (List.mem_of_getElem? (i := 179) rfl)) (by decide +kernel)
theorem bd_23 : am_Body at_Ts at_P at_cl at_AO at_NL mt_23 := at_body at_PN at_PX (pG := [522, 279, 276]) (pP := []) (pN := []) (pA := []) (pK := []) (pC := []) (by decide +kernel) (by decide +kernel) (by decide +kernel) (by decide +kernel)
set_option maxRecDepth 100000 in
theorem ca_23 : am_Call at_Ts at_cl 60 mt_23 := at_call (KL := 60) (M := mt_23) (pc := 1143) (pi := 1) (ps := 0) (pn := 1141) (pl := 1142) (pv := 0) (at_m5 (List.mem_of_getElem? (i := 183) rfl)) (by decide +kernel)
theorem bd_24 : am_Body at_Ts at_P at_cl at_AO at_NL mt_24 := at_body at_PN at_PX (pG := [525, 460, 423]) (pP := []) (pN := []) (pA := []) (pK := []) (pC := []) (by decide +kernel) (by decide +kernel) (by decide +kernel) (by decide +kernel)
set_option maxRecDepth 100000 in
theorem ca_24 : am_Call at_Ts at_cl 60 mt_24 := at_call (KL := 60) (M := mt_24) (pc := 916) (pi := 1) (ps := 0) (pn := 915) (pl := 0) (pv := 42) (at_m4 (List.mem_of_getElem? (i := 196) rfl)) (by decide +kernel)
theorem bd_25 : am_Body at_Ts at_P at_cl at_AO at_NL mt_25 := at_body at_PN at_PX (pG := []) (pP := [36, 40, 42, 44]) (pN := []) (pA := []) (pK := []) (pC := [35]) (by decide +kernel) (by decide +kernel) (by decide +kernel) (by decide +kernel)
set_option maxRecDepth 100000 in
theorem ca_25 : am_Call at_Ts at_cl 60 mt_25 := at_call (KL := 60) (M := mt_25) (pc := 34) (pi := 2) (ps := 0) (pn := 33) (pl := 0) (pv := 0) (at_m1 (List.mem_of_getElem? (i := 34) rfl)) (by decide +kernel)
theorem bd_26 : am_Body at_Ts at_P at_cl at_AO at_NL mt_26 := at_body at_PN at_PX (pG := [38, 36]) (pP := [38]) (pN := []) (pA := []) (pK := []) (pC := []) (by decide +kernel) (by decide +kernel) (by decide +kernel) (by decide +kernel)
set_option maxRecDepth 100000 in
theorem ca_26 : am_Call at_Ts at_cl 60 mt_26 := at_call (KL := 60) (M := mt_26) (pc := 1222) (pi := 2) (ps := 0) (pn := 1220) (pl := 1221) (pv := 0) (at_m6 (List.mem_of_getElem? (i := 22) rfl)) (by decide +kernel)
theorem bd_27 : am_Body at_Ts at_P at_cl at_AO at_NL mt_27 := at_body at_PN at_PX (pG := [38, 36]) (pP := [46]) (pN := []) (pA := []) (pK := []) (pC := [559, 562, 566, 570, 577, 580]) (by decide +kernel) (by decide +kernel) (by decide +kernel) (by decide +kernel)
set_option maxRecDepth 100000 in
theorem ca_27 : am_Call at_Ts at_cl 60 mt_27 := at_call (KL := 60) (M := mt_27) (pc := 558) (pi := 2) (ps := 0) (pn := 556) (pl := 557) (pv := 0) (at_m3 (List.mem_of_getElem? (i := 78) rfl)) (by decide +kernel)
theorem bd_28 : am_Body at_Ts at_P at_cl at_AO at_NL mt_28 := at_body at_PN at_PX (pG := [46, 40, 42, 44]) (pP := [46]) (pN := []) (pA := []) (pK := []) (pC := []) (by decide +kernel) (by decide +kernel) (by decide +kernel) (by decide +kernel)
set_option maxRecDepth 100000 in
theorem ca_28 : am_Call at_Ts at_cl 60 mt_28 := at_call (KL := 60) (M := mt_28) (pc := 583) (pi := 2) (ps := 0) (pn := 582) (pl := 0) (pv := 2) (at_m3 (List.mem_of_getElem? (i := 103) rfl)) (by decide +kernel)
theorem bd_29 : am_Body at_Ts at_P at_cl at_AO at_NL mt_29 := at_body at_PN at_PX (pG := [38, 36]) (pP := []) (pN := []) (pA := []) (pK := []) (pC := [559]) (by decide +kernel) (by decide +kernel) (by decide +kernel) (by decide +kernel)
set_option maxRecDepth 100000 in
theorem ca_29 : am_Call at_Ts at_cl 60 mt_29 := at_call (KL := 60) (M := mt_29) (pc := 565) (pi := 2) (ps := 0) (pn := 564) (pl := 0) (pv := 0) (at_m3 (List.mem_of_getElem? (i := 85) rfl)) (by decide +kernel)
theorem bd_30 : am_Body at_Ts at_P at_cl at_AO at_NL mt_30 := at_body at_PN at_PX (pG := [36]) (pP := []) (pN := []) (pA := []) (pK := []) (pC := []) (by decide +kernel) (by decide +kernel) (by decide +kernel) (by decide +kernel)
set_option maxRecDepth 100000 in
theorem ca_30 : am_Call at_Ts at_cl 60 mt_30 := at_call (KL := 60) (M := mt_30) (pc := 569) (pi := 2) (ps := 0) (pn := 568) (pl := 0) (pv := 1) (at_m3 (List.mem_of_getElem? (i := 89) rfl)) (by decide +kernel)
theorem bd_31 : am_Body at_Ts at_P at_cl at_AO at_NL mt_31 := at_body at_PN at_PX (pG := []) (pP := []) (pN := []) (pA := []) (pK := [573, 574, 575, 576]) (pC := []) (by decide +kernel) (by decide +kernel) (by decide +kernel) (by decide +kernel)
set_option maxRecDepth 100000 in
theorem ca_31 : am_Call at_Ts at_cl 60 mt_31 := at_call (KL := 60) (M := mt_31) (pc := 572) (pi := 2) (ps := 571) (pn := 0) (pl := 0) (pv := 0) (at_m3 (List.mem_of_getElem? (i := 92) rfl)) (by decide +kernel)
theorem bd_32 : am_Body at_Ts at_P at_cl at_AO at_NL mt_32 := at_body at_PN at_PX (pG := []) (pP := []) (pN := []) (pA := []) (pK := []) (pC := []) (by decide +kernel) (by decide +kernel) (by decide +kernel) (by decide +kernel)
set_option maxRecDepth 100000 in
theorem ca_32 : am_Call at_Ts at_cl 60 mt_32 := at_call (KL := 60) (M := mt_32) (pc := 579) (pi := 2) (ps := 578) (pn := 0) (pl := 0) (pv := 0) (at_m3 (List.mem_of_getElem? (i := 99) rfl)) (by decide +kernel)
theorem bd_33 : am_Body at_Ts at_P at_cl at_AO at_NL mt_33 := at_body at_PN at_PX (pG := []) (pP := []) (pN := []) (pA := []) (pK := []) (pC := []) (by decide +kernel) (by decide +kernel) (by decide +kernel) (by decide +kernel)
set_option maxRecDepth 100000 in
theorem ca_33 : am_Call at_Ts at_cl 60 mt_33 := at_call (KL := 60) (M := mt_33) (pc := 561) (pi := 2) (ps := 560) (pn := 0) (pl := 0) (pv := 0) (at_m3 (List.mem_of_getElem? (i := 81) rfl)) (by decide +kernel)
theorem bd_34 : am_Body at_Ts at_P at_cl at_AO at_NL mt_34 := at_body at_PN at_PX (pG := [202, 204]) (pP := [186, 190, 196, 202, 204]) (pN := [69, 109]) (pA := [109]) (pK := []) (pC := [68, 71, 0]) (by decide +kernel) (by decide +kernel) (by decide +kernel) (by decide +kernel)
set_option maxRecDepth 100000 in
theorem ca_34 : am_Call at_Ts at_cl 60 mt_34 := at_call (KL := 60) (M := mt_34) (pc := 67) (pi := 3) (ps := 0) (pn := 66) (pl := 0) (pv := 0) (at_m1 (List.mem_of_getElem? (i := 67) rfl)) (by decide +kernel)
theorem bd_35 : am_Body at_Ts at_P at_cl at_AO at_NL mt_35 := at_body at_PN at_PX (pG := [211, 204]) (pP := []) (pN := []) (pA := []) (pK := []) (pC := []) (by decide +kernel) (by decide +kernel) (by decide +kernel) (by decide +kernel)
set_option maxRecDepth 100000 in
theorem ca_35 : am_Call at_Ts at_cl 60 mt_35 := at_call (KL := 60) (M := mt_35) (pc := 749) (pi := 3) (ps := 0) (pn := 747) (pl := 748) (pv := 0) (at_m4 (List.mem_of_getElem? (i := 29) rfl)) (by decide +kernel)
theorem bd_36 : am_Body at_Ts at_P at_cl at_AO at_NL mt_36 := at_body at_PN at_PX (pG := [211, 204, 165]) (pP := []) (pN := []) (pA := []) (pK := []) (pC := []) (by decide +kernel) (by decide +kernel) (by decide +kernel) (by decide +kernel)
set_option maxRecDepth 100000 in
theorem ca_36 : am_Call at_Ts at_cl 60 mt_36 := at_call (KL := 60) (M := mt_36) (pc := 711) (pi := 3) (ps := 0) (pn := 709) (pl := 710) (pv := 0) (at_m3 (List.mem_of_getElem? (i := 231) rfl)) (by decide +kernel)
theorem bd_37 : am_Body at_Ts at_P at_cl at_AO at_NL mt_37 := at_body at_PN at_PX (pG := [190, 81, 196]) (pP := []) (pN := []) (pA := []) (pK := []) (pC := [720, 723]) (by decide +kernel) (by decide +kernel) (by decide +kernel) (by decide +kernel)
set_option maxRecDepth 100000 in
theorem ca_37 : am_Call at_Ts at_cl 60 mt_37 := at_call (KL := 60) (M := mt_37) (pc := 719) (pi := 3) (ps := 0) (pn := 717) (pl := 718) (pv := 0) (at_m3 (List.mem_of_getElem? (i := 239) rfl)) (by decide +kernel)
theorem bd_38 : am_Body at_Ts at_P at_cl at_AO at_NL mt_38 := at_body at_PN at_PX (pG := [190, 94, 86]) (pP := []) (pN := []) (pA := []) (pK := []) (pC := [691]) (by decide +kernel) (by decide +kernel) (by decide +kernel) (by decide +kernel)
set_option maxRecDepth 100000 in
theorem ca_38 : am_Call at_Ts at_cl 60 mt_38 := at_call (KL := 60) (M := mt_38) (pc := 690) (pi := 3) (ps := 0) (pn := 688) (pl := 689) (pv := 0) (at_m3 (List.mem_of_getElem? (i := 210) rfl)) (by decide +kernel)
theorem bd_39 : am_Body at_Ts at_P at_cl at_AO at_NL mt_39 := at_body at_PN at_PX (pG := [211, 204]) (pP := [168]) (pN := []) (pA := []) (pK := []) (pC := []) (by decide +kernel) (by decide +kernel) (by decide +kernel) (by decide +kernel)
set_option maxRecDepth 100000 in
theorem ca_39 : am_Call at_Ts at_cl 60 mt_39 := at_call (KL := 60) (M := mt_39) (pc := 729) (pi := 3) (ps := 0) (pn := 727) (pl := 728) (pv := 0) (at_m4 (List.mem_of_getElem? (i := 9) rfl)) (by decide +kernel)
theorem bd_40 : am_Body at_Ts at_P at_cl at_AO at_NL mt_40 := at_body at_PN at_PX (pG := []) (pP := [78, 80, 85, 90]) (pN := []) (pA := []) (pK := []) (pC := [74, 75]) (by decide +kernel) (by decide +kernel) (by decide +kernel) (by decide +kernel)
set_option maxRecDepth 100000 in
theorem ca_40 : am_Call at_Ts at_cl 60 mt_40 := at_call (KL := 60) (M := mt_40) (pc := 73) (pi := 4) (ps := 0) (pn := 72) (pl := 0) (pv := 0) (at_m1 (List.mem_of_getElem? (i := 73) rfl)) (by decide +kernel)
theorem bd_41 : am_Body at_Ts at_P at_cl at_AO at_NL mt_41 := at_body at_PN at_PX (pG := [91, 78]) (pP := []) (pN := []) (pA := []) (pK := []) (pC := []) (by decide +kernel) (by decide +kernel) (by decide +kernel) (by decide +kernel)
set_option maxRecDepth 100000 in
theorem ca_41 : am_Call at_Ts at_cl 60 mt_41 := at_call (KL := 60) (M := mt_41) (pc := 611) (pi := 4) (ps := 0) (pn := 609) (pl := 610) (pv := 0) (at_m3 (List.mem_of_getElem? (i := 131) rfl)) (by decide +kernel)
theorem bd_42 : am_Body at_Ts at_P at_cl at_AO at_NL mt_42 := at_body at_PN at_PX (pG := [91, 78]) (pP := []) (pN := []) (pA := []) (pK := []) (pC := []) (by decide +kernel) (by decide +kernel) (by decide +kernel) (by decide +kernel)
set_option maxRecDepth 100000 in
theorem ca_42 : am_Call at_Ts at_cl 60 mt_42 := at_call (KL := 60) (M := mt_42) (pc := 615) (pi := 4) (ps := 0) (pn := 613) (pl := 614) (pv := 0) (at_m3 (List.mem_of_getElem? (i := 135) rfl)) (by decide +kernel)
theorem bd_43 : am_Body at_Ts at_P at_cl at_AO at_NL mt_43 := at_body at_PN at_PX (pG := [91, 78, 80, 85]) (pP := [91]) (pN := []) (pA := []) (pK := []) (pC := []) (by decide +kernel) (by decide +kernel) (by decide +kernel) (by decide +kernel)
set_option maxRecDepth 100000 in
theorem ca_43 : am_Call at_Ts at_cl 60 mt_43 := at_call (KL := 60) (M := mt_43) (pc := 619) (pi := 4) (ps := 0) (pn := 617) (pl := 618) (pv := 0) (at_m3 (List.mem_of_getElem? (i := 139) rfl)) (by decide +kernel)
