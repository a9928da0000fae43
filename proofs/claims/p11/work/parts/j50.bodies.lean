/-! what a program decides of each method -/
theorem bd_0 : am_Body at_Ts at_P at_cl at_AO at_NL mt_0 := at_body at_PN at_PX (pG := [518, 519, 522]) (pP := [518, 519, 520, 521, 522, 523, 524, 525]) (pN := [30, 63, 230, 268, 289, 323, 368, 516]) (pA := []) (pK := []) (pC := [27, 0, 65, 232, 270, 291, 325, 370, 517]) (by decide +kernel) (by decide +kernel) (by decide +kernel) (by decide +kernel)
set_option maxRecDepth 100000 in
theorem ca_0 : am_Call at_Ts at_cl 60 mt_0 := at_call (KL := 60) (M := mt_0) (pc := 26) (pi := 1) (ps := 0) (pn := 25) (pl := 0) (pv := 0) (at_m1 (List.mem_of_getElem? (i := 26) rfl)) (by decide +kernel)
theorem bd_1 : am_Body at_Ts at_P at_cl at_AO at_NL mt_1 := at_body at_PN at_PX (pG := [518, 37]) (pP := []) (pN := []) (pA := []) (pK := []) (pC := [1218]) (by decide +kernel) (by decide +kernel) (by decide +kernel) (by decide +kernel)
set_option maxRecDepth 100000 in
theorem ca_1 : am_Call at_Ts at_cl 60 mt_1 := at_call (KL := 60) (M := mt_1) (pc := 1150) (pi := 1) (ps := 0) (pn := 1148) (pl := 1149) (pv := 0) (at_m5 (List.mem_of_getElem? (i := 190) rfl)) (by decide +kernel)
theorem bd_2 : am_Body at_Ts at_P at_cl at_AO at_NL mt_2 := at_body at_PN at_PX (pG := [518, 37]) (pP := [37]) (pN := []) (pA := []) (pK := []) (pC := []) (by decide +kernel) (by decide +kernel) (by decide +kernel) (by decide +kernel)
set_option maxRecDepth 100000 in
theorem ca_2 : am_Call at_Ts at_cl 60 mt_2 := at_call (KL := 60) (M := mt_2) (pc := 1229) (pi := 1) (ps := 0) (pn := 1227) (pl := 1228) (pv := 0) (at_m6 (List.mem_of_getElem? (i := 29) rfl)) (by decide +kernel)
theorem bd_3 : am_Body at_Ts at_P at_cl at_AO at_NL mt_3 := at_body at_PN at_PX (pG := [520, 518, 524, 459]) (pP := [37]) (pN := []) (pA := []) (pK := []) (pC := [550, 729]) (by decide +kernel) (by decide +kernel) (by decide +kernel) (by decide +kernel)
set_option maxRecDepth 100000 in
theorem ca_3 : am_Call at_Ts at_cl 60 mt_3 := at_call (KL := 60) (M := mt_3) (pc := 549) (pi := 1) (ps := 0) (pn := 547) (pl := 548) (pv := 0) (at_m3 (List.mem_of_getElem? (i := 69) rfl)) (by decide +kernel)
theorem bd_4 : am_Body at_Ts at_P at_cl at_AO at_NL mt_4 := at_body at_PN at_PX (pG := [520, 240]) (pP := []) (pN := []) (pA := []) (pK := []) (pC := []) (by decide +kernel) (by decide +kernel) (by decide +kernel) (by decide +kernel)
set_option maxRecDepth 100000 in
theorem ca_4 : am_Call at_Ts at_cl 60 mt_4 := at_call (KL := 60) (M := mt_4) (pc := 736) (pi := 1) (ps := 0) (pn := 734) (pl := 735) (pv := 0) (at_m4 (List.mem_of_getElem? (i := 16) rfl)) (by decide +kernel)
theorem bd_5 : am_Body at_Ts at_P at_cl at_AO at_NL mt_5 := at_body at_PN at_PX (pG := [524, 459, 519, 189, 96, 194, 199, 210, 213, 418, 421, 414, 399]) (pP := []) (pN := []) (pA := []) (pK := []) (pC := []) (by decide +kernel) (by decide +kernel) (by decide +kernel) (by decide +kernel)
set_option maxRecDepth 100000 in
theorem ca_5 : am_Call at_Ts at_cl 60 mt_5 := at_call (KL := 60) (M := mt_5) (pc := 740) (pi := 1) (ps := 0) (pn := 738) (pl := 739) (pv := 0) (at_m4 (List.mem_of_getElem? (i := 20) rfl)) (by decide +kernel)
theorem bd_6 : am_Body at_Ts at_P at_cl at_AO at_NL mt_6 := at_body at_PN at_PX (pG := [519, 206, 169, 161, 146, 132, 152]) (pP := []) (pN := []) (pA := []) (pK := []) (pC := [745]) (by decide +kernel) (by decide +kernel) (by decide +kernel) (by decide +kernel)
set_option maxRecDepth 100000 in
theorem ca_6 : am_Call at_Ts at_cl 60 mt_6 := at_call (KL := 60) (M := mt_6) (pc := 744) (pi := 1) (ps := 0) (pn := 742) (pl := 743) (pv := 0) (at_m4 (List.mem_of_getElem? (i := 24) rfl)) (by decide +kernel)
theorem bd_7 : am_Body at_Ts at_P at_cl at_AO at_NL mt_7 := at_body at_PN at_PX (pG := [520, 525, 518, 522, 307, 521]) (pP := [37, 526]) (pN := []) (pA := []) (pK := []) (pC := [753, 757, 797]) (by decide +kernel) (by decide +kernel) (by decide +kernel) (by decide +kernel)
set_option maxRecDepth 100000 in
theorem ca_7 : am_Call at_Ts at_cl 60 mt_7 := at_call (KL := 60) (M := mt_7) (pc := 752) (pi := 1) (ps := 0) (pn := 750) (pl := 751) (pv := 0) (at_m4 (List.mem_of_getElem? (i := 32) rfl)) (by decide +kernel)
theorem bd_8 : am_Body at_Ts at_P at_cl at_AO at_NL mt_8 := at_body at_PN at_PX (pG := [526]) (pP := []) (pN := []) (pA := []) (pK := []) (pC := []) (by decide +kernel) (by decide +kernel) (by decide +kernel) (by decide +kernel)
set_option maxRecDepth 100000 in
theorem ca_8 : am_Call at_Ts at_cl 60 mt_8 := at_call (KL := 60) (M := mt_8) (pc := 823) (pi := 1) (ps := 0) (pn := 821) (pl := 822) (pv := 0) (at_m4 (List.mem_of_getElem? (i := 103) rfl)) (by decide +kernel)
theorem bd_9 : am_Body at_Ts at_P at_cl at_AO at_NL mt_9 := at_body at_PN at_PX (pG := [519, 523, 206]) (pP := []) (pN := []) (pA := []) (pK := []) (pC := [745, 828]) (by decide +kernel) (by decide +kernel) (by decide +kernel) (by decide +kernel)
set_option maxRecDepth 100000 in
theorem ca_9 : am_Call at_Ts at_cl 60 mt_9 := at_call (KL := 60) (M := mt_9) (pc := 827) (pi := 1) (ps := 0) (pn := 825) (pl := 826) (pv := 0) (at_m4 (List.mem_of_getElem? (i := 107) rfl)) (by decide +kernel)
theorem bd_10 : am_Body at_Ts at_P at_cl at_AO at_NL mt_10 := at_body at_PN at_PX (pG := [523, 344, 521, 339]) (pP := []) (pN := []) (pA := []) (pK := []) (pC := [797]) (by decide +kernel) (by decide +kernel) (by decide +kernel) (by decide +kernel)
set_option maxRecDepth 100000 in
theorem ca_10 : am_Call at_Ts at_cl 60 mt_10 := at_call (KL := 60) (M := mt_10) (pc := 897) (pi := 1) (ps := 0) (pn := 895) (pl := 896) (pv := 0) (at_m4 (List.mem_of_getElem? (i := 177) rfl)) (by decide +kernel)
theorem bd_11 : am_Body at_Ts at_P at_cl at_AO at_NL mt_11 := at_body at_PN at_PX (pG := [519, 524, 459, 206, 418]) (pP := []) (pN := []) (pA := []) (pK := []) (pC := [745, 902]) (by decide +kernel) (by decide +kernel) (by decide +kernel) (by decide +kernel)
set_option maxRecDepth 100000 in
theorem ca_11 : am_Call at_Ts at_cl 60 mt_11 := at_call (KL := 60) (M := mt_11) (pc := 901) (pi := 1) (ps := 0) (pn := 899) (pl := 900) (pv := 0) (at_m4 (List.mem_of_getElem? (i := 181) rfl)) (by decide +kernel)
theorem bd_12 : am_Body at_Ts at_P at_cl at_AO at_NL mt_12 := at_body at_PN at_PX (pG := [524]) (pP := []) (pN := []) (pA := []) (pK := []) (pC := [912, 916, 926]) (by decide +kernel) (by decide +kernel) (by decide +kernel) (by decide +kernel)
set_option maxRecDepth 100000 in
theorem ca_12 : am_Call at_Ts at_cl 60 mt_12 := at_call (KL := 60) (M := mt_12) (pc := 911) (pi := 1) (ps := 0) (pn := 909) (pl := 910) (pv := 0) (at_m4 (List.mem_of_getElem? (i := 191) rfl)) (by decide +kernel)
theorem bd_13 : am_Body at_Ts at_P at_cl at_AO at_NL mt_13 := at_body at_PN at_PX (pG := [519, 524]) (pP := []) (pN := []) (pA := []) (pK := []) (pC := [745, 912, 942, 916, 948]) (by decide +kernel) (by decide +kernel) (by decide +kernel) (by decide +kernel)
set_option maxRecDepth 100000 in
theorem ca_13 : am_Call at_Ts at_cl 60 mt_13 := at_call (KL := 60) (M := mt_13) (pc := 941) (pi := 1) (ps := 0) (pn := 939) (pl := 940) (pv := 0) (at_m4 (List.mem_of_getElem? (i := 221) rfl)) (by decide +kernel)
theorem bd_14 : am_Body at_Ts at_P at_cl at_AO at_NL mt_14 := at_body at_PN at_PX (pG := [524]) (pP := []) (pN := []) (pA := []) (pK := []) (pC := [912, 979, 916, 948]) (by decide +kernel) (by decide +kernel) (by decide +kernel) (by decide +kernel)
set_option maxRecDepth 100000 in
theorem ca_14 : am_Call at_Ts at_cl 60 mt_14 := at_call (KL := 60) (M := mt_14) (pc := 978) (pi := 1) (ps := 0) (pn := 976) (pl := 977) (pv := 0) (at_m5 (List.mem_of_getElem? (i := 18) rfl)) (by decide +kernel)
theorem bd_15 : am_Body at_Ts at_P at_cl at_AO at_NL mt_15 := at_body at_PN at_PX (pG := [524, 459, 418]) (pP := []) (pN := []) (pA := []) (pK := []) (pC := [987]) (by decide +kernel) (by decide +kernel) (by decide +kernel) (by decide +kernel)
set_option maxRecDepth 100000 in
theorem ca_15 : am_Call at_Ts at_cl 60 mt_15 := at_call (KL := 60) (M := mt_15) (pc := 986) (pi := 1) (ps := 0) (pn := 984) (pl := 985) (pv := 0) (at_m5 (List.mem_of_getElem? (i := 26) rfl)) (by decide +kernel)
theorem bd_16 : am_Body at_Ts at_P at_cl at_AO at_NL mt_16 := at_body at_PN at_PX (pG := [524]) (pP := []) (pN := []) (pA := []) (pK := []) (pC := [912, 916, 1064]) (by decide +kernel) (by decide +kernel) (by decide +kernel) (by decide +kernel)
set_option maxRecDepth 100000 in
theorem ca_16 : am_Call at_Ts at_cl 60 mt_16 := at_call (KL := 60) (M := mt_16) (pc := 1063) (pi := 1) (ps := 0) (pn := 1061) (pl := 1062) (pv := 0) (at_m5 (List.mem_of_getElem? (i := 103) rfl)) (by decide +kernel)
theorem bd_17 : am_Body at_Ts at_P at_cl at_AO at_NL mt_17 := at_body at_PN at_PX (pG := [524, 459, 418]) (pP := []) (pN := []) (pA := []) (pK := []) (pC := [1073]) (by decide +kernel) (by decide +kernel) (by decide +kernel) (by decide +kernel)
set_option maxRecDepth 100000 in
theorem ca_17 : am_Call at_Ts at_cl 60 mt_17 := at_call (KL := 60) (M := mt_17) (pc := 1072) (pi := 1) (ps := 0) (pn := 1070) (pl := 1071) (pv := 0) (at_m5 (List.mem_of_getElem? (i := 112) rfl)) (by decide +kernel)
theorem bd_18 : am_Body at_Ts at_P at_cl at_AO at_NL mt_18 := at_body at_PN at_PX (pG := [524, 459, 418]) (pP := []) (pN := []) (pA := []) (pK := []) (pC := [1082]) (by decide +kernel) (by decide +kernel) (by decide +kernel) (by decide +kernel)
set_option maxRecDepth 100000 in
theorem ca_18 : am_Call at_Ts at_cl 60 mt_18 := at_call (KL := 60) (M := mt_18) (pc := 1081) (pi := 1) (ps := 0) (pn := 1079) (pl := 1080) (pv := 0) (at_m5 (List.mem_of_getElem? (i := 121) rfl)) (by decide +kernel)
theorem bd_19 : am_Body at_Ts at_P at_cl at_AO at_NL mt_19 := at_body at_PN at_PX (pG := [524, 459, 418, 461]) (pP := []) (pN := []) (pA := []) (pK := []) (pC := [1090, 1099]) (by decide +kernel) (by decide +kernel) (by decide +kernel) (by decide +kernel)
set_option maxRecDepth 100000 in
theorem ca_19 : am_Call at_Ts at_cl 60 mt_19 := at_call (KL := 60) (M := mt_19) (pc := 1089) (pi := 1) (ps := 0) (pn := 1087) (pl := 1088) (pv := 0) (at_m5 (List.mem_of_getElem? (i := 129) rfl)) (by decide +kernel)
theorem bd_20 : am_Body at_Ts at_P at_cl at_AO at_NL mt_20 := at_body at_PN at_PX (pG := [524, 459, 418, 521, 414, 392]) (pP := []) (pN := []) (pA := []) (pK := []) (pC := [797]) (by decide +kernel) (by decide +kernel) (by decide +kernel) (by decide +kernel)
set_option maxRecDepth 100000 in
theorem ca_20 : am_Call at_Ts at_cl 60 mt_20 := at_call (KL := 60) (M := mt_20) (pc := 1130) (pi := 1) (ps := 0) (pn := 1128) (pl := 1129) (pv := 0) (at_m5 (List.mem_of_getElem? (i := 170) rfl)) (by decide +kernel)
theorem bd_21 : am_Body at_Ts at_P at_cl at_AO at_NL mt_21 := at_body at_PN at_PX (pG := [524, 459, 418, 414, 399, 521, 392, 395]) (pP := []) (pN := []) (pA := []) (pK := []) (pC := [797]) (by decide +kernel) (by decide +kernel) (by decide +kernel) (by decide +kernel)
set_option maxRecDepth 100000 in
theorem ca_21 : am_Call at_Ts at_cl 60 mt_21 := at_call (KL := 60) (M := mt_21) (pc := 1134) (pi := 1) (ps := 0) (pn := 1132) (pl := 1133) (pv := 0) (at_m5 (List.mem_of_getElem? (i := 174) rfl)) (by decide +kernel)
theorem bd_22 : am_Body at_Ts at_P at_cl at_AO at_NL mt_22 := at_body at_PN at_PX (pG := [519, 206, 521, 146, 152]) (pP := []) (pN := []) (pA := []) (pK := []) (pC := [745, 797]) (by decide +kernel) (by decide +kernel) (by decide +kernel) (by decide +kernel)
set_option maxRecDepth 100000 in
theorem ca_22 : am_Call at_Ts at_cl 60 mt_22 := at_call (KL := 60) (M := mt_22) (pc := 1138) (pi := 1) (ps := 0) (pn := 1136) (pl := 1137) (pv := 0) (at_m5 (List.mem_of_getElem? (i := 178) rfl)) (by decide +kernel)
theorem bd_23 : am_Body at_Ts at_P at_cl at_AO at_NL mt_23 := at_body at_PN at_PX (pG := [521, 279, 276]) (pP := []) (pN := []) (pA := []) (pK := []) (pC := []) (by decide +kernel) (by decide +kernel) (by decide +kernel) (by decide +kernel)
set_option maxRecDepth 100000 in
theorem ca_23 : am_Call at_Ts at_cl 60 mt_23 := at_call (KL := 60) (M := mt_23) (pc := 1142) (pi := 1) (ps := 0) (pn := 1140) (pl := 1141) (pv := 0) (at_m5 (List.mem_of_getElem? (i := 182) rfl)) (by decide +kernel)
theorem bd_24 : am_Body at_Ts at_P at_cl at_AO at_NL mt_24 := at_body at_PN at_PX (pG := [524, 459, 418]) (pP := []) (pN := []) (pA := []) (pK := []) (pC := []) (by decide +kernel) (by decide +kernel) (by decide +kernel) (by decide +kernel)
set_option maxRecDepth 100000 in
theorem ca_24 : am_Call at_Ts at_cl 60 mt_24 := at_call (KL := 60) (M := mt_24) (pc := 915) (pi := 1) (ps := 0) (pn := 914) (pl := 0) (pv := 42) (at_m4 (List.mem_of_getElem? (i := 195) rfl)) (by decide +kernel)
theorem bd_25 : am_Body at_Ts at_P at_cl at_AO at_NL mt_25 := at_body at_PN at_PX (pG := []) (pP := [36, 40, 42, 44]) (pN := []) (pA := []) (pK := []) (pC := [35]) (by decide +kernel) (by decide +kernel) (by decide +kernel) (by decide +kernel)
set_option maxRecDepth 100000 in
theorem ca_25 : am_Call at_Ts at_cl 60 mt_25 := at_call (KL := 60) (M := mt_25) (pc := 34) (pi := 2) (ps := 0) (pn := 33) (pl := 0) (pv := 0) (at_m1 (List.mem_of_getElem? (i := 34) rfl)) (by decide +kernel)
theorem bd_26 : am_Body at_Ts at_P at_cl at_AO at_NL mt_26 := at_body at_PN at_PX (pG := [38, 36]) (pP := [38]) (pN := []) (pA := []) (pK := []) (pC := []) (by decide +kernel) (by decide +kernel) (by decide +kernel) (by decide +kernel)
set_option maxRecDepth 100000 in
theorem ca_26 : am_Call at_Ts at_cl 60 mt_26 := at_call (KL := 60) (M := mt_26) (pc := 1221) (pi := 2) (ps := 0) (pn := 1219) (pl := 1220) (pv := 0) (at_m6 (List.mem_of_getElem? (i := 21) rfl)) (by decide +kernel)
theorem bd_27 : am_Body at_Ts at_P at_cl at_AO at_NL mt_27 := at_body at_PN at_PX (pG := [38, 36]) (pP := [46]) (pN := []) (pA := []) (pK := []) (pC := [558, 561, 565, 569, 576, 579]) (by decide +kernel) (by decide +kernel) (by decide +kernel) (by decide +kernel)
set_option maxRecDepth 100000 in
theorem ca_27 : am_Call at_Ts at_cl 60 mt_27 := at_call (KL := 60) (M := mt_27) (pc := 557) (pi := 2) (ps := 0) (pn := 555) (pl := 556) (pv := 0) (at_m3 (List.mem_of_getElem? (i := 77) rfl)) (by decide +kernel)
theorem bd_28 : am_Body at_Ts at_P at_cl at_AO at_NL mt_28 := at_body at_PN at_PX (pG := [46, 40, 42, 44]) (pP := [46]) (pN := []) (pA := []) (pK := []) (pC := []) (by decide +kernel) (by decide +kernel) (by decide +kernel) (by decide +kernel)
set_option maxRecDepth 100000 in
theorem ca_28 : am_Call at_Ts at_cl 60 mt_28 := at_call (KL := 60) (M := mt_28) (pc := 582) (pi := 2) (ps := 0) (pn := 581) (pl := 0) (pv := 2) (at_m3 (List.mem_of_getElem? (i := 102) rfl)) (by decide +kernel)
theorem bd_29 : am_Body at_Ts at_P at_cl at_AO at_NL mt_29 := at_body at_PN at_PX (pG := [38, 36]) (pP := []) (pN := []) (pA := []) (pK := []) (pC := [558]) (by decide +kernel) (by decide +kernel) (by decide +kernel) (by decide +kernel)
set_option maxRecDepth 100000 in
theorem ca_29 : am_Call at_Ts at_cl 60 mt_29 := at_call (KL := 60) (M := mt_29) (pc := 564) (pi := 2) (ps := 0) (pn := 563) (pl := 0) (pv := 0) (at_m3 (List.mem_of_getElem? (i := 84) rfl)) (by decide +kernel)
theorem bd_30 : am_Body at_Ts at_P at_cl at_AO at_NL mt_30 := at_body at_PN at_PX (pG := [36]) (pP := []) (pN := []) (pA := []) (pK := []) (pC := []) (by decide +kernel) (by decide +kernel) (by decide +kernel) (by decide +kernel)
set_option maxRecDepth 100000 in
theorem ca_30 : am_Call at_Ts at_cl 60 mt_30 := at_call (KL := 60) (M := mt_30) (pc := 568) (pi := 2) (ps := 0) (pn := 567) (pl := 0) (pv := 1) (at_m3 (List.mem_of_getElem? (i := 88) rfl)) (by decide +kernel)
theorem bd_31 : am_Body at_Ts at_P at_cl at_AO at_NL mt_31 := at_body at_PN at_PX (pG := []) (pP := []) (pN := []) (pA := []) (pK := [572, 573, 574, 575]) (pC := []) (by decide +kernel) (by decide +kernel) (by decide +kernel) (by decide +kernel)
set_option maxRecDepth 100000 in
theorem ca_31 : am_Call at_Ts at_cl 60 mt_31 := at_call (KL := 60) (M := mt_31) (pc := 571) (pi := 2) (ps := 570) (pn := 0) (pl := 0) (pv := 0) (at_m3 (List.mem_of_getElem? (i := 91) rfl)) (by decide +kernel)
theorem bd_32 : am_Body at_Ts at_P at_cl at_AO at_NL mt_32 := at_body at_PN at_PX (pG := []) (pP := []) (pN := []) (pA := []) (pK := []) (pC := []) (by decide +kernel) (by decide +kernel) (by decide +kernel) (by decide +kernel)
set_option maxRecDepth 100000 in
theorem ca_32 : am_Call at_Ts at_cl 60 mt_32 := at_call (KL := 60) (M := mt_32) (pc := 578) (pi := 2) (ps := 577) (pn := 0) (pl := 0) (pv := 0) (at_m3 (List.mem_of_getElem? (i := 98) rfl)) (by decide +kernel)
theorem bd_33 : am_Body at_Ts at_P at_cl at_AO at_NL mt_33 := at_body at_PN at_PX (pG := []) (pP := []) (pN := []) (pA := []) (pK := []) (pC := []) (by decide +kernel) (by decide +kernel) (by decide +kernel) (by decide +kernel)
set_option maxRecDepth 100000 in
theorem ca_33 : am_Call at_Ts at_cl 60 mt_33 := at_call (KL := 60) (M := mt_33) (pc := 560) (pi := 2) (ps := 559) (pn := 0) (pl := 0) (pv := 0) (at_m3 (List.mem_of_getElem? (i := 80) rfl)) (by decide +kernel)
theorem bd_34 : am_Body at_Ts at_P at_cl at_AO at_NL mt_34 := at_body at_PN at_PX (pG := [202, 204]) (pP := [186, 190, 196, 202, 204]) (pN := [69, 109]) (pA := [109]) (pK := []) (pC := [68, 71, 0]) (by decide +kernel) (by decide +kernel) (by decide +kernel) (by decide +kernel)
set_option maxRecDepth 100000 in
theorem ca_34 : am_Call at_Ts at_cl 60 mt_34 := at_call (KL := 60) (M := mt_34) (pc := 67) (pi := 3) (ps := 0) (pn := 66) (pl := 0) (pv := 0) (at_m1 (List.mem_of_getElem? (i := 67) rfl)) (by decide +kernel)
theorem bd_35 : am_Body at_Ts at_P at_cl at_AO at_NL mt_35 := at_body at_PN at_PX (pG := [211, 204]) (pP := []) (pN := []) (pA := []) (pK := []) (pC := []) (by decide +kernel) (by decide +kernel) (by decide +kernel) (by decide +kernel)
set_option maxRecDepth 100000 in
theorem ca_35 : am_Call at_Ts at_cl 60 mt_35 := at_call (KL := 60) (M := mt_35) (pc := 748) (pi := 3) (ps := 0) (pn := 746) (pl := 747) (pv := 0) (at_m4 (List.mem_of_getElem? (i := 28) rfl)) (by decide +kernel)
theorem bd_36 : am_Body at_Ts at_P at_cl at_AO at_NL mt_36 := at_body at_PN at_PX (pG := [211, 204, 165]) (pP := []) (pN := []) (pA := []) (pK := []) (pC := []) (by decide +kernel) (by decide +kernel) (by decide +kernel) (by decide +kernel)
set_option maxRecDepth 100000 in
theorem ca_36 : am_Call at_Ts at_cl 60 mt_36 := at_call (KL := 60) (M := mt_36) (pc := 710) (pi := 3) (ps := 0) (pn := 708) (pl := 709) (pv := 0) (at_m3 (List.mem_of_getElem? (i := 230) rfl)) (by decide +kernel)
theorem bd_37 : am_Body at_Ts at_P at_cl at_AO at_NL mt_37 := at_body at_PN at_PX (pG := [190, 81, 196]) (pP := []) (pN := []) (pA := []) (pK := []) (pC := [719, 722]) (by decide +kernel) (by decide +kernel) (by decide +kernel) (by decide +kernel)
set_option maxRecDepth 100000 in
theorem ca_37 : am_Call at_Ts at_cl 60 mt_37 := at_call (KL := 60) (M := mt_37) (pc := 718) (pi := 3) (ps := 0) (pn := 716) (pl := 717) (pv := 0) (at_m3 (List.mem_of_getElem? (i := 238) rfl)) (by decide +kernel)
theorem bd_38 : am_Body at_Ts at_P at_cl at_AO at_NL mt_38 := at_body at_PN at_PX (pG := [190, 94, 86]) (pP := []) (pN := []) (pA := []) (pK := []) (pC := [690]) (by decide +kernel) (by decide +kernel) (by decide +kernel) (by decide +kernel)
set_option maxRecDepth 100000 in
theorem ca_38 : am_Call at_Ts at_cl 60 mt_38 := at_call (KL := 60) (M := mt_38) (pc := 689) (pi := 3) (ps := 0) (pn := 687) (pl := 688) (pv := 0) (at_m3 (List.mem_of_getElem? (i := 209) rfl)) (by decide +kernel)
theorem bd_39 : am_Body at_Ts at_P at_cl at_AO at_NL mt_39 := at_body at_PN at_PX (pG := [211, 204]) (pP := [168]) (pN := []) (pA := []) (pK := []) (pC := []) (by decide +kernel) (by decide +kernel) (by decide +kernel) (by decide +kernel)
set_option maxRecDepth 100000 in
theorem ca_39 : am_Call at_Ts at_cl 60 mt_39 := at_call (KL := 60) (M := mt_39) (pc := 728) (pi := 3) (ps := 0) (pn := 726) (pl := 727) (pv := 0) (at_m4 (List.mem_of_getElem? (i := 8) rfl)) (by decide +kernel)
theorem bd_40 : am_Body at_Ts at_P at_cl at_AO at_NL mt_40 := at_body at_PN at_PX (pG := []) (pP := [78, 80, 85, 90]) (pN := []) (pA := []) (pK := []) (pC := [74, 75]) (by decide +kernel) (by decide +kernel) (by decide +kernel) (by decide +kernel)
set_option maxRecDepth 100000 in
theorem ca_40 : am_Call at_Ts at_cl 60 mt_40 := at_call (KL := 60) (M := mt_40) (pc := 73) (pi := 4) (ps := 0) (pn := 72) (pl := 0) (pv := 0) (at_m1 (List.mem_of_getElem? (i := 73) rfl)) (by decide +kernel)
theorem bd_41 : am_Body at_Ts at_P at_cl at_AO at_NL mt_41 := at_body at_PN at_PX (pG := [91, 78]) (pP := []) (pN := []) (pA := []) (pK := []) (pC := []) (by decide +kernel) (by decide +kernel) (by decide +kernel) (by decide +kernel)
set_option maxRecDepth 100000 in
theorem ca_41 : am_Call at_Ts at_cl 60 mt_41 := at_call (KL := 60) (M := mt_41) (pc := 610) (pi := 4) (ps := 0) (pn := 608) (pl := 609) (pv := 0) (at_m3 (List.mem_of_getElem? (i := 130) rfl)) (by decide +kernel)
theorem bd_42 : am_Body at_Ts at_P at_cl at_AO at_NL mt_42 := at_body at_PN at_PX (pG := [91, 78]) (pP := []) (pN := []) (pA := []) (pK := []) (pC := []) (by decide +kernel) (by decide +kernel) (by decide +kernel) (by decide +kernel)
set_option maxRecDepth 100000 in
theorem ca_42 : am_Call at_Ts at_cl 60 mt_42 := at_call (KL := 60) (M := mt_42) (pc := 614) (pi := 4) (ps := 0) (pn := 612) (pl := 613) (pv := 0) (at_m3 (List.mem_of_getElem? (i := 134) rfl)) (by decide +kernel)
theorem bd_43 : am_Body at_Ts at_P at_cl at_AO at_NL mt_43 := at_body at_PN at_PX (pG := [91, 78, 80, 85]) (pP := [91]) (pN := []) (pA := []) (pK := []) (pC := []) (by decide +kernel) (by decide +kernel) (by decide +kernel) (by decide +kernel)
set_option maxRecDepth 100000 in
theorem ca_43 : am_Call at_Ts at_cl 60 mt_43 := at_call (KL := 60) (M := mt_43) (pc := 618) (pi := 4) (ps := 0) (pn := 616) (pl := 617) (pv := 0) (at_m3 (List.mem_of_getElem? (i := 138) rfl)) (by decide +kernel)
