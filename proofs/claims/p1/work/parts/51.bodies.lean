/-! what a program decides of each method -/
theorem bd_44 : am_Body at_Ts at_P at_cl at_AO at_NL mt_44 := at_body at_PN at_PX (pG := [91, 85, 90]) (pP := []) (pN := []) (pA := []) (pK := []) (pC := []) (by decide +kernel) (by decide +kernel) (by decide +kernel) (by decide +kernel)
set_option maxRecDepth 100000 in
theorem ca_44 : am_Call at_Ts at_cl 60 mt_44 := at_call (KL := 60) (M := mt_44) (pc := 631) (pi := 4) (ps := 0) (pn := 629) (pl := 630) (pv := 0) (at_m3 (List.mem_of_getElem? (i := 151) rfl)) (by decide +kernel)
theorem bd_45 : am_Body at_Ts at_P at_cl at_AO at_NL mt_45 := at_body at_PN at_PX (pG := [90]) (pP := []) (pN := []) (pA := []) (pK := []) (pC := []) (by decide +kernel) (by decide +kernel) (by decide +kernel) (by decide +kernel)
set_option maxRecDepth 100000 in
theorem ca_45 : am_Call at_Ts at_cl 60 mt_45 := at_call (KL := 60) (M := mt_45) (pc := 666) (pi := 4) (ps := 0) (pn := 664) (pl := 665) (pv := 0) (at_m3 (List.mem_of_getElem? (i := 186) rfl)) (by decide +kernel)
theorem bd_46 : am_Body at_Ts at_P at_cl at_AO at_NL mt_46 := at_body at_PN at_PX (pG := []) (pP := [140, 147, 154]) (pN := [116]) (pA := []) (pK := []) (pC := [115, 118]) (by decide +kernel) (by decide +kernel) (by decide +kernel) (by decide +kernel)
set_option maxRecDepth 100000 in
theorem ca_46 : am_Call at_Ts at_cl 60 mt_46 := at_call (KL := 60) (M := mt_46) (pc := 114) (pi := 6) (ps := 0) (pn := 113) (pl := 0) (pv := 0) (at_m1 (List.mem_of_getElem? (i := 114) rfl)) (by decide +kernel)
theorem bd_47 : am_Body at_Ts at_P at_cl at_AO at_NL mt_47 := at_body at_PN at_PX (pG := []) (pP := [123]) (pN := []) (pA := []) (pK := []) (pC := [121, 122]) (by decide +kernel) (by decide +kernel) (by decide +kernel) (by decide +kernel)
set_option maxRecDepth 100000 in
theorem ca_47 : am_Call at_Ts at_cl 60 mt_47 := at_call (KL := 60) (M := mt_47) (pc := 120) (pi := 7) (ps := 0) (pn := 119) (pl := 0) (pv := 0) (at_m1 (List.mem_of_getElem? (i := 120) rfl)) (by decide +kernel)
theorem bd_48 : am_Body at_Ts at_P at_cl at_AO at_NL mt_48 := at_body at_PN at_PX (pG := []) (pP := []) (pN := []) (pA := []) (pK := []) (pC := []) (by decide +kernel) (by decide +kernel) (by decide +kernel) (by decide +kernel)
set_option maxRecDepth 100000 in
theorem ca_48 : am_Call at_Ts at_cl 60 mt_48 := at_call (KL := 60) (M := mt_48) (pc := 654) (pi := 7) (ps := 653) (pn := 0) (pl := 0) (pv := 0) (at_m3 (List.mem_of_getElem? (i := 174) rfl)) (by decide +kernel)
theorem bd_49 : am_Body at_Ts at_P at_cl at_AO at_NL mt_49 := at_body at_PN at_PX (pG := []) (pP := []) (pN := []) (pA := []) (pK := []) (pC := []) (by decide +kernel) (by decide +kernel) (by decide +kernel) (by decide +kernel)
set_option maxRecDepth 100000 in
theorem ca_49 : am_Call at_Ts at_cl 60 mt_49 := at_call (KL := 60) (M := mt_49) (pc := 725) (pi := 7) (ps := 724) (pn := 0) (pl := 0) (pv := 0) (at_m4 (List.mem_of_getElem? (i := 5) rfl)) (by decide +kernel)
theorem bd_50 : am_Body at_Ts at_P at_cl at_AO at_NL mt_50 := at_body at_PN at_PX (pG := []) (pP := []) (pN := []) (pA := []) (pK := []) (pC := []) (by decide +kernel) (by decide +kernel) (by decide +kernel) (by decide +kernel)
set_option maxRecDepth 100000 in
theorem ca_50 : am_Call at_Ts at_cl 60 mt_50 := at_call (KL := 60) (M := mt_50) (pc := 722) (pi := 7) (ps := 721) (pn := 0) (pl := 0) (pv := 0) (at_m4 (List.mem_of_getElem? (i := 2) rfl)) (by decide +kernel)
theorem bd_51 : am_Body at_Ts at_P at_cl at_AO at_NL mt_51 := at_body at_PN at_PX (pG := [131, 123]) (pP := []) (pN := []) (pA := []) (pK := []) (pC := []) (by decide +kernel) (by decide +kernel) (by decide +kernel) (by decide +kernel)
set_option maxRecDepth 100000 in
theorem ca_51 : am_Call at_Ts at_cl 60 mt_51 := at_call (KL := 60) (M := mt_51) (pc := 715) (pi := 7) (ps := 0) (pn := 713) (pl := 714) (pv := 0) (at_m3 (List.mem_of_getElem? (i := 235) rfl)) (by decide +kernel)
theorem bd_52 : am_Body at_Ts at_P at_cl at_AO at_NL mt_52 := at_body at_PN at_PX (pG := [131, 123]) (pP := [131]) (pN := []) (pA := []) (pK := []) (pC := []) (by decide +kernel) (by decide +kernel) (by decide +kernel) (by decide +kernel)
set_option maxRecDepth 100000 in
theorem ca_52 : am_Call at_Ts at_cl 60 mt_52 := at_call (KL := 60) (M := mt_52) (pc := 662) (pi := 7) (ps := 0) (pn := 660) (pl := 661) (pv := 0) (at_m3 (List.mem_of_getElem? (i := 182) rfl)) (by decide +kernel)
theorem bd_53 : am_Body at_Ts at_P at_cl at_AO at_NL mt_53 := at_body at_PN at_PX (pG := [131, 123]) (pP := []) (pN := []) (pA := []) (pK := []) (pC := [122]) (by decide +kernel) (by decide +kernel) (by decide +kernel) (by decide +kernel)
set_option maxRecDepth 100000 in
theorem ca_53 : am_Call at_Ts at_cl 60 mt_53 := at_call (KL := 60) (M := mt_53) (pc := 779) (pi := 7) (ps := 0) (pn := 777) (pl := 778) (pv := 0) (at_m4 (List.mem_of_getElem? (i := 59) rfl)) (by decide +kernel)
theorem bd_54 : am_Body at_Ts at_P at_cl at_AO at_NL mt_54 := at_body at_PN at_PX (pG := [131, 123]) (pP := [131]) (pN := []) (pA := []) (pK := []) (pC := [788]) (by decide +kernel) (by decide +kernel) (by decide +kernel) (by decide +kernel)
set_option maxRecDepth 100000 in
theorem ca_54 : am_Call at_Ts at_cl 60 mt_54 := at_call (KL := 60) (M := mt_54) (pc := 787) (pi := 7) (ps := 0) (pn := 785) (pl := 786) (pv := 0) (at_m4 (List.mem_of_getElem? (i := 67) rfl)) (by decide +kernel)
theorem bd_55 : am_Body at_Ts at_P at_cl at_AO at_NL mt_55 := at_body at_PN at_PX (pG := [131, 123]) (pP := [131]) (pN := []) (pA := []) (pK := []) (pC := [795, 788]) (by decide +kernel) (by decide +kernel) (by decide +kernel) (by decide +kernel)
set_option maxRecDepth 100000 in
theorem ca_55 : am_Call at_Ts at_cl 60 mt_55 := at_call (KL := 60) (M := mt_55) (pc := 794) (pi := 7) (ps := 0) (pn := 792) (pl := 793) (pv := 0) (at_m4 (List.mem_of_getElem? (i := 74) rfl)) (by decide +kernel)
theorem bd_56 : am_Body at_Ts at_P at_cl at_AO at_NL mt_56 := at_body at_PN at_PX (pG := [131, 123]) (pP := []) (pN := []) (pA := []) (pK := []) (pC := []) (by decide +kernel) (by decide +kernel) (by decide +kernel) (by decide +kernel)
set_option maxRecDepth 100000 in
theorem ca_56 : am_Call at_Ts at_cl 60 mt_56 := at_call (KL := 60) (M := mt_56) (pc := 889) (pi := 7) (ps := 0) (pn := 887) (pl := 888) (pv := 0) (at_m4 (List.mem_of_getElem? (i := 169) rfl)) (by decide +kernel)
theorem bd_57 : am_Body at_Ts at_P at_cl at_AO at_NL mt_57 := at_body at_PN at_PX (pG := [131]) (pP := []) (pN := []) (pA := []) (pK := []) (pC := [886]) (by decide +kernel) (by decide +kernel) (by decide +kernel) (by decide +kernel)
set_option maxRecDepth 100000 in
theorem ca_57 : am_Call at_Ts at_cl 60 mt_57 := at_call (KL := 60) (M := mt_57) (pc := 885) (pi := 7) (ps := 0) (pn := 883) (pl := 884) (pv := 0) (at_m4 (List.mem_of_getElem? (i := 165) rfl)) (by decide +kernel)
theorem bd_58 : am_Body at_Ts at_P at_cl at_AO at_NL mt_58 := at_body at_PN at_PX (pG := [131, 123]) (pP := []) (pN := []) (pA := []) (pK := []) (pC := [961]) (by decide +kernel) (by decide +kernel) (by decide +kernel) (by decide +kernel)
set_option maxRecDepth 100000 in
theorem ca_58 : am_Call at_Ts at_cl 60 mt_58 := at_call (KL := 60) (M := mt_58) (pc := 960) (pi := 7) (ps := 0) (pn := 958) (pl := 959) (pv := 0) (at_m5 (List.mem_of_getElem? (i := 0) rfl)) (by decide +kernel)
theorem bd_59 : am_Body at_Ts at_P at_cl at_AO at_NL mt_59 := at_body at_PN at_PX (pG := [131]) (pP := [131]) (pN := []) (pA := []) (pK := []) (pC := [886, 1038]) (by decide +kernel) (by decide +kernel) (by decide +kernel) (by decide +kernel)
set_option maxRecDepth 100000 in
theorem ca_59 : am_Call at_Ts at_cl 60 mt_59 := at_call (KL := 60) (M := mt_59) (pc := 1037) (pi := 7) (ps := 0) (pn := 1035) (pl := 1036) (pv := 0) (at_m5 (List.mem_of_getElem? (i := 77) rfl)) (by decide +kernel)
theorem bd_60 : am_Body at_Ts at_P at_cl at_AO at_NL mt_60 := at_body at_PN at_PX (pG := [131, 123]) (pP := []) (pN := []) (pA := []) (pK := []) (pC := [1000, 1001]) (by decide +kernel) (by decide +kernel) (by decide +kernel) (by decide +kernel)
set_option maxRecDepth 100000 in
theorem ca_60 : am_Call at_Ts at_cl 60 mt_60 := at_call (KL := 60) (M := mt_60) (pc := 999) (pi := 7) (ps := 0) (pn := 997) (pl := 998) (pv := 0) (at_m5 (List.mem_of_getElem? (i := 39) rfl)) (by decide +kernel)
theorem bd_61 : am_Body at_Ts at_P at_cl at_AO at_NL mt_61 := at_body at_PN at_PX (pG := [201, 141]) (pP := [238, 236, 237, 244, 245]) (pN := []) (pA := []) (pK := []) (pC := [235]) (by decide +kernel) (by decide +kernel) (by decide +kernel) (by decide +kernel)
set_option maxRecDepth 100000 in
theorem ca_61 : am_Call at_Ts at_cl 60 mt_61 := at_call (KL := 60) (M := mt_61) (pc := 234) (pi := 8) (ps := 0) (pn := 233) (pl := 0) (pv := 0) (at_m1 (List.mem_of_getElem? (i := 234) rfl)) (by decide +kernel)
theorem bd_62 : am_Body at_Ts at_P at_cl at_AO at_NL mt_62 := at_body at_PN at_PX (pG := [237, 187, 92, 191, 197, 208, 212, 236, 242]) (pP := [239, 212, 92, 208]) (pN := []) (pA := []) (pK := []) (pC := [555, 584, 588, 632, 640, 704, 596, 620, 726]) (by decide +kernel) (by decide +kernel) (by decide +kernel) (by decide +kernel)
set_option maxRecDepth 100000 in
theorem ca_62 : am_Call at_Ts at_cl 60 mt_62 := at_call (KL := 60) (M := mt_62) (pc := 554) (pi := 8) (ps := 0) (pn := 552) (pl := 553) (pv := 0) (at_m3 (List.mem_of_getElem? (i := 74) rfl)) (by decide +kernel)
theorem bd_63 : am_Body at_Ts at_P at_cl at_AO at_NL mt_63 := at_body at_PN at_PX (pG := [236, 242]) (pP := [239, 243]) (pN := []) (pA := []) (pK := []) (pC := [555, 648, 692, 620]) (by decide +kernel) (by decide +kernel) (by decide +kernel) (by decide +kernel)
set_option maxRecDepth 100000 in
theorem ca_63 : am_Call at_Ts at_cl 60 mt_63 := at_call (KL := 60) (M := mt_63) (pc := 757) (pi := 8) (ps := 0) (pn := 755) (pl := 756) (pv := 0) (at_m4 (List.mem_of_getElem? (i := 37) rfl)) (by decide +kernel)
theorem bd_64 : am_Body at_Ts at_P at_cl at_AO at_NL mt_64 := at_body at_PN at_PX (pG := [239, 237, 187, 92]) (pP := [239]) (pN := []) (pA := []) (pK := []) (pC := [592, 620, 624, 584]) (by decide +kernel) (by decide +kernel) (by decide +kernel) (by decide +kernel)
set_option maxRecDepth 100000 in
theorem ca_64 : am_Call at_Ts at_cl 60 mt_64 := at_call (KL := 60) (M := mt_64) (pc := 591) (pi := 8) (ps := 0) (pn := 590) (pl := 0) (pv := 4) (at_m3 (List.mem_of_getElem? (i := 111) rfl)) (by decide +kernel)
theorem bd_65 : am_Body at_Ts at_P at_cl at_AO at_NL mt_65 := at_body at_PN at_PX (pG := [237, 191, 187, 239]) (pP := [239]) (pN := []) (pA := []) (pK := []) (pC := [592, 584, 604, 608, 600, 628]) (by decide +kernel) (by decide +kernel) (by decide +kernel) (by decide +kernel)
set_option maxRecDepth 100000 in
theorem ca_65 : am_Call at_Ts at_cl 60 mt_65 := at_call (KL := 60) (M := mt_65) (pc := 627) (pi := 8) (ps := 0) (pn := 626) (pl := 0) (pv := 10) (at_m3 (List.mem_of_getElem? (i := 147) rfl)) (by decide +kernel)
theorem bd_66 : am_Body at_Ts at_P at_cl at_AO at_NL mt_66 := at_body at_PN at_PX (pG := [239, 237, 197, 92, 83]) (pP := [239]) (pN := []) (pA := []) (pK := []) (pC := [592, 620, 636, 584, 600, 628]) (by decide +kernel) (by decide +kernel) (by decide +kernel) (by decide +kernel)
set_option maxRecDepth 100000 in
theorem ca_66 : am_Call at_Ts at_cl 60 mt_66 := at_call (KL := 60) (M := mt_66) (pc := 635) (pi := 8) (ps := 0) (pn := 634) (pl := 0) (pv := 11) (at_m3 (List.mem_of_getElem? (i := 155) rfl)) (by decide +kernel)
theorem bd_67 : am_Body at_Ts at_P at_cl at_AO at_NL mt_67 := at_body at_PN at_PX (pG := [237, 187, 197, 83, 239]) (pP := [239]) (pN := []) (pA := []) (pK := []) (pC := [584, 596, 604, 608, 600]) (by decide +kernel) (by decide +kernel) (by decide +kernel) (by decide +kernel)
set_option maxRecDepth 100000 in
theorem ca_67 : am_Call at_Ts at_cl 60 mt_67 := at_call (KL := 60) (M := mt_67) (pc := 639) (pi := 8) (ps := 0) (pn := 638) (pl := 0) (pv := 12) (at_m3 (List.mem_of_getElem? (i := 159) rfl)) (by decide +kernel)
theorem bd_68 : am_Body at_Ts at_P at_cl at_AO at_NL mt_68 := at_body at_PN at_PX (pG := [237, 208, 239, 197, 201, 244, 88, 153, 83, 246]) (pP := [239, 164, 162, 208]) (pN := []) (pA := []) (pK := []) (pC := [600, 584, 596, 604, 608, 644, 652, 655, 663, 667, 620, 648, 692]) (by decide +kernel) (by decide +kernel) (by decide +kernel) (by decide +kernel)
set_option maxRecDepth 100000 in
theorem ca_68 : am_Call at_Ts at_cl 60 mt_68 := at_call (KL := 60) (M := mt_68) (pc := 643) (pi := 8) (ps := 0) (pn := 642) (pl := 0) (pv := 13) (at_m3 (List.mem_of_getElem? (i := 163) rfl)) (by decide +kernel)
theorem bd_69 : am_Body at_Ts at_P at_cl at_AO at_NL mt_69 := at_body at_PN at_PX (pG := [239, 237, 212, 207, 244, 141, 157, 153, 246]) (pP := [239, 166, 170, 162]) (pN := []) (pA := []) (pK := []) (pC := [584, 596, 604, 708, 600, 644, 620, 692, 712, 716, 648]) (by decide +kernel) (by decide +kernel) (by decide +kernel) (by decide +kernel)
set_option maxRecDepth 100000 in
theorem ca_69 : am_Call at_Ts at_cl 60 mt_69 := at_call (KL := 60) (M := mt_69) (pc := 707) (pi := 8) (ps := 0) (pn := 706) (pl := 0) (pv := 25) (at_m3 (List.mem_of_getElem? (i := 227) rfl)) (by decide +kernel)
theorem bd_70 : am_Body at_Ts at_P at_cl at_AO at_NL mt_70 := at_body at_PN at_PX (pG := [239]) (pP := [239]) (pN := []) (pA := []) (pK := []) (pC := [584, 671, 683, 600, 596, 620]) (by decide +kernel) (by decide +kernel) (by decide +kernel) (by decide +kernel)
set_option maxRecDepth 100000 in
theorem ca_70 : am_Call at_Ts at_cl 60 mt_70 := at_call (KL := 60) (M := mt_70) (pc := 670) (pi := 8) (ps := 0) (pn := 669) (pl := 0) (pv := 17) (at_m3 (List.mem_of_getElem? (i := 190) rfl)) (by decide +kernel)
theorem bd_71 : am_Body at_Ts at_P at_cl at_AO at_NL mt_71 := at_body at_PN at_PX (pG := [237, 197]) (pP := []) (pN := []) (pA := []) (pK := []) (pC := [604, 608, 600, 675, 679, 652, 655]) (by decide +kernel) (by decide +kernel) (by decide +kernel) (by decide +kernel)
set_option maxRecDepth 100000 in
theorem ca_71 : am_Call at_Ts at_cl 60 mt_71 := at_call (KL := 60) (M := mt_71) (pc := 674) (pi := 8) (ps := 0) (pn := 673) (pl := 0) (pv := 18) (at_m3 (List.mem_of_getElem? (i := 194) rfl)) (by decide +kernel)
theorem bd_72 : am_Body at_Ts at_P at_cl at_AO at_NL mt_72 := at_body at_PN at_PX (pG := [237, 191, 88, 83]) (pP := []) (pN := []) (pA := []) (pK := []) (pC := [604, 608, 600, 687, 655, 663, 667]) (by decide +kernel) (by decide +kernel) (by decide +kernel) (by decide +kernel)
set_option maxRecDepth 100000 in
theorem ca_72 : am_Call at_Ts at_cl 60 mt_72 := at_call (KL := 60) (M := mt_72) (pc := 686) (pi := 8) (ps := 0) (pn := 685) (pl := 0) (pv := 21) (at_m3 (List.mem_of_getElem? (i := 206) rfl)) (by decide +kernel)
theorem bd_73 : am_Body at_Ts at_P at_cl at_AO at_NL mt_73 := at_body at_PN at_PX (pG := [237, 197, 191, 239]) (pP := [239]) (pN := []) (pA := []) (pK := []) (pC := [584, 604, 608, 696, 700, 600, 655, 692, 620, 596]) (by decide +kernel) (by decide +kernel) (by decide +kernel) (by decide +kernel)
set_option maxRecDepth 100000 in
theorem ca_73 : am_Call at_Ts at_cl 60 mt_73 := at_call (KL := 60) (M := mt_73) (pc := 695) (pi := 8) (ps := 0) (pn := 694) (pl := 0) (pv := 22) (at_m3 (List.mem_of_getElem? (i := 215) rfl)) (by decide +kernel)
