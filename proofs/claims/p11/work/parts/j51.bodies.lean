/-! what a program decides of each method -/
theorem bd_44 : am_Body at_Ts at_P at_cl at_AO at_NL mt_44 := at_body at_PN at_PX (pG := [91, 85, 90]) (pP := []) (pN := []) (pA := []) (pK := []) (pC := []) (by decide +kernel) (by decide +kernel) (by decide +kernel) (by decide +kernel)
set_option maxRecDepth 100000 in
theorem ca_44 : am_Call at_Ts at_cl 60 mt_44 := at_call (KL := 60) (M := mt_44) (pc := 630) (pi := 4) (ps := 0) (pn := 628) (pl := 629) (pv := 0) (at_m3 (List.mem_of_getElem? (i := 150) rfl)) (by decide +kernel)
theorem bd_45 : am_Body at_Ts at_P at_cl at_AO at_NL mt_45 := at_body at_PN at_PX (pG := [90]) (pP := []) (pN := []) (pA := []) (pK := []) (pC := []) (by decide +kernel) (by decide +kernel) (by decide +kernel) (by decide +kernel)
set_option maxRecDepth 100000 in
theorem ca_45 : am_Call at_Ts at_cl 60 mt_45 := at_call (KL := 60) (M := mt_45) (pc := 665) (pi := 4) (ps := 0) (pn := 663) (pl := 664) (pv := 0) (at_m3 (List.mem_of_getElem? (i := 185) rfl)) (by decide +kernel)
theorem bd_46 : am_Body at_Ts at_P at_cl at_AO at_NL mt_46 := at_body at_PN at_PX (pG := []) (pP := [140, 147, 154]) (pN := [116]) (pA := []) (pK := []) (pC := [115, 118]) (by decide +kernel) (by decide +kernel) (by decide +kernel) (by decide +kernel)
set_option maxRecDepth 100000 in
theorem ca_46 : am_Call at_Ts at_cl 60 mt_46 := at_call (KL := 60) (M := mt_46) (pc := 114) (pi := 6) (ps := 0) (pn := 113) (pl := 0) (pv := 0) (at_m1 (List.mem_of_getElem? (i := 114) rfl)) (by decide +kernel)
theorem bd_47 : am_Body at_Ts at_P at_cl at_AO at_NL mt_47 := at_body at_PN at_PX (pG := []) (pP := [123]) (pN := []) (pA := []) (pK := []) (pC := [121, 122]) (by decide +kernel) (by decide +kernel) (by decide +kernel) (by decide +kernel)
set_option maxRecDepth 100000 in
theorem ca_47 : am_Call at_Ts at_cl 60 mt_47 := at_call (KL := 60) (M := mt_47) (pc := 120) (pi := 7) (ps := 0) (pn := 119) (pl := 0) (pv := 0) (at_m1 (List.mem_of_getElem? (i := 120) rfl)) (by decide +kernel)
theorem bd_48 : am_Body at_Ts at_P at_cl at_AO at_NL mt_48 := at_body at_PN at_PX (pG := []) (pP := []) (pN := []) (pA := []) (pK := []) (pC := []) (by decide +kernel) (by decide +kernel) (by decide +kernel) (by decide +kernel)
set_option maxRecDepth 100000 in
theorem ca_48 : am_Call at_Ts at_cl 60 mt_48 := at_call (KL := 60) (M := mt_48) (pc := 653) (pi := 7) (ps := 652) (pn := 0) (pl := 0) (pv := 0) (at_m3 (List.mem_of_getElem? (i := 173) rfl)) (by decide +kernel)
theorem bd_49 : am_Body at_Ts at_P at_cl at_AO at_NL mt_49 := at_body at_PN at_PX (pG := []) (pP := []) (pN := []) (pA := []) (pK := []) (pC := []) (by decide +kernel) (by decide +kernel) (by decide +kernel) (by decide +kernel)
set_option maxRecDepth 100000 in
theorem ca_49 : am_Call at_Ts at_cl 60 mt_49 := at_call (KL := 60) (M := mt_49) (pc := 724) (pi := 7) (ps := 723) (pn := 0) (pl := 0) (pv := 0) (at_m4 (List.mem_of_getElem? (i := 4) rfl)) (by decide +kernel)
theorem bd_50 : am_Body at_Ts at_P at_cl at_AO at_NL mt_50 := at_body at_PN at_PX (pG := []) (pP := []) (pN := []) (pA := []) (pK := []) (pC := []) (by decide +kernel) (by decide +kernel) (by decide +kernel) (by decide +kernel)
set_option maxRecDepth 100000 in
theorem ca_50 : am_Call at_Ts at_cl 60 mt_50 := at_call (KL := 60) (M := mt_50) (pc := 721) (pi := 7) (ps := 720) (pn := 0) (pl := 0) (pv := 0) (at_m4 (List.mem_of_getElem? (i := 1) rfl)) (by decide +kernel)
theorem bd_51 : am_Body at_Ts at_P at_cl at_AO at_NL mt_51 := at_body at_PN at_PX (pG := [131, 123]) (pP := []) (pN := []) (pA := []) (pK := []) (pC := []) (by decide +kernel) (by decide +kernel) (by decide +kernel) (by decide +kernel)
set_option maxRecDepth 100000 in
theorem ca_51 : am_Call at_Ts at_cl 60 mt_51 := at_call (KL := 60) (M := mt_51) (pc := 714) (pi := 7) (ps := 0) (pn := 712) (pl := 713) (pv := 0) (at_m3 (List.mem_of_getElem? (i := 234) rfl)) (by decide +kernel)
theorem bd_52 : am_Body at_Ts at_P at_cl at_AO at_NL mt_52 := at_body at_PN at_PX (pG := [131, 123]) (pP := [131]) (pN := []) (pA := []) (pK := []) (pC := []) (by decide +kernel) (by decide +kernel) (by decide +kernel) (by decide +kernel)
set_option maxRecDepth 100000 in
theorem ca_52 : am_Call at_Ts at_cl 60 mt_52 := at_call (KL := 60) (M := mt_52) (pc := 661) (pi := 7) (ps := 0) (pn := 659) (pl := 660) (pv := 0) (at_m3 (List.mem_of_getElem? (i := 181) rfl)) (by decide +kernel)
theorem bd_53 : am_Body at_Ts at_P at_cl at_AO at_NL mt_53 := at_body at_PN at_PX (pG := [131, 123]) (pP := []) (pN := []) (pA := []) (pK := []) (pC := [122]) (by decide +kernel) (by decide +kernel) (by decide +kernel) (by decide +kernel)
set_option maxRecDepth 100000 in
theorem ca_53 : am_Call at_Ts at_cl 60 mt_53 := at_call (KL := 60) (M := mt_53) (pc := 778) (pi := 7) (ps := 0) (pn := 776) (pl := 777) (pv := 0) (at_m4 (List.mem_of_getElem? (i := 58) rfl)) (by decide +kernel)
theorem bd_54 : am_Body at_Ts at_P at_cl at_AO at_NL mt_54 := at_body at_PN at_PX (pG := [131, 123]) (pP := [131]) (pN := []) (pA := []) (pK := []) (pC := [787]) (by decide +kernel) (by decide +kernel) (by decide +kernel) (by decide +kernel)
set_option maxRecDepth 100000 in
theorem ca_54 : am_Call at_Ts at_cl 60 mt_54 := at_call (KL := 60) (M := mt_54) (pc := 786) (pi := 7) (ps := 0) (pn := 784) (pl := 785) (pv := 0) (at_m4 (List.mem_of_getElem? (i := 66) rfl)) (by decide +kernel)
theorem bd_55 : am_Body at_Ts at_P at_cl at_AO at_NL mt_55 := at_body at_PN at_PX (pG := [131, 123]) (pP := [131]) (pN := []) (pA := []) (pK := []) (pC := [794, 787]) (by decide +kernel) (by decide +kernel) (by decide +kernel) (by decide +kernel)
set_option maxRecDepth 100000 in
theorem ca_55 : am_Call at_Ts at_cl 60 mt_55 := at_call (KL := 60) (M := mt_55) (pc := 793) (pi := 7) (ps := 0) (pn := 791) (pl := 792) (pv := 0) (at_m4 (List.mem_of_getElem? (i := 73) rfl)) (by decide +kernel)
theorem bd_56 : am_Body at_Ts at_P at_cl at_AO at_NL mt_56 := at_body at_PN at_PX (pG := [131, 123]) (pP := []) (pN := []) (pA := []) (pK := []) (pC := []) (by decide +kernel) (by decide +kernel) (by decide +kernel) (by decide +kernel)
set_option maxRecDepth 100000 in
theorem ca_56 : am_Call at_Ts at_cl 60 mt_56 := at_call (KL := 60) (M := mt_56) (pc := 888) (pi := 7) (ps := 0) (pn := 886) (pl := 887) (pv := 0) (at_m4 (List.mem_of_getElem? (i := 168) rfl)) (by decide +kernel)
theorem bd_57 : am_Body at_Ts at_P at_cl at_AO at_NL mt_57 := at_body at_PN at_PX (pG := [131]) (pP := []) (pN := []) (pA := []) (pK := []) (pC := [885]) (by decide +kernel) (by decide +kernel) (by decide +kernel) (by decide +kernel)
set_option maxRecDepth 100000 in
theorem ca_57 : am_Call at_Ts at_cl 60 mt_57 := at_call (KL := 60) (M := mt_57) (pc := 884) (pi := 7) (ps := 0) (pn := 882) (pl := 883) (pv := 0) (at_m4 (List.mem_of_getElem? (i := 164) rfl)) (by decide +kernel)
theorem bd_58 : am_Body at_Ts at_P at_cl at_AO at_NL mt_58 := at_body at_PN at_PX (pG := [131, 123]) (pP := []) (pN := []) (pA := []) (pK := []) (pC := [960]) (by decide +kernel) (by decide +kernel) (by decide +kernel) (by decide +kernel)
set_option maxRecDepth 100000 in
theorem ca_58 : am_Call at_Ts at_cl 60 mt_58 := at_call (KL := 60) (M := mt_58) (pc := 959) (pi := 7) (ps := 0) (pn := 957) (pl := 958) (pv := 0) (at_m4 (List.mem_of_getElem? (i := 239) rfl)) (by decide +kernel)
theorem bd_59 : am_Body at_Ts at_P at_cl at_AO at_NL mt_59 := at_body at_PN at_PX (pG := [131]) (pP := [131]) (pN := []) (pA := []) (pK := []) (pC := [885, 1034]) (by decide +kernel) (by decide +kernel) (by decide +kernel) (by decide +kernel)
set_option maxRecDepth 100000 in
theorem ca_59 : am_Call at_Ts at_cl 60 mt_59 := at_call (KL := 60) (M := mt_59) (pc := 1033) (pi := 7) (ps := 0) (pn := 1031) (pl := 1032) (pv := 0) (at_m5 (List.mem_of_getElem? (i := 73) rfl)) (by decide +kernel)
theorem bd_60 : am_Body at_Ts at_P at_cl at_AO at_NL mt_60 := at_body at_PN at_PX (pG := [131, 123]) (pP := []) (pN := []) (pA := []) (pK := []) (pC := [999, 1000]) (by decide +kernel) (by decide +kernel) (by decide +kernel) (by decide +kernel)
set_option maxRecDepth 100000 in
theorem ca_60 : am_Call at_Ts at_cl 60 mt_60 := at_call (KL := 60) (M := mt_60) (pc := 998) (pi := 7) (ps := 0) (pn := 996) (pl := 997) (pv := 0) (at_m5 (List.mem_of_getElem? (i := 38) rfl)) (by decide +kernel)
theorem bd_61 : am_Body at_Ts at_P at_cl at_AO at_NL mt_61 := at_body at_PN at_PX (pG := [201, 141]) (pP := [238, 236, 237, 244, 245]) (pN := []) (pA := []) (pK := []) (pC := [235]) (by decide +kernel) (by decide +kernel) (by decide +kernel) (by decide +kernel)
set_option maxRecDepth 100000 in
theorem ca_61 : am_Call at_Ts at_cl 60 mt_61 := at_call (KL := 60) (M := mt_61) (pc := 234) (pi := 8) (ps := 0) (pn := 233) (pl := 0) (pv := 0) (at_m1 (List.mem_of_getElem? (i := 234) rfl)) (by decide +kernel)
theorem bd_62 : am_Body at_Ts at_P at_cl at_AO at_NL mt_62 := at_body at_PN at_PX (pG := [237, 187, 92, 191, 197, 208, 212, 236, 242]) (pP := [239, 212, 92, 208]) (pN := []) (pA := []) (pK := []) (pC := [554, 583, 587, 631, 639, 703, 595, 619, 725]) (by decide +kernel) (by decide +kernel) (by decide +kernel) (by decide +kernel)
set_option maxRecDepth 100000 in
theorem ca_62 : am_Call at_Ts at_cl 60 mt_62 := at_call (KL := 60) (M := mt_62) (pc := 553) (pi := 8) (ps := 0) (pn := 551) (pl := 552) (pv := 0) (at_m3 (List.mem_of_getElem? (i := 73) rfl)) (by decide +kernel)
theorem bd_63 : am_Body at_Ts at_P at_cl at_AO at_NL mt_63 := at_body at_PN at_PX (pG := [236, 242]) (pP := [239, 243]) (pN := []) (pA := []) (pK := []) (pC := [554, 647, 691, 619]) (by decide +kernel) (by decide +kernel) (by decide +kernel) (by decide +kernel)
set_option maxRecDepth 100000 in
theorem ca_63 : am_Call at_Ts at_cl 60 mt_63 := at_call (KL := 60) (M := mt_63) (pc := 756) (pi := 8) (ps := 0) (pn := 754) (pl := 755) (pv := 0) (at_m4 (List.mem_of_getElem? (i := 36) rfl)) (by decide +kernel)
theorem bd_64 : am_Body at_Ts at_P at_cl at_AO at_NL mt_64 := at_body at_PN at_PX (pG := [239, 237, 187, 92]) (pP := [239]) (pN := []) (pA := []) (pK := []) (pC := [591, 619, 623, 583]) (by decide +kernel) (by decide +kernel) (by decide +kernel) (by decide +kernel)
set_option maxRecDepth 100000 in
theorem ca_64 : am_Call at_Ts at_cl 60 mt_64 := at_call (KL := 60) (M := mt_64) (pc := 590) (pi := 8) (ps := 0) (pn := 589) (pl := 0) (pv := 4) (at_m3 (List.mem_of_getElem? (i := 110) rfl)) (by decide +kernel)
theorem bd_65 : am_Body at_Ts at_P at_cl at_AO at_NL mt_65 := at_body at_PN at_PX (pG := [237, 191, 187, 239]) (pP := [239]) (pN := []) (pA := []) (pK := []) (pC := [591, 583, 603, 607, 599, 627]) (by decide +kernel) (by decide +kernel) (by decide +kernel) (by decide +kernel)
set_option maxRecDepth 100000 in
theorem ca_65 : am_Call at_Ts at_cl 60 mt_65 := at_call (KL := 60) (M := mt_65) (pc := 626) (pi := 8) (ps := 0) (pn := 625) (pl := 0) (pv := 10) (at_m3 (List.mem_of_getElem? (i := 146) rfl)) (by decide +kernel)
theorem bd_66 : am_Body at_Ts at_P at_cl at_AO at_NL mt_66 := at_body at_PN at_PX (pG := [239, 237, 197, 92, 83]) (pP := [239]) (pN := []) (pA := []) (pK := []) (pC := [591, 619, 635, 583, 599, 627]) (by decide +kernel) (by decide +kernel) (by decide +kernel) (by decide +kernel)
set_option maxRecDepth 100000 in
theorem ca_66 : am_Call at_Ts at_cl 60 mt_66 := at_call (KL := 60) (M := mt_66) (pc := 634) (pi := 8) (ps := 0) (pn := 633) (pl := 0) (pv := 11) (at_m3 (List.mem_of_getElem? (i := 154) rfl)) (by decide +kernel)
theorem bd_67 : am_Body at_Ts at_P at_cl at_AO at_NL mt_67 := at_body at_PN at_PX (pG := [237, 187, 197, 83, 239]) (pP := [239]) (pN := []) (pA := []) (pK := []) (pC := [583, 595, 603, 607, 599]) (by decide +kernel) (by decide +kernel) (by decide +kernel) (by decide +kernel)
set_option maxRecDepth 100000 in
theorem ca_67 : am_Call at_Ts at_cl 60 mt_67 := at_call (KL := 60) (M := mt_67) (pc := 638) (pi := 8) (ps := 0) (pn := 637) (pl := 0) (pv := 12) (at_m3 (List.mem_of_getElem? (i := 158) rfl)) (by decide +kernel)
theorem bd_68 : am_Body at_Ts at_P at_cl at_AO at_NL mt_68 := at_body at_PN at_PX (pG := [237, 208, 239, 197, 201, 244, 88, 153, 83, 246]) (pP := [239, 164, 162, 208]) (pN := []) (pA := []) (pK := []) (pC := [599, 583, 595, 603, 607, 643, 651, 654, 662, 666, 619, 647, 691]) (by decide +kernel) (by decide +kernel) (by decide +kernel) (by decide +kernel)
set_option maxRecDepth 100000 in
theorem ca_68 : am_Call at_Ts at_cl 60 mt_68 := at_call (KL := 60) (M := mt_68) (pc := 642) (pi := 8) (ps := 0) (pn := 641) (pl := 0) (pv := 13) (at_m3 (List.mem_of_getElem? (i := 162) rfl)) (by decide +kernel)
theorem bd_69 : am_Body at_Ts at_P at_cl at_AO at_NL mt_69 := at_body at_PN at_PX (pG := [239, 237, 212, 207, 244, 141, 157, 153, 246]) (pP := [239, 166, 170, 162]) (pN := []) (pA := []) (pK := []) (pC := [583, 595, 603, 707, 599, 643, 619, 691, 711, 715, 647]) (by decide +kernel) (by decide +kernel) (by decide +kernel) (by decide +kernel)
set_option maxRecDepth 100000 in
theorem ca_69 : am_Call at_Ts at_cl 60 mt_69 := at_call (KL := 60) (M := mt_69) (pc := 706) (pi := 8) (ps := 0) (pn := 705) (pl := 0) (pv := 25) (at_m3 (List.mem_of_getElem? (i := 226) rfl)) (by decide +kernel)
theorem bd_70 : am_Body at_Ts at_P at_cl at_AO at_NL mt_70 := at_body at_PN at_PX (pG := [239]) (pP := [239]) (pN := []) (pA := []) (pK := []) (pC := [583, 670, 682, 599, 595, 619]) (by decide +kernel) (by decide +kernel) (by decide +kernel) (by decide +kernel)
set_option maxRecDepth 100000 in
theorem ca_70 : am_Call at_Ts at_cl 60 mt_70 := at_call (KL := 60) (M := mt_70) (pc := 669) (pi := 8) (ps := 0) (pn := 668) (pl := 0) (pv := 17) (at_m3 (List.mem_of_getElem? (i := 189) rfl)) (by decide +kernel)
theorem bd_71 : am_Body at_Ts at_P at_cl at_AO at_NL mt_71 := at_body at_PN at_PX (pG := [237, 197]) (pP := []) (pN := []) (pA := []) (pK := []) (pC := [603, 607, 599, 674, 678, 651, 654]) (by decide +kernel) (by decide +kernel) (by decide +kernel) (by decide +kernel)
set_option maxRecDepth 100000 in
theorem ca_71 : am_Call at_Ts at_cl 60 mt_71 := at_call (KL := 60) (M := mt_71) (pc := 673) (pi := 8) (ps := 0) (pn := 672) (pl := 0) (pv := 18) (at_m3 (List.mem_of_getElem? (i := 193) rfl)) (by decide +kernel)
theorem bd_72 : am_Body at_Ts at_P at_cl at_AO at_NL mt_72 := at_body at_PN at_PX (pG := [237, 191, 88, 83]) (pP := []) (pN := []) (pA := []) (pK := []) (pC := [603, 607, 599, 686, 654, 662, 666]) (by decide +kernel) (by decide +kernel) (by decide +kernel) (by decide +kernel)
set_option maxRecDepth 100000 in
theorem ca_72 : am_Call at_Ts at_cl 60 mt_72 := at_call (KL := 60) (M := mt_72) (pc := 685) (pi := 8) (ps := 0) (pn := 684) (pl := 0) (pv := 21) (at_m3 (List.mem_of_getElem? (i := 205) rfl)) (by decide +kernel)
theorem bd_73 : am_Body at_Ts at_P at_cl at_AO at_NL mt_73 := at_body at_PN at_PX (pG := [237, 197, 191, 239]) (pP := [239]) (pN := []) (pA := []) (pK := []) (pC := [583, 603, 607, 695, 699, 599, 654, 691, 619, 595]) (by decide +kernel) (by decide +kernel) (by decide +kernel) (by decide +kernel)
set_option maxRecDepth 100000 in
theorem ca_73 : am_Call at_Ts at_cl 60 mt_73 := at_call (KL := 60) (M := mt_73) (pc := 694) (pi := 8) (ps := 0) (pn := 693) (pl := 0) (pv := 22) (at_m3 (List.mem_of_getElem? (i := 214) rfl)) (by decide +kernel)
