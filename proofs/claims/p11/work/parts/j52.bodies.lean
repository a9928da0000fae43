/-! what a program decides of each method -/
theorem bd_74 : am_Body at_Ts at_P at_cl at_AO at_NL mt_74 := at_body at_PN at_PX (pG := [237, 197, 191, 88, 83]) (pP := []) (pN := []) (pA := []) (pK := []) (pC := [599, 651, 654, 662, 691]) (by decide +kernel) (by decide +kernel) (by decide +kernel) (by decide +kernel)
set_option maxRecDepth 100000 in
theorem ca_74 : am_Call at_Ts at_cl 60 mt_74 := at_call (KL := 60) (M := mt_74) (pc := 702) (pi := 8) (ps := 0) (pn := 701) (pl := 0) (pv := 24) (at_m3 (List.mem_of_getElem? (i := 222) rfl)) (by decide +kernel)
theorem bd_75 : am_Body at_Ts at_P at_cl at_AO at_NL mt_75 := at_body at_PN at_PX (pG := [243, 244, 157, 246]) (pP := []) (pN := []) (pA := []) (pK := []) (pC := [599, 674, 678, 651, 654]) (by decide +kernel) (by decide +kernel) (by decide +kernel) (by decide +kernel)
set_option maxRecDepth 100000 in
theorem ca_75 : am_Call at_Ts at_cl 60 mt_75 := at_call (KL := 60) (M := mt_75) (pc := 698) (pi := 8) (ps := 0) (pn := 697) (pl := 0) (pv := 23) (at_m3 (List.mem_of_getElem? (i := 218) rfl)) (by decide +kernel)
theorem bd_76 : am_Body at_Ts at_P at_cl at_AO at_NL mt_76 := at_body at_PN at_PX (pG := [246, 238, 244, 157]) (pP := [246]) (pN := []) (pA := []) (pK := []) (pC := [603]) (by decide +kernel) (by decide +kernel) (by decide +kernel) (by decide +kernel)
set_option maxRecDepth 100000 in
theorem ca_76 : am_Call at_Ts at_cl 60 mt_76 := at_call (KL := 60) (M := mt_76) (pc := 681) (pi := 8) (ps := 0) (pn := 680) (pl := 0) (pv := 20) (at_m3 (List.mem_of_getElem? (i := 201) rfl)) (by decide +kernel)
theorem bd_77 : am_Body at_Ts at_P at_cl at_AO at_NL mt_77 := at_body at_PN at_PX (pG := [245, 134, 239]) (pP := [239]) (pN := []) (pA := []) (pK := []) (pC := [599, 658]) (by decide +kernel) (by decide +kernel) (by decide +kernel) (by decide +kernel)
set_option maxRecDepth 100000 in
theorem ca_77 : am_Call at_Ts at_cl 60 mt_77 := at_call (KL := 60) (M := mt_77) (pc := 657) (pi := 8) (ps := 0) (pn := 656) (pl := 0) (pv := 16) (at_m3 (List.mem_of_getElem? (i := 177) rfl)) (by decide +kernel)
theorem bd_78 : am_Body at_Ts at_P at_cl at_AO at_NL mt_78 := at_body at_PN at_PX (pG := [239]) (pP := [239]) (pN := []) (pA := []) (pK := []) (pC := [583, 595, 603, 607, 599, 611, 615]) (by decide +kernel) (by decide +kernel) (by decide +kernel) (by decide +kernel)
set_option maxRecDepth 100000 in
theorem ca_78 : am_Call at_Ts at_cl 60 mt_78 := at_call (KL := 60) (M := mt_78) (pc := 594) (pi := 8) (ps := 0) (pn := 593) (pl := 0) (pv := 5) (at_m3 (List.mem_of_getElem? (i := 114) rfl)) (by decide +kernel)
theorem bd_79 : am_Body at_Ts at_P at_cl at_AO at_NL mt_79 := at_body at_PN at_PX (pG := [246, 238]) (pP := []) (pN := []) (pA := []) (pK := []) (pC := [603]) (by decide +kernel) (by decide +kernel) (by decide +kernel) (by decide +kernel)
set_option maxRecDepth 100000 in
theorem ca_79 : am_Call at_Ts at_cl 60 mt_79 := at_call (KL := 60) (M := mt_79) (pc := 677) (pi := 8) (ps := 0) (pn := 676) (pl := 0) (pv := 19) (at_m3 (List.mem_of_getElem? (i := 197) rfl)) (by decide +kernel)
theorem bd_80 : am_Body at_Ts at_P at_cl at_AO at_NL mt_80 := at_body at_PN at_PX (pG := [141]) (pP := [244, 243, 246]) (pN := []) (pA := []) (pK := []) (pC := [647]) (by decide +kernel) (by decide +kernel) (by decide +kernel) (by decide +kernel)
set_option maxRecDepth 100000 in
theorem ca_80 : am_Call at_Ts at_cl 60 mt_80 := at_call (KL := 60) (M := mt_80) (pc := 646) (pi := 8) (ps := 0) (pn := 645) (pl := 0) (pv := 14) (at_m3 (List.mem_of_getElem? (i := 166) rfl)) (by decide +kernel)
theorem bd_81 : am_Body at_Ts at_P at_cl at_AO at_NL mt_81 := at_body at_PN at_PX (pG := [245]) (pP := [245, 134]) (pN := []) (pA := []) (pK := []) (pC := []) (by decide +kernel) (by decide +kernel) (by decide +kernel) (by decide +kernel)
set_option maxRecDepth 100000 in
theorem ca_81 : am_Call at_Ts at_cl 60 mt_81 := at_call (KL := 60) (M := mt_81) (pc := 650) (pi := 8) (ps := 0) (pn := 649) (pl := 0) (pv := 15) (at_m3 (List.mem_of_getElem? (i := 170) rfl)) (by decide +kernel)
theorem bd_82 : am_Body at_Ts at_P at_cl at_AO at_NL mt_82 := at_body at_PN at_PX (pG := [239]) (pP := [239]) (pN := []) (pA := []) (pK := []) (pC := [583, 595]) (by decide +kernel) (by decide +kernel) (by decide +kernel) (by decide +kernel)
set_option maxRecDepth 100000 in
theorem ca_82 : am_Call at_Ts at_cl 60 mt_82 := at_call (KL := 60) (M := mt_82) (pc := 622) (pi := 8) (ps := 0) (pn := 621) (pl := 0) (pv := 9) (at_m3 (List.mem_of_getElem? (i := 142) rfl)) (by decide +kernel)
theorem bd_83 : am_Body at_Ts at_P at_cl at_AO at_NL mt_83 := at_body at_PN at_PX (pG := [239, 236, 47, 41]) (pP := []) (pN := []) (pA := []) (pK := []) (pC := []) (by decide +kernel) (by decide +kernel) (by decide +kernel) (by decide +kernel)
set_option maxRecDepth 100000 in
theorem ca_83 : am_Call at_Ts at_cl 60 mt_83 := at_call (KL := 60) (M := mt_83) (pc := 586) (pi := 8) (ps := 0) (pn := 585) (pl := 0) (pv := 3) (at_m3 (List.mem_of_getElem? (i := 106) rfl)) (by decide +kernel)
theorem bd_84 : am_Body at_Ts at_P at_cl at_AO at_NL mt_84 := at_body at_PN at_PX (pG := [239, 236, 47, 45]) (pP := []) (pN := []) (pA := []) (pK := []) (pC := []) (by decide +kernel) (by decide +kernel) (by decide +kernel) (by decide +kernel)
set_option maxRecDepth 100000 in
theorem ca_84 : am_Call at_Ts at_cl 60 mt_84 := at_call (KL := 60) (M := mt_84) (pc := 606) (pi := 8) (ps := 0) (pn := 605) (pl := 0) (pv := 8) (at_m3 (List.mem_of_getElem? (i := 126) rfl)) (by decide +kernel)
theorem bd_85 : am_Body at_Ts at_P at_cl at_AO at_NL mt_85 := at_body at_PN at_PX (pG := []) (pP := []) (pN := []) (pA := []) (pK := []) (pC := [583, 599]) (by decide +kernel) (by decide +kernel) (by decide +kernel) (by decide +kernel)
set_option maxRecDepth 100000 in
theorem ca_85 : am_Call at_Ts at_cl 60 mt_85 := at_call (KL := 60) (M := mt_85) (pc := 598) (pi := 8) (ps := 0) (pn := 597) (pl := 0) (pv := 6) (at_m3 (List.mem_of_getElem? (i := 118) rfl)) (by decide +kernel)
theorem bd_86 : am_Body at_Ts at_P at_cl at_AO at_NL mt_86 := at_body at_PN at_PX (pG := [239, 236, 47, 43, 39]) (pP := [241, 242]) (pN := []) (pA := []) (pK := []) (pC := []) (by decide +kernel) (by decide +kernel) (by decide +kernel) (by decide +kernel)
set_option maxRecDepth 100000 in
theorem ca_86 : am_Call at_Ts at_cl 60 mt_86 := at_call (KL := 60) (M := mt_86) (pc := 602) (pi := 8) (ps := 0) (pn := 601) (pl := 0) (pv := 7) (at_m3 (List.mem_of_getElem? (i := 122) rfl)) (by decide +kernel)
theorem bd_87 : am_Body at_Ts at_P at_cl at_AO at_NL mt_87 := at_body at_PN at_PX (pG := []) (pP := [275, 277, 274]) (pN := []) (pA := []) (pK := []) (pC := [273]) (by decide +kernel) (by decide +kernel) (by decide +kernel) (by decide +kernel)
set_option maxRecDepth 100000 in
theorem ca_87 : am_Call at_Ts at_cl 60 mt_87 := at_call (KL := 60) (M := mt_87) (pc := 272) (pi := 9) (ps := 0) (pn := 271) (pl := 0) (pv := 0) (at_m2 (List.mem_of_getElem? (i := 32) rfl)) (by decide +kernel)
theorem bd_88 : am_Body at_Ts at_P at_cl at_AO at_NL mt_88 := at_body at_PN at_PX (pG := [129, 125, 277, 278]) (pP := [278]) (pN := []) (pA := []) (pK := []) (pC := [801, 805, 816]) (by decide +kernel) (by decide +kernel) (by decide +kernel) (by decide +kernel)
set_option maxRecDepth 100000 in
theorem ca_88 : am_Call at_Ts at_cl 60 mt_88 := at_call (KL := 60) (M := mt_88) (pc := 800) (pi := 9) (ps := 0) (pn := 798) (pl := 799) (pv := 0) (at_m4 (List.mem_of_getElem? (i := 80) rfl)) (by decide +kernel)
theorem bd_89 : am_Body at_Ts at_P at_cl at_AO at_NL mt_89 := at_body at_PN at_PX (pG := [277]) (pP := []) (pN := []) (pA := []) (pK := []) (pC := [801]) (by decide +kernel) (by decide +kernel) (by decide +kernel) (by decide +kernel)
set_option maxRecDepth 100000 in
theorem ca_89 : am_Call at_Ts at_cl 60 mt_89 := at_call (KL := 60) (M := mt_89) (pc := 819) (pi := 9) (ps := 0) (pn := 818) (pl := 0) (pv := 30) (at_m4 (List.mem_of_getElem? (i := 99) rfl)) (by decide +kernel)
theorem bd_90 : am_Body at_Ts at_P at_cl at_AO at_NL mt_90 := at_body at_PN at_PX (pG := [274, 192, 93, 79, 198]) (pP := []) (pN := []) (pA := []) (pK := []) (pC := [809, 810, 811, 801]) (by decide +kernel) (by decide +kernel) (by decide +kernel) (by decide +kernel)
set_option maxRecDepth 100000 in
theorem ca_90 : am_Call at_Ts at_cl 60 mt_90 := at_call (KL := 60) (M := mt_90) (pc := 808) (pi := 9) (ps := 0) (pn := 807) (pl := 0) (pv := 28) (at_m4 (List.mem_of_getElem? (i := 88) rfl)) (by decide +kernel)
theorem bd_91 : am_Body at_Ts at_P at_cl at_AO at_NL mt_91 := at_body at_PN at_PX (pG := []) (pP := []) (pN := []) (pA := []) (pK := [815]) (pC := [801]) (by decide +kernel) (by decide +kernel) (by decide +kernel) (by decide +kernel)
set_option maxRecDepth 100000 in
theorem ca_91 : am_Call at_Ts at_cl 60 mt_91 := at_call (KL := 60) (M := mt_91) (pc := 814) (pi := 9) (ps := 0) (pn := 813) (pl := 0) (pv := 29) (at_m4 (List.mem_of_getElem? (i := 94) rfl)) (by decide +kernel)
theorem bd_92 : am_Body at_Ts at_P at_cl at_AO at_NL mt_92 := at_body at_PN at_PX (pG := [278, 275]) (pP := [278]) (pN := []) (pA := []) (pK := []) (pC := []) (by decide +kernel) (by decide +kernel) (by decide +kernel) (by decide +kernel)
set_option maxRecDepth 100000 in
theorem ca_92 : am_Call at_Ts at_cl 60 mt_92 := at_call (KL := 60) (M := mt_92) (pc := 804) (pi := 9) (ps := 0) (pn := 803) (pl := 0) (pv := 27) (at_m4 (List.mem_of_getElem? (i := 84) rfl)) (by decide +kernel)
theorem bd_93 : am_Body at_Ts at_P at_cl at_AO at_NL mt_93 := at_body at_PN at_PX (pG := [300, 124]) (pP := [298, 300, 301, 297, 128, 302]) (pN := [295]) (pA := []) (pK := []) (pC := [294, 296]) (by decide +kernel) (by decide +kernel) (by decide +kernel) (by decide +kernel)
set_option maxRecDepth 100000 in
theorem ca_93 : am_Call at_Ts at_cl 60 mt_93 := at_call (KL := 60) (M := mt_93) (pc := 293) (pi := 10) (ps := 0) (pn := 292) (pl := 0) (pv := 0) (at_m2 (List.mem_of_getElem? (i := 53) rfl)) (by decide +kernel)
theorem bd_94 : am_Body at_Ts at_P at_cl at_AO at_NL mt_94 := at_body at_PN at_PX (pG := [300, 297, 209, 203, 163, 142, 148]) (pP := [302]) (pN := []) (pA := []) (pK := []) (pC := [769, 764, 770, 771]) (by decide +kernel) (by decide +kernel) (by decide +kernel) (by decide +kernel)
set_option maxRecDepth 100000 in
theorem ca_94 : am_Call at_Ts at_cl 60 mt_94 := at_call (KL := 60) (M := mt_94) (pc := 768) (pi := 10) (ps := 0) (pn := 766) (pl := 767) (pv := 0) (at_m4 (List.mem_of_getElem? (i := 48) rfl)) (by decide +kernel)
theorem bd_95 : am_Body at_Ts at_P at_cl at_AO at_NL mt_95 := at_body at_PN at_PX (pG := [128, 124, 298]) (pP := [304]) (pN := []) (pA := []) (pK := []) (pC := [769, 770, 764, 775]) (by decide +kernel) (by decide +kernel) (by decide +kernel) (by decide +kernel)
set_option maxRecDepth 100000 in
theorem ca_95 : am_Call at_Ts at_cl 60 mt_95 := at_call (KL := 60) (M := mt_95) (pc := 774) (pi := 10) (ps := 0) (pn := 773) (pl := 0) (pv := 26) (at_m4 (List.mem_of_getElem? (i := 54) rfl)) (by decide +kernel)
theorem bd_96 : am_Body at_Ts at_P at_cl at_AO at_NL mt_96 := at_body at_PN at_PX (pG := [298, 128, 124]) (pP := []) (pN := []) (pA := []) (pK := []) (pC := [769, 764, 770, 956, 775]) (by decide +kernel) (by decide +kernel) (by decide +kernel) (by decide +kernel)
set_option maxRecDepth 100000 in
theorem ca_96 : am_Call at_Ts at_cl 60 mt_96 := at_call (KL := 60) (M := mt_96) (pc := 955) (pi := 10) (ps := 0) (pn := 953) (pl := 954) (pv := 0) (at_m4 (List.mem_of_getElem? (i := 235) rfl)) (by decide +kernel)
theorem bd_97 : am_Body at_Ts at_P at_cl at_AO at_NL mt_97 := at_body at_PN at_PX (pG := [128, 124, 298]) (pP := []) (pN := []) (pA := []) (pK := []) (pC := [770, 764]) (by decide +kernel) (by decide +kernel) (by decide +kernel) (by decide +kernel)
set_option maxRecDepth 100000 in
theorem ca_97 : am_Call at_Ts at_cl 60 mt_97 := at_call (KL := 60) (M := mt_97) (pc := 974) (pi := 10) (ps := 0) (pn := 972) (pl := 973) (pv := 0) (at_m5 (List.mem_of_getElem? (i := 14) rfl)) (by decide +kernel)
theorem bd_98 : am_Body at_Ts at_P at_cl at_AO at_NL mt_98 := at_body at_PN at_PX (pG := [128, 124, 298]) (pP := [128]) (pN := []) (pA := []) (pK := []) (pC := [783, 770, 764, 775]) (by decide +kernel) (by decide +kernel) (by decide +kernel) (by decide +kernel)
set_option maxRecDepth 100000 in
theorem ca_98 : am_Call at_Ts at_cl 60 mt_98 := at_call (KL := 60) (M := mt_98) (pc := 782) (pi := 10) (ps := 0) (pn := 780) (pl := 781) (pv := 0) (at_m4 (List.mem_of_getElem? (i := 62) rfl)) (by decide +kernel)
theorem bd_99 : am_Body at_Ts at_P at_cl at_AO at_NL mt_99 := at_body at_PN at_PX (pG := [306, 128, 304, 302, 301]) (pP := [306]) (pN := []) (pA := []) (pK := []) (pC := [761, 765, 779, 790]) (by decide +kernel) (by decide +kernel) (by decide +kernel) (by decide +kernel)
set_option maxRecDepth 100000 in
theorem ca_99 : am_Call at_Ts at_cl 60 mt_99 := at_call (KL := 60) (M := mt_99) (pc := 760) (pi := 10) (ps := 0) (pn := 758) (pl := 759) (pv := 0) (at_m4 (List.mem_of_getElem? (i := 40) rfl)) (by decide +kernel)
theorem bd_100 : am_Body at_Ts at_P at_cl at_AO at_NL mt_100 := at_body at_PN at_PX (pG := [128, 124]) (pP := []) (pN := []) (pA := []) (pK := []) (pC := [764]) (by decide +kernel) (by decide +kernel) (by decide +kernel) (by decide +kernel)
set_option maxRecDepth 100000 in
theorem ca_100 : am_Call at_Ts at_cl 60 mt_100 := at_call (KL := 60) (M := mt_100) (pc := 763) (pi := 10) (ps := 762) (pn := 0) (pl := 0) (pv := 0) (at_m4 (List.mem_of_getElem? (i := 43) rfl)) (by decide +kernel)
theorem bd_101 : am_Body at_Ts at_P at_cl at_AO at_NL mt_101 := at_body at_PN at_PX (pG := [337, 338]) (pP := [334, 335, 336, 337, 338, 340, 341, 343, 332, 333]) (pN := [329]) (pA := [329]) (pK := []) (pC := [328, 331]) (by decide +kernel) (by decide +kernel) (by decide +kernel) (by decide +kernel)
set_option maxRecDepth 100000 in
theorem ca_101 : am_Call at_Ts at_cl 60 mt_101 := at_call (KL := 60) (M := mt_101) (pc := 327) (pi := 11) (ps := 0) (pn := 326) (pl := 0) (pv := 0) (at_m2 (List.mem_of_getElem? (i := 87) rfl)) (by decide +kernel)
theorem bd_102 : am_Body at_Ts at_P at_cl at_AO at_NL mt_102 := at_body at_PN at_PX (pG := []) (pP := [342]) (pN := []) (pA := []) (pK := []) (pC := [832, 850, 854, 889, 862]) (by decide +kernel) (by decide +kernel) (by decide +kernel) (by decide +kernel)
set_option maxRecDepth 100000 in
theorem ca_102 : am_Call at_Ts at_cl 60 mt_102 := at_call (KL := 60) (M := mt_102) (pc := 831) (pi := 11) (ps := 0) (pn := 829) (pl := 830) (pv := 0) (at_m4 (List.mem_of_getElem? (i := 111) rfl)) (by decide +kernel)
theorem bd_103 : am_Body at_Ts at_P at_cl at_AO at_NL mt_103 := at_body at_PN at_PX (pG := [143, 340, 149, 341, 333]) (pP := []) (pN := []) (pA := []) (pK := []) (pC := [858, 873, 880, 881]) (by decide +kernel) (by decide +kernel) (by decide +kernel) (by decide +kernel)
set_option maxRecDepth 100000 in
theorem ca_103 : am_Call at_Ts at_cl 60 mt_103 := at_call (KL := 60) (M := mt_103) (pc := 857) (pi := 11) (ps := 0) (pn := 856) (pl := 0) (pv := 36) (at_m4 (List.mem_of_getElem? (i := 137) rfl)) (by decide +kernel)
theorem bd_104 : am_Body at_Ts at_P at_cl at_AO at_NL mt_104 := at_body at_PN at_PX (pG := [160, 343, 338, 337]) (pP := [343]) (pN := []) (pA := []) (pK := []) (pC := [840, 893]) (by decide +kernel) (by decide +kernel) (by decide +kernel) (by decide +kernel)
set_option maxRecDepth 100000 in
theorem ca_104 : am_Call at_Ts at_cl 60 mt_104 := at_call (KL := 60) (M := mt_104) (pc := 892) (pi := 11) (ps := 0) (pn := 891) (pl := 0) (pv := 41) (at_m4 (List.mem_of_getElem? (i := 172) rfl)) (by decide +kernel)
