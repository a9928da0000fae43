/-! what a program decides of each method -/
theorem bd_74 : am_Body at_Ts at_P at_cl at_AO at_NL mt_74 := at_body at_PN at_PX (pG := [237, 197, 191, 88, 83]) (pP := []) (pN := []) (pA := []) (pK := []) (pC := [600, 652, 655, 663, 692]) (by decide +kernel) (by decide +kernel) (by decide +kernel) (by decide +kernel)
set_option maxRecDepth 100000 in
theorem ca_74 : am_Call at_Ts at_cl 60 mt_74 := at_call (KL := 60) (M := mt_74) (pc := 703) (pi := 8) (ps := 0) (pn := 702) (pl := 0) (pv := 24) (at_m3 (List.mem_of_getElem? (i := 223) rfl)) (by decide +kernel)
theorem bd_75 : am_Body at_Ts at_P at_cl at_AO at_NL mt_75 := at_body at_PN at_PX (pG := [243, 244, 157, 246]) (pP := []) (pN := []) (pA := []) (pK := []) (pC := [600, 675, 679, 652, 655]) (by decide +kernel) (by decide +kernel) (by decide +kernel) (by decide +kernel)
set_option maxRecDepth 100000 in
theorem ca_75 : am_Call at_Ts at_cl 60 mt_75 := at_call (KL := 60) (M := mt_75) (pc := 699) (pi := 8) (ps := 0) (pn := 698) (pl := 0) (pv := 23) (at_m3 (List.mem_of_getElem? (i := 219) rfl)) (by decide +kernel)
theorem bd_76 : am_Body at_Ts at_P at_cl at_AO at_NL mt_76 := at_body at_PN at_PX (pG := [246, 238, 244, 157]) (pP := [246]) (pN := []) (pA := []) (pK := []) (pC := [604]) (by decide +kernel) (by decide +kernel) (by decide +kernel) (by decide +kernel)
set_option maxRecDepth 100000 in
theorem ca_76 : am_Call at_Ts at_cl 60 mt_76 := at_call (KL := 60) (M := mt_76) (pc := 682) (pi := 8) (ps := 0) (pn := 681) (pl := 0) (pv := 20) (at_m3 (List.mem_of_getElem? (i := 202) rfl)) (by decide +kernel)
theorem bd_77 : am_Body at_Ts at_P at_cl at_AO at_NL mt_77 := at_body at_PN at_PX (pG := [245, 134, 239]) (pP := [239]) (pN := []) (pA := []) (pK := []) (pC := [600, 659]) (by decide +kernel) (by decide +kernel) (by decide +kernel) (by decide +kernel)
set_option maxRecDepth 100000 in
theorem ca_77 : am_Call at_Ts at_cl 60 mt_77 := at_call (KL := 60) (M := mt_77) (pc := 658) (pi := 8) (ps := 0) (pn := 657) (pl := 0) (pv := 16) (at_m3 (List.mem_of_getElem? (i := 178) rfl)) (by decide +kernel)
theorem bd_78 : am_Body at_Ts at_P at_cl at_AO at_NL mt_78 := at_body at_PN at_PX (pG := [239]) (pP := [239]) (pN := []) (pA := []) (pK := []) (pC := [584, 596, 604, 608, 600, 612, 616]) (by decide +kernel) (by decide +kernel) (by decide +kernel) (by decide +kernel)
set_option maxRecDepth 100000 in
theorem ca_78 : am_Call at_Ts at_cl 60 mt_78 := at_call (KL := 60) (M := mt_78) (pc := 595) (pi := 8) (ps := 0) (pn := 594) (pl := 0) (pv := 5) (at_m3 (List.mem_of_getElem? (i := 115) rfl)) (by decide +kernel)
theorem bd_79 : am_Body at_Ts at_P at_cl at_AO at_NL mt_79 := at_body at_PN at_PX (pG := [246, 238]) (pP := []) (pN := []) (pA := []) (pK := []) (pC := [604]) (by decide +kernel) (by decide +kernel) (by decide +kernel) (by decide +kernel)
set_option maxRecDepth 100000 in
theorem ca_79 : am_Call at_Ts at_cl 60 mt_79 := at_call (KL := 60) (M := mt_79) (pc := 678) (pi := 8) (ps := 0) (pn := 677) (pl := 0) (pv := 19) (at_m3 (List.mem_of_getElem? (i := 198) rfl)) (by decide +kernel)
theorem bd_80 : am_Body at_Ts at_P at_cl at_AO at_NL mt_80 := at_body at_PN at_PX (pG := [141]) (pP := [244, 243, 246]) (pN := []) (pA := []) (pK := []) (pC := [648]) (by decide +kernel) (by decide +kernel) (by decide +kernel) (by decide +kernel)
set_option maxRecDepth 100000 in
theorem ca_80 : am_Call at_Ts at_cl 60 mt_80 := at_call (KL := 60) (M := mt_80) (pc := 647) (pi := 8) (ps := 0) (pn := 646) (pl := 0) (pv := 14) (at_m3 (List.mem_of_getElem? (i := 167) rfl)) (by decide +kernel)
theorem bd_81 : am_Body at_Ts at_P at_cl at_AO at_NL mt_81 := at_body at_PN at_PX (pG := [245]) (pP := [245, 134]) (pN := []) (pA := []) (pK := []) (pC := []) (by decide +kernel) (by decide +kernel) (by decide +kernel) (by decide +kernel)
set_option maxRecDepth 100000 in
theorem ca_81 : am_Call at_Ts at_cl 60 mt_81 := at_call (KL := 60) (M := mt_81) (pc := 651) (pi := 8) (ps := 0) (pn := 650) (pl := 0) (pv := 15) (at_m3 (List.mem_of_getElem? (i := 171) rfl)) (by decide +kernel)
theorem bd_82 : am_Body at_Ts at_P at_cl at_AO at_NL mt_82 := at_body at_PN at_PX (pG := [239]) (pP := [239]) (pN := []) (pA := []) (pK := []) (pC := [584, 596]) (by decide +kernel) (by decide +kernel) (by decide +kernel) (by decide +kernel)
set_option maxRecDepth 100000 in
theorem ca_82 : am_Call at_Ts at_cl 60 mt_82 := at_call (KL := 60) (M := mt_82) (pc := 623) (pi := 8) (ps := 0) (pn := 622) (pl := 0) (pv := 9) (at_m3 (List.mem_of_getElem? (i := 143) rfl)) (by decide +kernel)
theorem bd_83 : am_Body at_Ts at_P at_cl at_AO at_NL mt_83 := at_body at_PN at_PX (pG := [239, 236, 47, 41]) (pP := []) (pN := []) (pA := []) (pK := []) (pC := []) (by decide +kernel) (by decide +kernel) (by decide +kernel) (by decide +kernel)
set_option maxRecDepth 100000 in
theorem ca_83 : am_Call at_Ts at_cl 60 mt_83 := at_call (KL := 60) (M := mt_83) (pc := 587) (pi := 8) (ps := 0) (pn := 586) (pl := 0) (pv := 3) (at_m3 (List.mem_of_getElem? (i := 107) rfl)) (by decide +kernel)
theorem bd_84 : am_Body at_Ts at_P at_cl at_AO at_NL mt_84 := at_body at_PN at_PX (pG := [239, 236, 47, 45]) (pP := []) (pN := []) (pA := []) (pK := []) (pC := []) (by decide +kernel) (by decide +kernel) (by decide +kernel) (by decide +kernel)
set_option maxRecDepth 100000 in
theorem ca_84 : am_Call at_Ts at_cl 60 mt_84 := at_call (KL := 60) (M := mt_84) (pc := 607) (pi := 8) (ps := 0) (pn := 606) (pl := 0) (pv := 8) (at_m3 (List.mem_of_getElem? (i := 127) rfl)) (by decide +kernel)
theorem bd_85 : am_Body at_Ts at_P at_cl at_AO at_NL mt_85 := at_body at_PN at_PX (pG := []) (pP := []) (pN := []) (pA := []) (pK := []) (pC := [584, 600]) (by decide +kernel) (by decide +kernel) (by decide +kernel) (by decide +kernel)
set_option maxRecDepth 100000 in
theorem ca_85 : am_Call at_Ts at_cl 60 mt_85 := at_call (KL := 60) (M := mt_85) (pc := 599) (pi := 8) (ps := 0) (pn := 598) (pl := 0) (pv := 6) (at_m3 (List.mem_of_getElem? (i := 119) rfl)) (by decide +kernel)
theorem bd_86 : am_Body at_Ts at_P at_cl at_AO at_NL mt_86 := at_body at_PN at_PX (pG := [239, 236, 47, 43, 39]) (pP := [241, 242]) (pN := []) (pA := []) (pK := []) (pC := []) (by decide +kernel) (by decide +kernel) (by decide +kernel) (by decide +kernel)
set_option maxRecDepth 100000 in
theorem ca_86 : am_Call at_Ts at_cl 60 mt_86 := at_call (KL := 60) (M := mt_86) (pc := 603) (pi := 8) (ps := 0) (pn := 602) (pl := 0) (pv := 7) (at_m3 (List.mem_of_getElem? (i := 123) rfl)) (by decide +kernel)
theorem bd_87 : am_Body at_Ts at_P at_cl at_AO at_NL mt_87 := at_body at_PN at_PX (pG := []) (pP := [275, 277, 274]) (pN := []) (pA := []) (pK := []) (pC := [273]) (by decide +kernel) (by decide +kernel) (by decide +kernel) (by decide +kernel)
set_option maxRecDepth 100000 in
theorem ca_87 : am_Call at_Ts at_cl 60 mt_87 := at_call (KL := 60) (M := mt_87) (pc := 272) (pi := 9) (ps := 0) (pn := 271) (pl := 0) (pv := 0) (at_m2 (List.mem_of_getElem? (i := 32) rfl)) (by decide +kernel)
theorem bd_88 : am_Body at_Ts at_P at_cl at_AO at_NL mt_88 := at_body at_PN at_PX (pG := [129, 125, 277, 278]) (pP := [278]) (pN := []) (pA := []) (pK := []) (pC := [802, 806, 817]) (by decide +kernel) (by decide +kernel) (by decide +kernel) (by decide +kernel)
set_option maxRecDepth 100000 in
theorem ca_88 : am_Call at_Ts at_cl 60 mt_88 := at_call (KL := 60) (M := mt_88) (pc := 801) (pi := 9) (ps := 0) (pn := 799) (pl := 800) (pv := 0) (at_m4 (List.mem_of_getElem? (i := 81) rfl)) (by decide +kernel)
theorem bd_89 : am_Body at_Ts at_P at_cl at_AO at_NL mt_89 := at_body at_PN at_PX (pG := [277]) (pP := []) (pN := []) (pA := []) (pK := []) (pC := [802]) (by decide +kernel) (by decide +kernel) (by decide +kernel) (by decide +kernel)
set_option maxRecDepth 100000 in
theorem ca_89 : am_Call at_Ts at_cl 60 mt_89 := at_call (KL := 60) (M := mt_89) (pc := 820) (pi := 9) (ps := 0) (pn := 819) (pl := 0) (pv := 30) (at_m4 (List.mem_of_getElem? (i := 100) rfl)) (by decide +kernel)
theorem bd_90 : am_Body at_Ts at_P at_cl at_AO at_NL mt_90 := at_body at_PN at_PX (pG := [274, 192, 93, 79, 198]) (pP := []) (pN := []) (pA := []) (pK := []) (pC := [810, 811, 812, 802]) (by decide +kernel) (by decide +kernel) (by decide +kernel) (by decide +kernel)
set_option maxRecDepth 100000 in
theorem ca_90 : am_Call at_Ts at_cl 60 mt_90 := at_call (KL := 60) (M := mt_90) (pc := 809) (pi := 9) (ps := 0) (pn := 808) (pl := 0) (pv := 28) (at_m4 (List.mem_of_getElem? (i := 89) rfl)) (by decide +kernel)
theorem bd_91 : am_Body at_Ts at_P at_cl at_AO at_NL mt_91 := at_body at_PN at_PX (pG := []) (pP := []) (pN := []) (pA := []) (pK := [816]) (pC := [802]) (by decide +kernel) (by decide +kernel) (by decide +kernel) (by decide +kernel)
set_option maxRecDepth 100000 in
theorem ca_91 : am_Call at_Ts at_cl 60 mt_91 := at_call (KL := 60) (M := mt_91) (pc := 815) (pi := 9) (ps := 0) (pn := 814) (pl := 0) (pv := 29) (at_m4 (List.mem_of_getElem? (i := 95) rfl)) (by decide +kernel)
theorem bd_92 : am_Body at_Ts at_P at_cl at_AO at_NL mt_92 := at_body at_PN at_PX (pG := [278, 275]) (pP := [278]) (pN := []) (pA := []) (pK := []) (pC := []) (by decide +kernel) (by decide +kernel) (by decide +kernel) (by decide +kernel)
set_option maxRecDepth 100000 in
theorem ca_92 : am_Call at_Ts at_cl 60 mt_92 := at_call (KL := 60) (M := mt_92) (pc := 805) (pi := 9) (ps := 0) (pn := 804) (pl := 0) (pv := 27) (at_m4 (List.mem_of_getElem? (i := 85) rfl)) (by decide +kernel)
theorem bd_93 : am_Body at_Ts at_P at_cl at_AO at_NL mt_93 := at_body at_PN at_PX (pG := [300, 124]) (pP := [298, 300, 301, 297, 128, 302]) (pN := [295]) (pA := []) (pK := []) (pC := [294, 296]) (by decide +kernel) (by decide +kernel) (by decide +kernel) (by decide +kernel)
set_option maxRecDepth 100000 in
theorem ca_93 : am_Call at_Ts at_cl 60 mt_93 := at_call (KL := 60) (M := mt_93) (pc := 293) (pi := 10) (ps := 0) (pn := 292) (pl := 0) (pv := 0) (at_m2 (List.mem_of_getElem? (i := 53) rfl)) (by decide +kernel)
theorem bd_94 : am_Body at_Ts at_P at_cl at_AO at_NL mt_94 := at_body at_PN at_PX (pG := [300, 297, 209, 203, 163, 142, 148]) (pP := [302]) (pN := []) (pA := []) (pK := []) (pC := [770, 765, 771, 772]) (by decide +kernel) (by decide +kernel) (by decide +kernel) (by decide +kernel)
set_option maxRecDepth 100000 in
theorem ca_94 : am_Call at_Ts at_cl 60 mt_94 := at_call (KL := 60) (M := mt_94) (pc := 769) (pi := 10) (ps := 0) (pn := 767) (pl := 768) (pv := 0) (at_m4 (List.mem_of_getElem? (i := 49) rfl)) (by decide +kernel)
theorem bd_95 : am_Body at_Ts at_P at_cl at_AO at_NL mt_95 := at_body at_PN at_PX (pG := [128, 124, 298]) (pP := [304]) (pN := []) (pA := []) (pK := []) (pC := [770, 771, 765, 776]) (by decide +kernel) (by decide +kernel) (by decide +kernel) (by decide +kernel)
set_option maxRecDepth 100000 in
theorem ca_95 : am_Call at_Ts at_cl 60 mt_95 := at_call (KL := 60) (M := mt_95) (pc := 775) (pi := 10) (ps := 0) (pn := 774) (pl := 0) (pv := 26) (at_m4 (List.mem_of_getElem? (i := 55) rfl)) (by decide +kernel)
theorem bd_96 : am_Body at_Ts at_P at_cl at_AO at_NL mt_96 := at_body at_PN at_PX (pG := [298, 128, 124]) (pP := []) (pN := []) (pA := []) (pK := []) (pC := [770, 765, 771, 957, 776]) (by decide +kernel) (by decide +kernel) (by decide +kernel) (by decide +kernel)
set_option maxRecDepth 100000 in
theorem ca_96 : am_Call at_Ts at_cl 60 mt_96 := at_call (KL := 60) (M := mt_96) (pc := 956) (pi := 10) (ps := 0) (pn := 954) (pl := 955) (pv := 0) (at_m4 (List.mem_of_getElem? (i := 236) rfl)) (by decide +kernel)
theorem bd_97 : am_Body at_Ts at_P at_cl at_AO at_NL mt_97 := at_body at_PN at_PX (pG := [128, 124, 298]) (pP := []) (pN := []) (pA := []) (pK := []) (pC := [771, 765]) (by decide +kernel) (by decide +kernel) (by decide +kernel) (by decide +kernel)
set_option maxRecDepth 100000 in
theorem ca_97 : am_Call at_Ts at_cl 60 mt_97 := at_call (KL := 60) (M := mt_97) (pc := 975) (pi := 10) (ps := 0) (pn := 973) (pl := 974) (pv := 0) (at_m5 (List.mem_of_getElem? (i := 15) rfl)) (by decide +kernel)
theorem bd_98 : am_Body at_Ts at_P at_cl at_AO at_NL mt_98 := at_body at_PN at_PX (pG := [128, 124, 298]) (pP := [128]) (pN := []) (pA := []) (pK := []) (pC := [784, 771, 765, 776]) (by decide +kernel) (by decide +kernel) (by decide +kernel) (by decide +kernel)
set_option maxRecDepth 100000 in
theorem ca_98 : am_Call at_Ts at_cl 60 mt_98 := at_call (KL := 60) (M := mt_98) (pc := 783) (pi := 10) (ps := 0) (pn := 781) (pl := 782) (pv := 0) (at_m4 (List.mem_of_getElem? (i := 63) rfl)) (by decide +kernel)
theorem bd_99 : am_Body at_Ts at_P at_cl at_AO at_NL mt_99 := at_body at_PN at_PX (pG := [306, 128, 304, 302, 301]) (pP := [306]) (pN := []) (pA := []) (pK := []) (pC := [762, 766, 780, 791]) (by decide +kernel) (by decide +kernel) (by decide +kernel) (by decide +kernel)
set_option maxRecDepth 100000 in
theorem ca_99 : am_Call at_Ts at_cl 60 mt_99 := at_call (KL := 60) (M := mt_99) (pc := 761) (pi := 10) (ps := 0) (pn := 759) (pl := 760) (pv := 0) (at_m4 (List.mem_of_getElem? (i := 41) rfl)) (by decide +kernel)
theorem bd_100 : am_Body at_Ts at_P at_cl at_AO at_NL mt_100 := at_body at_PN at_PX (pG := [128, 124]) (pP := []) (pN := []) (pA := []) (pK := []) (pC := [765]) (by decide +kernel) (by decide +kernel) (by decide +kernel) (by decide +kernel)
set_option maxRecDepth 100000 in
theorem ca_100 : am_Call at_Ts at_cl 60 mt_100 := at_call (KL := 60) (M := mt_100) (pc := 764) (pi := 10) (ps := 763) (pn := 0) (pl := 0) (pv := 0) (at_m4 (List.mem_of_getElem? (i := 44) rfl)) (by decide +kernel)
theorem bd_101 : am_Body at_Ts at_P at_cl at_AO at_NL mt_101 := at_body at_PN at_PX (pG := [337, 338]) (pP := [334, 335, 336, 337, 338, 340, 341, 343, 332, 333]) (pN := [329]) (pA := [329]) (pK := []) (pC := [328, 331]) (by decide +kernel) (by decide +kernel) (by decide +kernel) (by decide +kernel)
set_option maxRecDepth 100000 in
theorem ca_101 : am_Call at_Ts at_cl 60 mt_101 := at_call (KL := 60) (M := mt_101) (pc := 327) (pi := 11) (ps := 0) (pn := 326) (pl := 0) (pv := 0) (at_m2 (List.mem_of_getElem? (i := 87) rfl)) (by decide +kernel)
theorem bd_102 : am_Body at_Ts at_P at_cl at_AO at_NL mt_102 := at_body at_PN at_PX (pG := []) (pP := [342]) (pN := []) (pA := []) (pK := []) (pC := [833, 851, 855, 890, 863]) (by decide +kernel) (by decide +kernel) (by decide +kernel) (by decide +kernel)
set_option maxRecDepth 100000 in
theorem ca_102 : am_Call at_Ts at_cl 60 mt_102 := at_call (KL := 60) (M := mt_102) (pc := 832) (pi := 11) (ps := 0) (pn := 830) (pl := 831) (pv := 0) (at_m4 (List.mem_of_getElem? (i := 112) rfl)) (by decide +kernel)
theorem bd_103 : am_Body at_Ts at_P at_cl at_AO at_NL mt_103 := at_body at_PN at_PX (pG := [143, 340, 149, 341, 333]) (pP := []) (pN := []) (pA := []) (pK := []) (pC := [859, 874, 881, 882]) (by decide +kernel) (by decide +kernel) (by decide +kernel) (by decide +kernel)
set_option maxRecDepth 100000 in
theorem ca_103 : am_Call at_Ts at_cl 60 mt_103 := at_call (KL := 60) (M := mt_103) (pc := 858) (pi := 11) (ps := 0) (pn := 857) (pl := 0) (pv := 36) (at_m4 (List.mem_of_getElem? (i := 138) rfl)) (by decide +kernel)
theorem bd_104 : am_Body at_Ts at_P at_cl at_AO at_NL mt_104 := at_body at_PN at_PX (pG := [160, 343, 338, 337]) (pP := [343]) (pN := []) (pA := []) (pK := []) (pC := [841, 894]) (by decide +kernel) (by decide +kernel) (by decide +kernel) (by decide +kernel)
set_option maxRecDepth 100000 in
theorem ca_104 : am_Call at_Ts at_cl 60 mt_104 := at_call (KL := 60) (M := mt_104) (pc := 893) (pi := 11) (ps := 0) (pn := 892) (pl := 0) (pv := 41) (at_m4 (List.mem_of_getElem? (i := 173) rfl)) (by decide +kernel)
