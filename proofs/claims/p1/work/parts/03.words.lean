/-- the words of the tables that a call may hand on -/
def qtb : List Cond := lw_tbl.filter goodWord
theorem qw_in {w : Cond} (h : w ∈ tables_1) (g : goodWord w = true) : w ∈ qtb := List.mem_filter.mpr ⟨List.mem_append_right _ h, g⟩
theorem qw_tbl {w : Cond} (h : w ∈ qtb) : w ∈ lw_tbl := (List.mem_filter.mp h).1
theorem qw_gd {w : Cond} (h : w ∈ qtb) : goodWord w = true := (List.mem_filter.mp h).2
set_option maxRecDepth 100000 in
theorem qk_0 : (.initialized "CaptureSubtypesLaw" : Cond) ∈ qtb := qw_in (List.mem_of_getElem? (i := 0) rfl) rfl
set_option maxRecDepth 100000 in
theorem qk_1 : (.initialized "CaptureSubtypes" : Cond) ∈ qtb := qw_in (List.mem_of_getElem? (i := 1) rfl) rfl
set_option maxRecDepth 100000 in
theorem qk_2 : (.initialized "CaptureSubtypes$Classes" : Cond) ∈ qtb := qw_in (List.mem_of_getElem? (i := 2) rfl) rfl
set_option maxRecDepth 100000 in
theorem qk_3 : (.initialized "CaptureSubtypes$Types" : Cond) ∈ qtb := qw_in (List.mem_of_getElem? (i := 3) rfl) rfl
set_option maxRecDepth 100000 in
theorem qk_4 : (.initialized "java/lang/Math" : Cond) ∈ qtb := qw_in (List.mem_of_getElem? (i := 4) rfl) rfl
set_option maxRecDepth 100000 in
theorem qk_5 : (.initialized "CaptureSubtypes$Shapes" : Cond) ∈ qtb := qw_in (List.mem_of_getElem? (i := 5) rfl) rfl
set_option maxRecDepth 100000 in
theorem qk_6 : (.initialized "CaptureSubtypes$Order" : Cond) ∈ qtb := qw_in (List.mem_of_getElem? (i := 6) rfl) rfl
set_option maxRecDepth 100000 in
theorem qk_7 : (.initialized "CaptureSubtypes$Turning" : Cond) ∈ qtb := qw_in (List.mem_of_getElem? (i := 7) rfl) rfl
set_option maxRecDepth 100000 in
theorem qk_8 : (.initialized "CaptureSubtypesModel" : Cond) ∈ qtb := qw_in (List.mem_of_getElem? (i := 8) rfl) rfl
set_option maxRecDepth 100000 in
theorem qk_9 : (.classLink "CaptureSubtypesLaw" 7 "CaptureSubtypes" : Cond) ∈ qtb := qw_in (List.mem_of_getElem? (i := 9) rfl) rfl
set_option maxRecDepth 100000 in
theorem qk_10 : (.instantiable "CaptureSubtypes" 5 : Cond) ∈ qtb := qw_in (List.mem_of_getElem? (i := 10) rfl) rfl
set_option maxRecDepth 100000 in
theorem qk_11 : (.methodLink "CaptureSubtypesLaw" 9 qy_X_init : Cond) ∈ qtb := qw_in (List.mem_of_getElem? (i := 11) rfl) rfl
set_option maxRecDepth 100000 in
theorem qk_12 : (.instanceMethod qy_X_init : Cond) ∈ qtb := qw_in (List.mem_of_getElem? (i := 12) rfl) rfl
set_option maxRecDepth 100000 in
theorem qk_13 : (.code qy_X_init prog_1_method_1_code 1 none : Cond) ∈ qtb := qw_in (List.mem_of_getElem? (i := 13) rfl) rfl
set_option maxRecDepth 100000 in
theorem qk_14 : (.methodLink "CaptureSubtypes" 1 objectInit : Cond) ∈ qtb := qw_in (List.mem_of_getElem? (i := 14) rfl) rfl
set_option maxRecDepth 100000 in
theorem qk_15 : (.instanceMethod objectInit : Cond) ∈ qtb := qw_in (List.mem_of_getElem? (i := 15) rfl) rfl
set_option maxRecDepth 100000 in
theorem qk_16 : (.code objectInit object_method_1_code 1 none : Cond) ∈ qtb := qw_in (List.mem_of_getElem? (i := 16) rfl) rfl
set_option maxRecDepth 100000 in
theorem qk_17 : (.classLink "CaptureSubtypes" 7 "CaptureSubtypes$Classes" : Cond) ∈ qtb := qw_in (List.mem_of_getElem? (i := 17) rfl) rfl
set_option maxRecDepth 100000 in
theorem qk_18 : (.instantiable "CaptureSubtypes$Classes" 10 : Cond) ∈ qtb := qw_in (List.mem_of_getElem? (i := 18) rfl) rfl
set_option maxRecDepth 100000 in
theorem qk_19 : (.methodLink "CaptureSubtypes" 9 qy_K_init : Cond) ∈ qtb := qw_in (List.mem_of_getElem? (i := 19) rfl) rfl
set_option maxRecDepth 100000 in
theorem qk_20 : (.instanceMethod qy_K_init : Cond) ∈ qtb := qw_in (List.mem_of_getElem? (i := 20) rfl) rfl
set_option maxRecDepth 100000 in
theorem qk_21 : (.code qy_K_init prog_2_method_1_code 1 none : Cond) ∈ qtb := qw_in (List.mem_of_getElem? (i := 21) rfl) rfl
set_option maxRecDepth 100000 in
theorem qk_22 : (.methodLink "CaptureSubtypes$Classes" 3 objectInit : Cond) ∈ qtb := qw_in (List.mem_of_getElem? (i := 22) rfl) rfl
set_option maxRecDepth 100000 in
theorem qk_23 : (.methodLink "CaptureSubtypes$Classes" 39 qy_K_empty : Cond) ∈ qtb := qw_in (List.mem_of_getElem? (i := 23) rfl) rfl
set_option maxRecDepth 100000 in
theorem qk_24 : (.instanceMethod qy_K_empty : Cond) ∈ qtb := qw_in (List.mem_of_getElem? (i := 24) rfl) rfl
set_option maxRecDepth 100000 in
theorem qk_25 : (.selects "CaptureSubtypes$Classes" qy_K_empty qy_K_empty : Cond) ∈ qtb := qw_in (List.mem_of_getElem? (i := 25) rfl) rfl
set_option maxRecDepth 100000 in
theorem qk_26 : (.code qy_K_empty prog_2_method_2_code 1 none : Cond) ∈ qtb := qw_in (List.mem_of_getElem? (i := 26) rfl) rfl
set_option maxRecDepth 100000 in
theorem qk_27 : (.methodLink "CaptureSubtypes$Classes" 46 qy_K_write : Cond) ∈ qtb := qw_in (List.mem_of_getElem? (i := 27) rfl) rfl
set_option maxRecDepth 100000 in
theorem qk_29 : (.instanceMethod qy_K_write : Cond) ∈ qtb := qw_in (List.mem_of_getElem? (i := 29) rfl) rfl
set_option maxRecDepth 100000 in
theorem qk_30 : (.code qy_K_write prog_2_method_4_code 6 none : Cond) ∈ qtb := qw_in (List.mem_of_getElem? (i := 30) rfl) rfl
set_option maxRecDepth 100000 in
theorem qk_31 : (.fieldLink "CaptureSubtypes$Classes" 42 "CaptureSubtypes$Classes" "count" "I" : Cond) ∈ qtb := qw_in (List.mem_of_getElem? (i := 31) rfl) rfl
set_option maxRecDepth 100000 in
theorem qk_32 : (.fieldLink "CaptureSubtypes" 50 "CaptureSubtypes$Classes" "count" "I" : Cond) ∈ qtb := qw_in (List.mem_of_getElem? (i := 32) rfl) rfl
set_option maxRecDepth 100000 in
theorem qk_33 : (.fieldLink "CaptureSubtypes$Turning" 86 "CaptureSubtypes$Classes" "count" "I" : Cond) ∈ qtb := qw_in (List.mem_of_getElem? (i := 33) rfl) rfl
set_option maxRecDepth 100000 in
theorem qk_34 : (.fieldLink "CaptureSubtypes$Shapes" 107 "CaptureSubtypes$Classes" "count" "I" : Cond) ∈ qtb := qw_in (List.mem_of_getElem? (i := 34) rfl) rfl
set_option maxRecDepth 100000 in
theorem qk_35 : (.fieldLink "CaptureSubtypes$Classes" 11 "CaptureSubtypes$Classes" "kinds" "[I" : Cond) ∈ qtb := qw_in (List.mem_of_getElem? (i := 35) rfl) rfl
set_option maxRecDepth 100000 in
theorem qk_36 : (.fieldLink "CaptureSubtypes$Classes" 15 "CaptureSubtypes$Classes" "parameterCounts" "[I" : Cond) ∈ qtb := qw_in (List.mem_of_getElem? (i := 36) rfl) rfl
set_option maxRecDepth 100000 in
theorem qk_37 : (.fieldLink "CaptureSubtypes$Classes" 18 "CaptureSubtypes$Classes" "superTypes" "[I" : Cond) ∈ qtb := qw_in (List.mem_of_getElem? (i := 37) rfl) rfl
set_option maxRecDepth 100000 in
theorem qk_38 : (.fieldLink "CaptureSubtypes$Classes" 21 "CaptureSubtypes$Classes" "superClasses" "[I" : Cond) ∈ qtb := qw_in (List.mem_of_getElem? (i := 38) rfl) rfl
set_option maxRecDepth 100000 in
theorem qk_39 : (.fieldLink "CaptureSubtypes$Classes" 24 "CaptureSubtypes$Classes" "bounds" "[I" : Cond) ∈ qtb := qw_in (List.mem_of_getElem? (i := 39) rfl) rfl
set_option maxRecDepth 100000 in
theorem qk_40 : (.fieldLink "CaptureSubtypes$Classes" 27 "CaptureSubtypes$Classes" "boundCounts" "[I" : Cond) ∈ qtb := qw_in (List.mem_of_getElem? (i := 40) rfl) rfl
set_option maxRecDepth 100000 in
theorem qk_41 : (.fieldLink "CaptureSubtypes$Classes" 30 "CaptureSubtypes$Classes" "parents" "[I" : Cond) ∈ qtb := qw_in (List.mem_of_getElem? (i := 41) rfl) rfl
set_option maxRecDepth 100000 in
theorem qk_42 : (.fieldLink "CaptureSubtypes$Classes" 33 "CaptureSubtypes$Classes" "above" "[I" : Cond) ∈ qtb := qw_in (List.mem_of_getElem? (i := 42) rfl) rfl
set_option maxRecDepth 100000 in
theorem qk_43 : (.fieldLink "CaptureSubtypes$Classes" 36 "CaptureSubtypes$Classes" "apartFrom" "[I" : Cond) ∈ qtb := qw_in (List.mem_of_getElem? (i := 43) rfl) rfl
set_option maxRecDepth 100000 in
theorem qk_44 : (.lays "CaptureSubtypes$Classes" "CaptureSubtypes$Classes" "count" "I" : Cond) ∈ qtb := qw_in (List.mem_of_getElem? (i := 44) rfl) rfl
set_option maxRecDepth 100000 in
theorem qk_46 : (.laysFinal "CaptureSubtypes$Classes" "CaptureSubtypes$Classes" "kinds" "[I" : Cond) ∈ qtb := qw_in (List.mem_of_getElem? (i := 46) rfl) rfl
set_option maxRecDepth 100000 in
theorem qk_48 : (.laysFinal "CaptureSubtypes$Classes" "CaptureSubtypes$Classes" "parameterCounts" "[I" : Cond) ∈ qtb := qw_in (List.mem_of_getElem? (i := 48) rfl) rfl
set_option maxRecDepth 100000 in
theorem qk_50 : (.laysFinal "CaptureSubtypes$Classes" "CaptureSubtypes$Classes" "superTypes" "[I" : Cond) ∈ qtb := qw_in (List.mem_of_getElem? (i := 50) rfl) rfl
set_option maxRecDepth 100000 in
theorem qk_52 : (.laysFinal "CaptureSubtypes$Classes" "CaptureSubtypes$Classes" "superClasses" "[I" : Cond) ∈ qtb := qw_in (List.mem_of_getElem? (i := 52) rfl) rfl
set_option maxRecDepth 100000 in
theorem qk_54 : (.laysFinal "CaptureSubtypes$Classes" "CaptureSubtypes$Classes" "bounds" "[I" : Cond) ∈ qtb := qw_in (List.mem_of_getElem? (i := 54) rfl) rfl
set_option maxRecDepth 100000 in
theorem qk_56 : (.laysFinal "CaptureSubtypes$Classes" "CaptureSubtypes$Classes" "boundCounts" "[I" : Cond) ∈ qtb := qw_in (List.mem_of_getElem? (i := 56) rfl) rfl
set_option maxRecDepth 100000 in
theorem qk_58 : (.laysFinal "CaptureSubtypes$Classes" "CaptureSubtypes$Classes" "parents" "[I" : Cond) ∈ qtb := qw_in (List.mem_of_getElem? (i := 58) rfl) rfl
set_option maxRecDepth 100000 in
theorem qk_60 : (.laysFinal "CaptureSubtypes$Classes" "CaptureSubtypes$Classes" "above" "[I" : Cond) ∈ qtb := qw_in (List.mem_of_getElem? (i := 60) rfl) rfl
set_option maxRecDepth 100000 in
theorem qk_62 : (.laysFinal "CaptureSubtypes$Classes" "CaptureSubtypes$Classes" "apartFrom" "[I" : Cond) ∈ qtb := qw_in (List.mem_of_getElem? (i := 62) rfl) rfl
set_option maxRecDepth 100000 in
theorem qk_65 : (.arrayClass FieldType.int : Cond) ∈ qtb := qw_in (List.mem_of_getElem? (i := 65) rfl) rfl
set_option maxRecDepth 100000 in
theorem qk_66 : (.classLink "CaptureSubtypes" 16 "CaptureSubtypes$Types" : Cond) ∈ qtb := qw_in (List.mem_of_getElem? (i := 66) rfl) rfl
set_option maxRecDepth 100000 in
theorem qk_67 : (.instantiable "CaptureSubtypes$Types" 10 : Cond) ∈ qtb := qw_in (List.mem_of_getElem? (i := 67) rfl) rfl
set_option maxRecDepth 100000 in
theorem qk_68 : (.methodLink "CaptureSubtypes" 18 qy_T_init : Cond) ∈ qtb := qw_in (List.mem_of_getElem? (i := 68) rfl) rfl
set_option maxRecDepth 100000 in
theorem qk_69 : (.instanceMethod qy_T_init : Cond) ∈ qtb := qw_in (List.mem_of_getElem? (i := 69) rfl) rfl
set_option maxRecDepth 100000 in
theorem qk_70 : (.code qy_T_init prog_6_method_1_code 1 none : Cond) ∈ qtb := qw_in (List.mem_of_getElem? (i := 70) rfl) rfl
set_option maxRecDepth 100000 in
theorem qk_71 : (.methodLink "CaptureSubtypes$Types" 5 objectInit : Cond) ∈ qtb := qw_in (List.mem_of_getElem? (i := 71) rfl) rfl
set_option maxRecDepth 100000 in
theorem qk_72 : (.methodLink "CaptureSubtypes$Types" 38 qy_T_empty : Cond) ∈ qtb := qw_in (List.mem_of_getElem? (i := 72) rfl) rfl
set_option maxRecDepth 100000 in
theorem qk_73 : (.instanceMethod qy_T_empty : Cond) ∈ qtb := qw_in (List.mem_of_getElem? (i := 73) rfl) rfl
set_option maxRecDepth 100000 in
theorem qk_74 : (.selects "CaptureSubtypes$Types" qy_T_empty qy_T_empty : Cond) ∈ qtb := qw_in (List.mem_of_getElem? (i := 74) rfl) rfl
set_option maxRecDepth 100000 in
theorem qk_75 : (.code qy_T_empty prog_6_method_2_code 1 none : Cond) ∈ qtb := qw_in (List.mem_of_getElem? (i := 75) rfl) rfl
set_option maxRecDepth 100000 in
theorem qk_76 : (.methodLink "CaptureSubtypes$Types" 48 qy_T_keep : Cond) ∈ qtb := qw_in (List.mem_of_getElem? (i := 76) rfl) rfl
set_option maxRecDepth 100000 in
theorem qk_77 : (.instanceMethod qy_T_keep : Cond) ∈ qtb := qw_in (List.mem_of_getElem? (i := 77) rfl) rfl
set_option maxRecDepth 100000 in
theorem qk_78 : (.selects "CaptureSubtypes$Types" qy_T_keep qy_T_keep : Cond) ∈ qtb := qw_in (List.mem_of_getElem? (i := 78) rfl) rfl
set_option maxRecDepth 100000 in
theorem qk_79 : (.code qy_T_keep prog_6_method_19_code 6 (some FieldType.int) : Cond) ∈ qtb := qw_in (List.mem_of_getElem? (i := 79) rfl) rfl
set_option maxRecDepth 100000 in
theorem qk_80 : (.methodLink "CaptureSubtypes$Types" 62 qy_T_put : Cond) ∈ qtb := qw_in (List.mem_of_getElem? (i := 80) rfl) rfl
set_option maxRecDepth 100000 in
theorem qk_81 : (.instanceMethod qy_T_put : Cond) ∈ qtb := qw_in (List.mem_of_getElem? (i := 81) rfl) rfl
set_option maxRecDepth 100000 in
theorem qk_82 : (.selects "CaptureSubtypes$Types" qy_T_put qy_T_put : Cond) ∈ qtb := qw_in (List.mem_of_getElem? (i := 82) rfl) rfl
set_option maxRecDepth 100000 in
theorem qk_83 : (.code qy_T_put prog_6_method_24_code 10 (some FieldType.int) : Cond) ∈ qtb := qw_in (List.mem_of_getElem? (i := 83) rfl) rfl
set_option maxRecDepth 100000 in
theorem qk_84 : (.methodLink "CaptureSubtypes$Types" 69 Lib.Math.max.name : Cond) ∈ qtb := qw_in (List.mem_of_getElem? (i := 84) rfl) rfl
set_option maxRecDepth 100000 in
theorem qk_85 : (.static Lib.Math.max.name : Cond) ∈ qtb := qw_in (List.mem_of_getElem? (i := 85) rfl) rfl
set_option maxRecDepth 100000 in
theorem qk_86 : (.code Lib.Math.max.name prog_9_method_65_code 2 (some FieldType.int) : Cond) ∈ qtb := qw_in (List.mem_of_getElem? (i := 86) rfl) rfl
set_option maxRecDepth 100000 in
theorem qk_87 : (.fieldLink "CaptureSubtypes$Types" 41 "CaptureSubtypes$Types" "kept" "I" : Cond) ∈ qtb := qw_in (List.mem_of_getElem? (i := 87) rfl) rfl
set_option maxRecDepth 100000 in
theorem qk_88 : (.fieldLink "CaptureSubtypes" 124 "CaptureSubtypes$Types" "kept" "I" : Cond) ∈ qtb := qw_in (List.mem_of_getElem? (i := 88) rfl) rfl
set_option maxRecDepth 100000 in
theorem qk_89 : (.fieldLink "CaptureSubtypes$Types" 45 "CaptureSubtypes$Types" "top" "I" : Cond) ∈ qtb := qw_in (List.mem_of_getElem? (i := 89) rfl) rfl
set_option maxRecDepth 100000 in
theorem qk_90 : (.fieldLink "CaptureSubtypes$Types" 13 "CaptureSubtypes$Types" "sorts" "[I" : Cond) ∈ qtb := qw_in (List.mem_of_getElem? (i := 90) rfl) rfl
set_option maxRecDepth 100000 in
theorem qk_91 : (.fieldLink "CaptureSubtypes$Types" 17 "CaptureSubtypes$Types" "owners" "[I" : Cond) ∈ qtb := qw_in (List.mem_of_getElem? (i := 91) rfl) rfl
set_option maxRecDepth 100000 in
theorem qk_92 : (.fieldLink "CaptureSubtypes$Types" 20 "CaptureSubtypes$Types" "firsts" "[I" : Cond) ∈ qtb := qw_in (List.mem_of_getElem? (i := 92) rfl) rfl
set_option maxRecDepth 100000 in
theorem qk_93 : (.fieldLink "CaptureSubtypes$Types" 23 "CaptureSubtypes$Types" "seconds" "[I" : Cond) ∈ qtb := qw_in (List.mem_of_getElem? (i := 93) rfl) rfl
set_option maxRecDepth 100000 in
theorem qk_94 : (.fieldLink "CaptureSubtypes$Types" 26 "CaptureSubtypes$Types" "depths" "[I" : Cond) ∈ qtb := qw_in (List.mem_of_getElem? (i := 94) rfl) rfl
set_option maxRecDepth 100000 in
theorem qk_95 : (.fieldLink "CaptureSubtypes$Types" 29 "CaptureSubtypes$Types" "insides" "[I" : Cond) ∈ qtb := qw_in (List.mem_of_getElem? (i := 95) rfl) rfl
set_option maxRecDepth 100000 in
theorem qk_96 : (.fieldLink "CaptureSubtypes$Types" 32 "CaptureSubtypes$Types" "ups" "[I" : Cond) ∈ qtb := qw_in (List.mem_of_getElem? (i := 96) rfl) rfl
set_option maxRecDepth 100000 in
theorem qk_97 : (.fieldLink "CaptureSubtypes$Types" 35 "CaptureSubtypes$Types" "lows" "[I" : Cond) ∈ qtb := qw_in (List.mem_of_getElem? (i := 97) rfl) rfl
set_option maxRecDepth 100000 in
theorem qk_98 : (.lays "CaptureSubtypes$Types" "CaptureSubtypes$Types" "kept" "I" : Cond) ∈ qtb := qw_in (List.mem_of_getElem? (i := 98) rfl) rfl
set_option maxRecDepth 100000 in
theorem qk_100 : (.lays "CaptureSubtypes$Types" "CaptureSubtypes$Types" "top" "I" : Cond) ∈ qtb := qw_in (List.mem_of_getElem? (i := 100) rfl) rfl
set_option maxRecDepth 100000 in
theorem qk_102 : (.laysFinal "CaptureSubtypes$Types" "CaptureSubtypes$Types" "sorts" "[I" : Cond) ∈ qtb := qw_in (List.mem_of_getElem? (i := 102) rfl) rfl
set_option maxRecDepth 100000 in
theorem qk_104 : (.laysFinal "CaptureSubtypes$Types" "CaptureSubtypes$Types" "owners" "[I" : Cond) ∈ qtb := qw_in (List.mem_of_getElem? (i := 104) rfl) rfl
set_option maxRecDepth 100000 in
theorem qk_106 : (.laysFinal "CaptureSubtypes$Types" "CaptureSubtypes$Types" "firsts" "[I" : Cond) ∈ qtb := qw_in (List.mem_of_getElem? (i := 106) rfl) rfl
set_option maxRecDepth 100000 in
theorem qk_108 : (.laysFinal "CaptureSubtypes$Types" "CaptureSubtypes$Types" "seconds" "[I" : Cond) ∈ qtb := qw_in (List.mem_of_getElem? (i := 108) rfl) rfl
set_option maxRecDepth 100000 in
theorem qk_110 : (.laysFinal "CaptureSubtypes$Types" "CaptureSubtypes$Types" "depths" "[I" : Cond) ∈ qtb := qw_in (List.mem_of_getElem? (i := 110) rfl) rfl
set_option maxRecDepth 100000 in
theorem qk_112 : (.laysFinal "CaptureSubtypes$Types" "CaptureSubtypes$Types" "insides" "[I" : Cond) ∈ qtb := qw_in (List.mem_of_getElem? (i := 112) rfl) rfl
set_option maxRecDepth 100000 in
theorem qk_114 : (.laysFinal "CaptureSubtypes$Types" "CaptureSubtypes$Types" "ups" "[I" : Cond) ∈ qtb := qw_in (List.mem_of_getElem? (i := 114) rfl) rfl
set_option maxRecDepth 100000 in
theorem qk_116 : (.laysFinal "CaptureSubtypes$Types" "CaptureSubtypes$Types" "lows" "[I" : Cond) ∈ qtb := qw_in (List.mem_of_getElem? (i := 116) rfl) rfl
set_option maxRecDepth 100000 in
theorem qk_119 : (.classLink "CaptureSubtypes" 23 "CaptureSubtypes$Shapes" : Cond) ∈ qtb := qw_in (List.mem_of_getElem? (i := 119) rfl) rfl
set_option maxRecDepth 100000 in
theorem qk_120 : (.instantiable "CaptureSubtypes$Shapes" 2 : Cond) ∈ qtb := qw_in (List.mem_of_getElem? (i := 120) rfl) rfl
set_option maxRecDepth 100000 in
theorem qk_121 : (.methodLink "CaptureSubtypes" 25 qy_S_init : Cond) ∈ qtb := qw_in (List.mem_of_getElem? (i := 121) rfl) rfl
set_option maxRecDepth 100000 in
theorem qk_122 : (.instanceMethod qy_S_init : Cond) ∈ qtb := qw_in (List.mem_of_getElem? (i := 122) rfl) rfl
set_option maxRecDepth 100000 in
theorem qk_123 : (.code qy_S_init prog_4_method_1_code 3 none : Cond) ∈ qtb := qw_in (List.mem_of_getElem? (i := 123) rfl) rfl
set_option maxRecDepth 100000 in
theorem qk_124 : (.methodLink "CaptureSubtypes$Shapes" 3 objectInit : Cond) ∈ qtb := qw_in (List.mem_of_getElem? (i := 124) rfl) rfl
set_option maxRecDepth 100000 in
theorem qk_125 : (.fieldLink "CaptureSubtypes$Shapes" 9 "CaptureSubtypes$Shapes" "classes" "LCaptureSubtypes$Classes;" : Cond) ∈ qtb := qw_in (List.mem_of_getElem? (i := 125) rfl) rfl
set_option maxRecDepth 100000 in
theorem qk_126 : (.fieldLink "CaptureSubtypes$Shapes" 15 "CaptureSubtypes$Shapes" "types" "LCaptureSubtypes$Types;" : Cond) ∈ qtb := qw_in (List.mem_of_getElem? (i := 126) rfl) rfl
set_option maxRecDepth 100000 in
theorem qk_127 : (.laysFinal "CaptureSubtypes$Shapes" "CaptureSubtypes$Shapes" "classes" "LCaptureSubtypes$Classes;" : Cond) ∈ qtb := qw_in (List.mem_of_getElem? (i := 127) rfl) rfl
set_option maxRecDepth 100000 in
theorem qk_129 : (.laysFinal "CaptureSubtypes$Shapes" "CaptureSubtypes$Shapes" "types" "LCaptureSubtypes$Types;" : Cond) ∈ qtb := qw_in (List.mem_of_getElem? (i := 129) rfl) rfl
set_option maxRecDepth 100000 in
theorem qk_132 : (.classLink "CaptureSubtypes" 32 "CaptureSubtypes$Order" : Cond) ∈ qtb := qw_in (List.mem_of_getElem? (i := 132) rfl) rfl
set_option maxRecDepth 100000 in
theorem qk_133 : (.instantiable "CaptureSubtypes$Order" 3 : Cond) ∈ qtb := qw_in (List.mem_of_getElem? (i := 133) rfl) rfl
set_option maxRecDepth 100000 in
theorem qk_134 : (.methodLink "CaptureSubtypes" 34 qy_O_init : Cond) ∈ qtb := qw_in (List.mem_of_getElem? (i := 134) rfl) rfl
set_option maxRecDepth 100000 in
theorem qk_135 : (.instanceMethod qy_O_init : Cond) ∈ qtb := qw_in (List.mem_of_getElem? (i := 135) rfl) rfl
set_option maxRecDepth 100000 in
theorem qk_136 : (.code qy_O_init prog_3_method_1_code 4 none : Cond) ∈ qtb := qw_in (List.mem_of_getElem? (i := 136) rfl) rfl
set_option maxRecDepth 100000 in
theorem qk_137 : (.methodLink "CaptureSubtypes$Order" 3 objectInit : Cond) ∈ qtb := qw_in (List.mem_of_getElem? (i := 137) rfl) rfl
set_option maxRecDepth 100000 in
theorem qk_138 : (.fieldLink "CaptureSubtypes$Order" 9 "CaptureSubtypes$Order" "classes" "LCaptureSubtypes$Classes;" : Cond) ∈ qtb := qw_in (List.mem_of_getElem? (i := 138) rfl) rfl
set_option maxRecDepth 100000 in
theorem qk_139 : (.fieldLink "CaptureSubtypes$Order" 15 "CaptureSubtypes$Order" "types" "LCaptureSubtypes$Types;" : Cond) ∈ qtb := qw_in (List.mem_of_getElem? (i := 139) rfl) rfl
set_option maxRecDepth 100000 in
theorem qk_140 : (.fieldLink "CaptureSubtypes$Order" 19 "CaptureSubtypes$Order" "shapes" "LCaptureSubtypes$Shapes;" : Cond) ∈ qtb := qw_in (List.mem_of_getElem? (i := 140) rfl) rfl
set_option maxRecDepth 100000 in
theorem qk_141 : (.laysFinal "CaptureSubtypes$Order" "CaptureSubtypes$Order" "classes" "LCaptureSubtypes$Classes;" : Cond) ∈ qtb := qw_in (List.mem_of_getElem? (i := 141) rfl) rfl
set_option maxRecDepth 100000 in
theorem qk_143 : (.laysFinal "CaptureSubtypes$Order" "CaptureSubtypes$Order" "types" "LCaptureSubtypes$Types;" : Cond) ∈ qtb := qw_in (List.mem_of_getElem? (i := 143) rfl) rfl
set_option maxRecDepth 100000 in
theorem qk_145 : (.laysFinal "CaptureSubtypes$Order" "CaptureSubtypes$Order" "shapes" "LCaptureSubtypes$Shapes;" : Cond) ∈ qtb := qw_in (List.mem_of_getElem? (i := 145) rfl) rfl
set_option maxRecDepth 100000 in
theorem qk_148 : (.classLink "CaptureSubtypes" 41 "CaptureSubtypes$Turning" : Cond) ∈ qtb := qw_in (List.mem_of_getElem? (i := 148) rfl) rfl
set_option maxRecDepth 100000 in
theorem qk_149 : (.instantiable "CaptureSubtypes$Turning" 4 : Cond) ∈ qtb := qw_in (List.mem_of_getElem? (i := 149) rfl) rfl
set_option maxRecDepth 100000 in
theorem qk_150 : (.methodLink "CaptureSubtypes" 43 qy_U_init : Cond) ∈ qtb := qw_in (List.mem_of_getElem? (i := 150) rfl) rfl
set_option maxRecDepth 100000 in
theorem qk_151 : (.instanceMethod qy_U_init : Cond) ∈ qtb := qw_in (List.mem_of_getElem? (i := 151) rfl) rfl
set_option maxRecDepth 100000 in
theorem qk_152 : (.code qy_U_init prog_5_method_1_code 5 none : Cond) ∈ qtb := qw_in (List.mem_of_getElem? (i := 152) rfl) rfl
set_option maxRecDepth 100000 in
theorem qk_153 : (.methodLink "CaptureSubtypes$Turning" 3 objectInit : Cond) ∈ qtb := qw_in (List.mem_of_getElem? (i := 153) rfl) rfl
set_option maxRecDepth 100000 in
theorem qk_154 : (.fieldLink "CaptureSubtypes$Turning" 9 "CaptureSubtypes$Turning" "classes" "LCaptureSubtypes$Classes;" : Cond) ∈ qtb := qw_in (List.mem_of_getElem? (i := 154) rfl) rfl
set_option maxRecDepth 100000 in
theorem qk_155 : (.fieldLink "CaptureSubtypes$Turning" 15 "CaptureSubtypes$Turning" "types" "LCaptureSubtypes$Types;" : Cond) ∈ qtb := qw_in (List.mem_of_getElem? (i := 155) rfl) rfl
set_option maxRecDepth 100000 in
theorem qk_156 : (.fieldLink "CaptureSubtypes$Turning" 19 "CaptureSubtypes$Turning" "shapes" "LCaptureSubtypes$Shapes;" : Cond) ∈ qtb := qw_in (List.mem_of_getElem? (i := 156) rfl) rfl
set_option maxRecDepth 100000 in
theorem qk_157 : (.fieldLink "CaptureSubtypes$Turning" 23 "CaptureSubtypes$Turning" "order" "LCaptureSubtypes$Order;" : Cond) ∈ qtb := qw_in (List.mem_of_getElem? (i := 157) rfl) rfl
set_option maxRecDepth 100000 in
theorem qk_158 : (.laysFinal "CaptureSubtypes$Turning" "CaptureSubtypes$Turning" "classes" "LCaptureSubtypes$Classes;" : Cond) ∈ qtb := qw_in (List.mem_of_getElem? (i := 158) rfl) rfl
set_option maxRecDepth 100000 in
theorem qk_160 : (.laysFinal "CaptureSubtypes$Turning" "CaptureSubtypes$Turning" "types" "LCaptureSubtypes$Types;" : Cond) ∈ qtb := qw_in (List.mem_of_getElem? (i := 160) rfl) rfl
set_option maxRecDepth 100000 in
theorem qk_162 : (.laysFinal "CaptureSubtypes$Turning" "CaptureSubtypes$Turning" "shapes" "LCaptureSubtypes$Shapes;" : Cond) ∈ qtb := qw_in (List.mem_of_getElem? (i := 162) rfl) rfl
set_option maxRecDepth 100000 in
theorem qk_164 : (.laysFinal "CaptureSubtypes$Turning" "CaptureSubtypes$Turning" "order" "LCaptureSubtypes$Order;" : Cond) ∈ qtb := qw_in (List.mem_of_getElem? (i := 164) rfl) rfl
set_option maxRecDepth 100000 in
theorem qk_167 : (.fieldLink "CaptureSubtypes" 10 "CaptureSubtypes" "classes" "LCaptureSubtypes$Classes;" : Cond) ∈ qtb := qw_in (List.mem_of_getElem? (i := 167) rfl) rfl
set_option maxRecDepth 100000 in
theorem qk_168 : (.fieldLink "CaptureSubtypes" 19 "CaptureSubtypes" "types" "LCaptureSubtypes$Types;" : Cond) ∈ qtb := qw_in (List.mem_of_getElem? (i := 168) rfl) rfl
set_option maxRecDepth 100000 in
theorem qk_169 : (.fieldLink "CaptureSubtypes" 28 "CaptureSubtypes" "shapes" "LCaptureSubtypes$Shapes;" : Cond) ∈ qtb := qw_in (List.mem_of_getElem? (i := 169) rfl) rfl
set_option maxRecDepth 100000 in
theorem qk_170 : (.fieldLink "CaptureSubtypes" 37 "CaptureSubtypes" "order" "LCaptureSubtypes$Order;" : Cond) ∈ qtb := qw_in (List.mem_of_getElem? (i := 170) rfl) rfl
set_option maxRecDepth 100000 in
theorem qk_171 : (.fieldLink "CaptureSubtypes" 46 "CaptureSubtypes" "turning" "LCaptureSubtypes$Turning;" : Cond) ∈ qtb := qw_in (List.mem_of_getElem? (i := 171) rfl) rfl
set_option maxRecDepth 100000 in
theorem qk_172 : (.laysFinal "CaptureSubtypes" "CaptureSubtypes" "classes" "LCaptureSubtypes$Classes;" : Cond) ∈ qtb := qw_in (List.mem_of_getElem? (i := 172) rfl) rfl
set_option maxRecDepth 100000 in
theorem qk_174 : (.laysFinal "CaptureSubtypes" "CaptureSubtypes" "types" "LCaptureSubtypes$Types;" : Cond) ∈ qtb := qw_in (List.mem_of_getElem? (i := 174) rfl) rfl
set_option maxRecDepth 100000 in
theorem qk_176 : (.laysFinal "CaptureSubtypes" "CaptureSubtypes" "shapes" "LCaptureSubtypes$Shapes;" : Cond) ∈ qtb := qw_in (List.mem_of_getElem? (i := 176) rfl) rfl
set_option maxRecDepth 100000 in
theorem qk_178 : (.laysFinal "CaptureSubtypes" "CaptureSubtypes" "order" "LCaptureSubtypes$Order;" : Cond) ∈ qtb := qw_in (List.mem_of_getElem? (i := 178) rfl) rfl
set_option maxRecDepth 100000 in
theorem qk_180 : (.laysFinal "CaptureSubtypes" "CaptureSubtypes" "turning" "LCaptureSubtypes$Turning;" : Cond) ∈ qtb := qw_in (List.mem_of_getElem? (i := 180) rfl) rfl
set_option maxRecDepth 100000 in
theorem qk_183 : (.methodLink "CaptureSubtypesLaw" 13 qy_X_clear : Cond) ∈ qtb := qw_in (List.mem_of_getElem? (i := 183) rfl) rfl
set_option maxRecDepth 100000 in
theorem qk_184 : (.instanceMethod qy_X_clear : Cond) ∈ qtb := qw_in (List.mem_of_getElem? (i := 184) rfl) rfl
set_option maxRecDepth 100000 in
theorem qk_185 : (.selects "CaptureSubtypes" qy_X_clear qy_X_clear : Cond) ∈ qtb := qw_in (List.mem_of_getElem? (i := 185) rfl) rfl
set_option maxRecDepth 100000 in
theorem qk_186 : (.code qy_X_clear prog_1_method_2_code 2 (some FieldType.int) : Cond) ∈ qtb := qw_in (List.mem_of_getElem? (i := 186) rfl) rfl
set_option maxRecDepth 100000 in
theorem qk_187 : (.methodLink "CaptureSubtypes" 54 qy_K_empty : Cond) ∈ qtb := qw_in (List.mem_of_getElem? (i := 187) rfl) rfl
set_option maxRecDepth 100000 in
theorem qk_188 : (.methodLink "CaptureSubtypes" 57 qy_T_empty : Cond) ∈ qtb := qw_in (List.mem_of_getElem? (i := 188) rfl) rfl
set_option maxRecDepth 100000 in
theorem qk_189 : (.methodLink "CaptureSubtypesLaw" 18 qy_X_declare : Cond) ∈ qtb := qw_in (List.mem_of_getElem? (i := 189) rfl) rfl
set_option maxRecDepth 100000 in
theorem qk_190 : (.instanceMethod qy_X_declare : Cond) ∈ qtb := qw_in (List.mem_of_getElem? (i := 190) rfl) rfl
set_option maxRecDepth 100000 in
theorem qk_191 : (.selects "CaptureSubtypes" qy_X_declare qy_X_declare : Cond) ∈ qtb := qw_in (List.mem_of_getElem? (i := 191) rfl) rfl
set_option maxRecDepth 100000 in
theorem qk_192 : (.code qy_X_declare prog_1_method_3_code 3 (some FieldType.int) : Cond) ∈ qtb := qw_in (List.mem_of_getElem? (i := 192) rfl) rfl
set_option maxRecDepth 100000 in
theorem qk_193 : (.methodLink "CaptureSubtypes" 58 qy_K_add : Cond) ∈ qtb := qw_in (List.mem_of_getElem? (i := 193) rfl) rfl
set_option maxRecDepth 100000 in
theorem qk_194 : (.instanceMethod qy_K_add : Cond) ∈ qtb := qw_in (List.mem_of_getElem? (i := 194) rfl) rfl
set_option maxRecDepth 100000 in
theorem qk_195 : (.selects "CaptureSubtypes$Classes" qy_K_add qy_K_add : Cond) ∈ qtb := qw_in (List.mem_of_getElem? (i := 195) rfl) rfl
set_option maxRecDepth 100000 in
theorem qk_196 : (.code qy_K_add prog_2_method_3_code 3 (some FieldType.int) : Cond) ∈ qtb := qw_in (List.mem_of_getElem? (i := 196) rfl) rfl
set_option maxRecDepth 100000 in
theorem qk_197 : (.methodLink "CaptureSubtypes$Classes" 50 qy_K_reckon : Cond) ∈ qtb := qw_in (List.mem_of_getElem? (i := 197) rfl) rfl
set_option maxRecDepth 100000 in
theorem qk_199 : (.instanceMethod qy_K_reckon : Cond) ∈ qtb := qw_in (List.mem_of_getElem? (i := 199) rfl) rfl
set_option maxRecDepth 100000 in
theorem qk_200 : (.code qy_K_reckon prog_2_method_25_code 1 none : Cond) ∈ qtb := qw_in (List.mem_of_getElem? (i := 200) rfl) rfl
set_option maxRecDepth 100000 in
theorem qk_201 : (.methodLink "CaptureSubtypes$Classes" 77 qy_K_reckonAbove : Cond) ∈ qtb := qw_in (List.mem_of_getElem? (i := 201) rfl) rfl
set_option maxRecDepth 100000 in
theorem qk_203 : (.instanceMethod qy_K_reckonAbove : Cond) ∈ qtb := qw_in (List.mem_of_getElem? (i := 203) rfl) rfl
set_option maxRecDepth 100000 in
theorem qk_204 : (.code qy_K_reckonAbove prog_2_method_26_code 4 none : Cond) ∈ qtb := qw_in (List.mem_of_getElem? (i := 204) rfl) rfl
set_option maxRecDepth 100000 in
theorem qk_205 : (.methodLink "CaptureSubtypes$Classes" 61 qy_K_superClass : Cond) ∈ qtb := qw_in (List.mem_of_getElem? (i := 205) rfl) rfl
set_option maxRecDepth 100000 in
theorem qk_206 : (.instanceMethod qy_K_superClass : Cond) ∈ qtb := qw_in (List.mem_of_getElem? (i := 206) rfl) rfl
set_option maxRecDepth 100000 in
theorem qk_207 : (.selects "CaptureSubtypes$Classes" qy_K_superClass qy_K_superClass : Cond) ∈ qtb := qw_in (List.mem_of_getElem? (i := 207) rfl) rfl
set_option maxRecDepth 100000 in
theorem qk_208 : (.code qy_K_superClass prog_2_method_15_code 4 (some FieldType.int) : Cond) ∈ qtb := qw_in (List.mem_of_getElem? (i := 208) rfl) rfl
set_option maxRecDepth 100000 in
theorem qk_209 : (.methodLink "CaptureSubtypes$Classes" 80 qy_K_reckonApart : Cond) ∈ qtb := qw_in (List.mem_of_getElem? (i := 209) rfl) rfl
set_option maxRecDepth 100000 in
theorem qk_211 : (.instanceMethod qy_K_reckonApart : Cond) ∈ qtb := qw_in (List.mem_of_getElem? (i := 211) rfl) rfl
set_option maxRecDepth 100000 in
theorem qk_212 : (.code qy_K_reckonApart prog_2_method_27_code 3 none : Cond) ∈ qtb := qw_in (List.mem_of_getElem? (i := 212) rfl) rfl
set_option maxRecDepth 100000 in
theorem qk_213 : (.methodLink "CaptureSubtypes$Classes" 83 qy_K_mustBeApart : Cond) ∈ qtb := qw_in (List.mem_of_getElem? (i := 213) rfl) rfl
set_option maxRecDepth 100000 in
theorem qk_215 : (.instanceMethod qy_K_mustBeApart : Cond) ∈ qtb := qw_in (List.mem_of_getElem? (i := 215) rfl) rfl
set_option maxRecDepth 100000 in
theorem qk_216 : (.code qy_K_mustBeApart prog_2_method_28_code 3 (some FieldType.boolean) : Cond) ∈ qtb := qw_in (List.mem_of_getElem? (i := 216) rfl) rfl
set_option maxRecDepth 100000 in
theorem qk_217 : (.methodLink "CaptureSubtypes$Classes" 64 qy_K_isUnder : Cond) ∈ qtb := qw_in (List.mem_of_getElem? (i := 217) rfl) rfl
set_option maxRecDepth 100000 in
theorem qk_218 : (.instanceMethod qy_K_isUnder : Cond) ∈ qtb := qw_in (List.mem_of_getElem? (i := 218) rfl) rfl
set_option maxRecDepth 100000 in
theorem qk_219 : (.selects "CaptureSubtypes$Classes" qy_K_isUnder qy_K_isUnder : Cond) ∈ qtb := qw_in (List.mem_of_getElem? (i := 219) rfl) rfl
set_option maxRecDepth 100000 in
theorem qk_220 : (.code qy_K_isUnder prog_2_method_11_code 3 (some FieldType.boolean) : Cond) ∈ qtb := qw_in (List.mem_of_getElem? (i := 220) rfl) rfl
set_option maxRecDepth 100000 in
theorem qk_221 : (.methodLink "CaptureSubtypes$Classes" 53 qy_K_isFace : Cond) ∈ qtb := qw_in (List.mem_of_getElem? (i := 221) rfl) rfl
set_option maxRecDepth 100000 in
theorem qk_222 : (.instanceMethod qy_K_isFace : Cond) ∈ qtb := qw_in (List.mem_of_getElem? (i := 222) rfl) rfl
set_option maxRecDepth 100000 in
theorem qk_223 : (.selects "CaptureSubtypes$Classes" qy_K_isFace qy_K_isFace : Cond) ∈ qtb := qw_in (List.mem_of_getElem? (i := 223) rfl) rfl
set_option maxRecDepth 100000 in
theorem qk_224 : (.code qy_K_isFace prog_2_method_7_code 2 (some FieldType.boolean) : Cond) ∈ qtb := qw_in (List.mem_of_getElem? (i := 224) rfl) rfl
set_option maxRecDepth 100000 in
theorem qk_225 : (.methodLink "CaptureSubtypes$Classes" 86 qy_K_kindOf : Cond) ∈ qtb := qw_in (List.mem_of_getElem? (i := 225) rfl) rfl
set_option maxRecDepth 100000 in
theorem qk_226 : (.instanceMethod qy_K_kindOf : Cond) ∈ qtb := qw_in (List.mem_of_getElem? (i := 226) rfl) rfl
set_option maxRecDepth 100000 in
theorem qk_227 : (.selects "CaptureSubtypes$Classes" qy_K_kindOf qy_K_kindOf : Cond) ∈ qtb := qw_in (List.mem_of_getElem? (i := 227) rfl) rfl
set_option maxRecDepth 100000 in
theorem qk_228 : (.code qy_K_kindOf prog_2_method_6_code 2 (some FieldType.int) : Cond) ∈ qtb := qw_in (List.mem_of_getElem? (i := 228) rfl) rfl
set_option maxRecDepth 100000 in
theorem qk_229 : (.methodLink "CaptureSubtypes$Classes" 90 qy_K_isSealed : Cond) ∈ qtb := qw_in (List.mem_of_getElem? (i := 229) rfl) rfl
set_option maxRecDepth 100000 in
theorem qk_231 : (.instanceMethod qy_K_isSealed : Cond) ∈ qtb := qw_in (List.mem_of_getElem? (i := 231) rfl) rfl
set_option maxRecDepth 100000 in
theorem qk_232 : (.code qy_K_isSealed prog_2_method_29_code 3 (some FieldType.boolean) : Cond) ∈ qtb := qw_in (List.mem_of_getElem? (i := 232) rfl) rfl
set_option maxRecDepth 100000 in
theorem qk_233 : (.methodLink "CaptureSubtypes$Classes" 93 qy_K_heirsApartFrom : Cond) ∈ qtb := qw_in (List.mem_of_getElem? (i := 233) rfl) rfl
set_option maxRecDepth 100000 in
theorem qk_235 : (.instanceMethod qy_K_heirsApartFrom : Cond) ∈ qtb := qw_in (List.mem_of_getElem? (i := 235) rfl) rfl
set_option maxRecDepth 100000 in
theorem qk_236 : (.code qy_K_heirsApartFrom prog_2_method_30_code 4 (some FieldType.boolean) : Cond) ∈ qtb := qw_in (List.mem_of_getElem? (i := 236) rfl) rfl
set_option maxRecDepth 100000 in
theorem qk_237 : (.methodLink "CaptureSubtypes$Classes" 68 qy_K_isHeir : Cond) ∈ qtb := qw_in (List.mem_of_getElem? (i := 237) rfl) rfl
set_option maxRecDepth 100000 in
theorem qk_239 : (.instanceMethod qy_K_isHeir : Cond) ∈ qtb := qw_in (List.mem_of_getElem? (i := 239) rfl) rfl
set_option maxRecDepth 100000 in
theorem qk_240 : (.code qy_K_isHeir prog_2_method_13_code 3 (some FieldType.boolean) : Cond) ∈ qtb := qw_in (List.mem_of_getElem? (i := 240) rfl) rfl
set_option maxRecDepth 100000 in
theorem qk_241 : (.methodLink "CaptureSubtypes$Classes" 99 qy_K_areApart : Cond) ∈ qtb := qw_in (List.mem_of_getElem? (i := 241) rfl) rfl
set_option maxRecDepth 100000 in
theorem qk_242 : (.instanceMethod qy_K_areApart : Cond) ∈ qtb := qw_in (List.mem_of_getElem? (i := 242) rfl) rfl
set_option maxRecDepth 100000 in
theorem qk_243 : (.selects "CaptureSubtypes$Classes" qy_K_areApart qy_K_areApart : Cond) ∈ qtb := qw_in (List.mem_of_getElem? (i := 243) rfl) rfl
set_option maxRecDepth 100000 in
theorem qk_244 : (.code qy_K_areApart prog_2_method_12_code 3 (some FieldType.boolean) : Cond) ∈ qtb := qw_in (List.mem_of_getElem? (i := 244) rfl) rfl
set_option maxRecDepth 100000 in
theorem qk_245 : (.methodLink "CaptureSubtypes$Classes" 96 qy_K_apartFromHeirs : Cond) ∈ qtb := qw_in (List.mem_of_getElem? (i := 245) rfl) rfl
set_option maxRecDepth 100000 in
theorem qk_247 : (.instanceMethod qy_K_apartFromHeirs : Cond) ∈ qtb := qw_in (List.mem_of_getElem? (i := 247) rfl) rfl
set_option maxRecDepth 100000 in
theorem qk_248 : (.code qy_K_apartFromHeirs prog_2_method_31_code 4 (some FieldType.boolean) : Cond) ∈ qtb := qw_in (List.mem_of_getElem? (i := 248) rfl) rfl
set_option maxRecDepth 100000 in
theorem qk_249 : (.methodLink "CaptureSubtypesLaw" 23 qy_X_inherit : Cond) ∈ qtb := qw_in (List.mem_of_getElem? (i := 249) rfl) rfl
set_option maxRecDepth 100000 in
theorem qk_250 : (.instanceMethod qy_X_inherit : Cond) ∈ qtb := qw_in (List.mem_of_getElem? (i := 250) rfl) rfl
set_option maxRecDepth 100000 in
theorem qk_251 : (.selects "CaptureSubtypes" qy_X_inherit qy_X_inherit : Cond) ∈ qtb := qw_in (List.mem_of_getElem? (i := 251) rfl) rfl
set_option maxRecDepth 100000 in
theorem qk_252 : (.code qy_X_inherit prog_1_method_4_code 7 (some FieldType.int) : Cond) ∈ qtb := qw_in (List.mem_of_getElem? (i := 252) rfl) rfl
set_option maxRecDepth 100000 in
theorem qk_253 : (.methodLink "CaptureSubtypes" 62 qy_X_mayBeSuper : Cond) ∈ qtb := qw_in (List.mem_of_getElem? (i := 253) rfl) rfl
set_option maxRecDepth 100000 in
theorem qk_255 : (.instanceMethod qy_X_mayBeSuper : Cond) ∈ qtb := qw_in (List.mem_of_getElem? (i := 255) rfl) rfl
set_option maxRecDepth 100000 in
theorem qk_256 : (.code qy_X_mayBeSuper prog_1_method_22_code 4 (some FieldType.boolean) : Cond) ∈ qtb := qw_in (List.mem_of_getElem? (i := 256) rfl) rfl
set_option maxRecDepth 100000 in
theorem qk_257 : (.methodLink "CaptureSubtypes" 101 qy_K_has : Cond) ∈ qtb := qw_in (List.mem_of_getElem? (i := 257) rfl) rfl
set_option maxRecDepth 100000 in
theorem qk_258 : (.instanceMethod qy_K_has : Cond) ∈ qtb := qw_in (List.mem_of_getElem? (i := 258) rfl) rfl
set_option maxRecDepth 100000 in
theorem qk_259 : (.selects "CaptureSubtypes$Classes" qy_K_has qy_K_has : Cond) ∈ qtb := qw_in (List.mem_of_getElem? (i := 259) rfl) rfl
set_option maxRecDepth 100000 in
theorem qk_260 : (.code qy_K_has prog_2_method_5_code 2 (some FieldType.boolean) : Cond) ∈ qtb := qw_in (List.mem_of_getElem? (i := 260) rfl) rfl
set_option maxRecDepth 100000 in
theorem qk_261 : (.methodLink "CaptureSubtypes" 127 qy_T_has : Cond) ∈ qtb := qw_in (List.mem_of_getElem? (i := 261) rfl) rfl
set_option maxRecDepth 100000 in
theorem qk_262 : (.instanceMethod qy_T_has : Cond) ∈ qtb := qw_in (List.mem_of_getElem? (i := 262) rfl) rfl
set_option maxRecDepth 100000 in
theorem qk_263 : (.selects "CaptureSubtypes$Types" qy_T_has qy_T_has : Cond) ∈ qtb := qw_in (List.mem_of_getElem? (i := 263) rfl) rfl
set_option maxRecDepth 100000 in
theorem qk_264 : (.code qy_T_has prog_6_method_3_code 2 (some FieldType.boolean) : Cond) ∈ qtb := qw_in (List.mem_of_getElem? (i := 264) rfl) rfl
set_option maxRecDepth 100000 in
theorem qk_265 : (.methodLink "CaptureSubtypes" 168 qy_T_isOfClass : Cond) ∈ qtb := qw_in (List.mem_of_getElem? (i := 265) rfl) rfl
set_option maxRecDepth 100000 in
theorem qk_266 : (.instanceMethod qy_T_isOfClass : Cond) ∈ qtb := qw_in (List.mem_of_getElem? (i := 266) rfl) rfl
set_option maxRecDepth 100000 in
theorem qk_267 : (.selects "CaptureSubtypes$Types" qy_T_isOfClass qy_T_isOfClass : Cond) ∈ qtb := qw_in (List.mem_of_getElem? (i := 267) rfl) rfl
set_option maxRecDepth 100000 in
theorem qk_268 : (.code qy_T_isOfClass prog_6_method_14_code 3 (some FieldType.boolean) : Cond) ∈ qtb := qw_in (List.mem_of_getElem? (i := 268) rfl) rfl
set_option maxRecDepth 100000 in
theorem qk_269 : (.methodLink "CaptureSubtypes$Types" 52 qy_T_sortOf : Cond) ∈ qtb := qw_in (List.mem_of_getElem? (i := 269) rfl) rfl
set_option maxRecDepth 100000 in
theorem qk_270 : (.instanceMethod qy_T_sortOf : Cond) ∈ qtb := qw_in (List.mem_of_getElem? (i := 270) rfl) rfl
set_option maxRecDepth 100000 in
theorem qk_271 : (.selects "CaptureSubtypes$Types" qy_T_sortOf qy_T_sortOf : Cond) ∈ qtb := qw_in (List.mem_of_getElem? (i := 271) rfl) rfl
set_option maxRecDepth 100000 in
theorem qk_272 : (.code qy_T_sortOf prog_6_method_4_code 2 (some FieldType.int) : Cond) ∈ qtb := qw_in (List.mem_of_getElem? (i := 272) rfl) rfl
set_option maxRecDepth 100000 in
theorem qk_273 : (.methodLink "CaptureSubtypes" 66 qy_T_ownerOf : Cond) ∈ qtb := qw_in (List.mem_of_getElem? (i := 273) rfl) rfl
set_option maxRecDepth 100000 in
theorem qk_274 : (.instanceMethod qy_T_ownerOf : Cond) ∈ qtb := qw_in (List.mem_of_getElem? (i := 274) rfl) rfl
set_option maxRecDepth 100000 in
theorem qk_275 : (.selects "CaptureSubtypes$Types" qy_T_ownerOf qy_T_ownerOf : Cond) ∈ qtb := qw_in (List.mem_of_getElem? (i := 275) rfl) rfl
set_option maxRecDepth 100000 in
theorem qk_276 : (.code qy_T_ownerOf prog_6_method_5_code 2 (some FieldType.int) : Cond) ∈ qtb := qw_in (List.mem_of_getElem? (i := 276) rfl) rfl
set_option maxRecDepth 100000 in
theorem qk_277 : (.methodLink "CaptureSubtypes" 137 qy_K_kindOf : Cond) ∈ qtb := qw_in (List.mem_of_getElem? (i := 277) rfl) rfl
set_option maxRecDepth 100000 in
theorem qk_278 : (.methodLink "CaptureSubtypes" 183 qy_T_isInWordsOf : Cond) ∈ qtb := qw_in (List.mem_of_getElem? (i := 278) rfl) rfl
set_option maxRecDepth 100000 in
theorem qk_279 : (.instanceMethod qy_T_isInWordsOf : Cond) ∈ qtb := qw_in (List.mem_of_getElem? (i := 279) rfl) rfl
set_option maxRecDepth 100000 in
theorem qk_280 : (.selects "CaptureSubtypes$Types" qy_T_isInWordsOf qy_T_isInWordsOf : Cond) ∈ qtb := qw_in (List.mem_of_getElem? (i := 280) rfl) rfl
set_option maxRecDepth 100000 in
theorem qk_281 : (.code qy_T_isInWordsOf prog_6_method_18_code 3 (some FieldType.boolean) : Cond) ∈ qtb := qw_in (List.mem_of_getElem? (i := 281) rfl) rfl
set_option maxRecDepth 100000 in
theorem qk_282 : (.methodLink "CaptureSubtypes" 186 qy_K_isFace : Cond) ∈ qtb := qw_in (List.mem_of_getElem? (i := 282) rfl) rfl
set_option maxRecDepth 100000 in
theorem qk_283 : (.methodLink "CaptureSubtypes" 70 qy_K_freeSlot : Cond) ∈ qtb := qw_in (List.mem_of_getElem? (i := 283) rfl) rfl
set_option maxRecDepth 100000 in
theorem qk_284 : (.instanceMethod qy_K_freeSlot : Cond) ∈ qtb := qw_in (List.mem_of_getElem? (i := 284) rfl) rfl
set_option maxRecDepth 100000 in
theorem qk_285 : (.selects "CaptureSubtypes$Classes" qy_K_freeSlot qy_K_freeSlot : Cond) ∈ qtb := qw_in (List.mem_of_getElem? (i := 285) rfl) rfl
set_option maxRecDepth 100000 in
theorem qk_286 : (.code qy_K_freeSlot prog_2_method_17_code 4 (some FieldType.int) : Cond) ∈ qtb := qw_in (List.mem_of_getElem? (i := 286) rfl) rfl
set_option maxRecDepth 100000 in
theorem qk_287 : (.methodLink "CaptureSubtypes$Classes" 57 qy_K_superType : Cond) ∈ qtb := qw_in (List.mem_of_getElem? (i := 287) rfl) rfl
set_option maxRecDepth 100000 in
theorem qk_288 : (.instanceMethod qy_K_superType : Cond) ∈ qtb := qw_in (List.mem_of_getElem? (i := 288) rfl) rfl
set_option maxRecDepth 100000 in
theorem qk_289 : (.selects "CaptureSubtypes$Classes" qy_K_superType qy_K_superType : Cond) ∈ qtb := qw_in (List.mem_of_getElem? (i := 289) rfl) rfl
set_option maxRecDepth 100000 in
theorem qk_290 : (.code qy_K_superType prog_2_method_14_code 4 (some FieldType.int) : Cond) ∈ qtb := qw_in (List.mem_of_getElem? (i := 290) rfl) rfl
set_option maxRecDepth 100000 in
theorem qk_291 : (.methodLink "CaptureSubtypes" 73 qy_K_superType : Cond) ∈ qtb := qw_in (List.mem_of_getElem? (i := 291) rfl) rfl
set_option maxRecDepth 100000 in
theorem qk_292 : (.methodLink "CaptureSubtypes" 76 qy_K_superClass : Cond) ∈ qtb := qw_in (List.mem_of_getElem? (i := 292) rfl) rfl
set_option maxRecDepth 100000 in
theorem qk_293 : (.methodLink "CaptureSubtypes" 79 qy_K_setSuper : Cond) ∈ qtb := qw_in (List.mem_of_getElem? (i := 293) rfl) rfl
set_option maxRecDepth 100000 in
theorem qk_294 : (.instanceMethod qy_K_setSuper : Cond) ∈ qtb := qw_in (List.mem_of_getElem? (i := 294) rfl) rfl
set_option maxRecDepth 100000 in
theorem qk_295 : (.selects "CaptureSubtypes$Classes" qy_K_setSuper qy_K_setSuper : Cond) ∈ qtb := qw_in (List.mem_of_getElem? (i := 295) rfl) rfl
set_option maxRecDepth 100000 in
theorem qk_296 : (.code qy_K_setSuper prog_2_method_16_code 5 none : Cond) ∈ qtb := qw_in (List.mem_of_getElem? (i := 296) rfl) rfl
set_option maxRecDepth 100000 in
theorem qk_297 : (.methodLink "CaptureSubtypes" 83 qy_S_clashes : Cond) ∈ qtb := qw_in (List.mem_of_getElem? (i := 297) rfl) rfl
set_option maxRecDepth 100000 in
theorem qk_298 : (.instanceMethod qy_S_clashes : Cond) ∈ qtb := qw_in (List.mem_of_getElem? (i := 298) rfl) rfl
set_option maxRecDepth 100000 in
theorem qk_299 : (.selects "CaptureSubtypes$Shapes" qy_S_clashes qy_S_clashes : Cond) ∈ qtb := qw_in (List.mem_of_getElem? (i := 299) rfl) rfl
set_option maxRecDepth 100000 in
theorem qk_300 : (.code qy_S_clashes prog_4_method_10_code 3 (some FieldType.boolean) : Cond) ∈ qtb := qw_in (List.mem_of_getElem? (i := 300) rfl) rfl
set_option maxRecDepth 100000 in
theorem qk_301 : (.methodLink "CaptureSubtypes$Shapes" 111 qy_S_clashesAt : Cond) ∈ qtb := qw_in (List.mem_of_getElem? (i := 301) rfl) rfl
set_option maxRecDepth 100000 in
theorem qk_303 : (.instanceMethod qy_S_clashesAt : Cond) ∈ qtb := qw_in (List.mem_of_getElem? (i := 303) rfl) rfl
set_option maxRecDepth 100000 in
theorem qk_304 : (.code qy_S_clashesAt prog_4_method_11_code 8 (some FieldType.boolean) : Cond) ∈ qtb := qw_in (List.mem_of_getElem? (i := 304) rfl) rfl
set_option maxRecDepth 100000 in
theorem qk_305 : (.methodLink "CaptureSubtypes$Shapes" 114 qy_T_mark : Cond) ∈ qtb := qw_in (List.mem_of_getElem? (i := 305) rfl) rfl
set_option maxRecDepth 100000 in
theorem qk_306 : (.instanceMethod qy_T_mark : Cond) ∈ qtb := qw_in (List.mem_of_getElem? (i := 306) rfl) rfl
set_option maxRecDepth 100000 in
theorem qk_307 : (.selects "CaptureSubtypes$Types" qy_T_mark qy_T_mark : Cond) ∈ qtb := qw_in (List.mem_of_getElem? (i := 307) rfl) rfl
set_option maxRecDepth 100000 in
theorem qk_308 : (.code qy_T_mark prog_6_method_22_code 1 (some FieldType.int) : Cond) ∈ qtb := qw_in (List.mem_of_getElem? (i := 308) rfl) rfl
set_option maxRecDepth 100000 in
theorem qk_309 : (.methodLink "CaptureSubtypes$Shapes" 101 qy_K_superClass : Cond) ∈ qtb := qw_in (List.mem_of_getElem? (i := 309) rfl) rfl
set_option maxRecDepth 100000 in
theorem qk_310 : (.methodLink "CaptureSubtypes$Shapes" 118 qy_K_isUnder : Cond) ∈ qtb := qw_in (List.mem_of_getElem? (i := 310) rfl) rfl
set_option maxRecDepth 100000 in
theorem qk_311 : (.methodLink "CaptureSubtypes$Shapes" 104 qy_K_superType : Cond) ∈ qtb := qw_in (List.mem_of_getElem? (i := 311) rfl) rfl
set_option maxRecDepth 100000 in
theorem qk_312 : (.methodLink "CaptureSubtypes$Shapes" 121 qy_S_viewedAs : Cond) ∈ qtb := qw_in (List.mem_of_getElem? (i := 312) rfl) rfl
set_option maxRecDepth 100000 in
theorem qk_313 : (.instanceMethod qy_S_viewedAs : Cond) ∈ qtb := qw_in (List.mem_of_getElem? (i := 313) rfl) rfl
set_option maxRecDepth 100000 in
theorem qk_314 : (.selects "CaptureSubtypes$Shapes" qy_S_viewedAs qy_S_viewedAs : Cond) ∈ qtb := qw_in (List.mem_of_getElem? (i := 314) rfl) rfl
set_option maxRecDepth 100000 in
theorem qk_315 : (.code qy_S_viewedAs prog_4_method_9_code 7 (some FieldType.int) : Cond) ∈ qtb := qw_in (List.mem_of_getElem? (i := 315) rfl) rfl
set_option maxRecDepth 100000 in
theorem qk_316 : (.methodLink "CaptureSubtypes$Shapes" 39 qy_T_ownerOf : Cond) ∈ qtb := qw_in (List.mem_of_getElem? (i := 316) rfl) rfl
set_option maxRecDepth 100000 in
theorem qk_317 : (.methodLink "CaptureSubtypes$Shapes" 36 qy_T_isOfClass : Cond) ∈ qtb := qw_in (List.mem_of_getElem? (i := 317) rfl) rfl
set_option maxRecDepth 100000 in
theorem qk_318 : (.methodLink "CaptureSubtypes$Shapes" 98 qy_K_slotTowards : Cond) ∈ qtb := qw_in (List.mem_of_getElem? (i := 318) rfl) rfl
set_option maxRecDepth 100000 in
theorem qk_319 : (.instanceMethod qy_K_slotTowards : Cond) ∈ qtb := qw_in (List.mem_of_getElem? (i := 319) rfl) rfl
set_option maxRecDepth 100000 in
theorem qk_320 : (.selects "CaptureSubtypes$Classes" qy_K_slotTowards qy_K_slotTowards : Cond) ∈ qtb := qw_in (List.mem_of_getElem? (i := 320) rfl) rfl
set_option maxRecDepth 100000 in
theorem qk_321 : (.code qy_K_slotTowards prog_2_method_19_code 4 (some FieldType.int) : Cond) ∈ qtb := qw_in (List.mem_of_getElem? (i := 321) rfl) rfl
set_option maxRecDepth 100000 in
theorem qk_322 : (.methodLink "CaptureSubtypes$Shapes" 29 qy_T_sortOf : Cond) ∈ qtb := qw_in (List.mem_of_getElem? (i := 322) rfl) rfl
set_option maxRecDepth 100000 in
theorem qk_323 : (.methodLink "CaptureSubtypes$Shapes" 42 qy_S_nameAlone : Cond) ∈ qtb := qw_in (List.mem_of_getElem? (i := 323) rfl) rfl
set_option maxRecDepth 100000 in
theorem qk_325 : (.instanceMethod qy_S_nameAlone : Cond) ∈ qtb := qw_in (List.mem_of_getElem? (i := 325) rfl) rfl
set_option maxRecDepth 100000 in
theorem qk_326 : (.code qy_S_nameAlone prog_4_method_4_code 2 (some FieldType.int) : Cond) ∈ qtb := qw_in (List.mem_of_getElem? (i := 326) rfl) rfl
set_option maxRecDepth 100000 in
theorem qk_327 : (.methodLink "CaptureSubtypes$Shapes" 52 qy_K_has : Cond) ∈ qtb := qw_in (List.mem_of_getElem? (i := 327) rfl) rfl
set_option maxRecDepth 100000 in
theorem qk_328 : (.methodLink "CaptureSubtypes$Shapes" 57 qy_K_nameSort : Cond) ∈ qtb := qw_in (List.mem_of_getElem? (i := 328) rfl) rfl
set_option maxRecDepth 100000 in
theorem qk_329 : (.instanceMethod qy_K_nameSort : Cond) ∈ qtb := qw_in (List.mem_of_getElem? (i := 329) rfl) rfl
set_option maxRecDepth 100000 in
theorem qk_330 : (.selects "CaptureSubtypes$Classes" qy_K_nameSort qy_K_nameSort : Cond) ∈ qtb := qw_in (List.mem_of_getElem? (i := 330) rfl) rfl
set_option maxRecDepth 100000 in
theorem qk_331 : (.code qy_K_nameSort prog_2_method_10_code 2 (some FieldType.int) : Cond) ∈ qtb := qw_in (List.mem_of_getElem? (i := 331) rfl) rfl
set_option maxRecDepth 100000 in
theorem qk_332 : (.methodLink "CaptureSubtypes$Shapes" 48 qy_T_put : Cond) ∈ qtb := qw_in (List.mem_of_getElem? (i := 332) rfl) rfl
set_option maxRecDepth 100000 in
theorem qk_333 : (.methodLink "CaptureSubtypes$Shapes" 78 qy_S_putIn : Cond) ∈ qtb := qw_in (List.mem_of_getElem? (i := 333) rfl) rfl
set_option maxRecDepth 100000 in
theorem qk_335 : (.instanceMethod qy_S_putIn : Cond) ∈ qtb := qw_in (List.mem_of_getElem? (i := 335) rfl) rfl
set_option maxRecDepth 100000 in
theorem qk_336 : (.code qy_S_putIn prog_4_method_7_code 8 (some FieldType.int) : Cond) ∈ qtb := qw_in (List.mem_of_getElem? (i := 336) rfl) rfl
set_option maxRecDepth 100000 in
theorem qk_337 : (.methodLink "CaptureSubtypes$Shapes" 81 qy_T_mentions : Cond) ∈ qtb := qw_in (List.mem_of_getElem? (i := 337) rfl) rfl
set_option maxRecDepth 100000 in
theorem qk_338 : (.instanceMethod qy_T_mentions : Cond) ∈ qtb := qw_in (List.mem_of_getElem? (i := 338) rfl) rfl
set_option maxRecDepth 100000 in
theorem qk_339 : (.selects "CaptureSubtypes$Types" qy_T_mentions qy_T_mentions : Cond) ∈ qtb := qw_in (List.mem_of_getElem? (i := 339) rfl) rfl
set_option maxRecDepth 100000 in
theorem qk_340 : (.code qy_T_mentions prog_6_method_17_code 3 (some FieldType.boolean) : Cond) ∈ qtb := qw_in (List.mem_of_getElem? (i := 340) rfl) rfl
set_option maxRecDepth 100000 in
theorem qk_341 : (.methodLink "CaptureSubtypes$Shapes" 33 qy_T_firstOf : Cond) ∈ qtb := qw_in (List.mem_of_getElem? (i := 341) rfl) rfl
set_option maxRecDepth 100000 in
theorem qk_342 : (.instanceMethod qy_T_firstOf : Cond) ∈ qtb := qw_in (List.mem_of_getElem? (i := 342) rfl) rfl
set_option maxRecDepth 100000 in
theorem qk_343 : (.selects "CaptureSubtypes$Types" qy_T_firstOf qy_T_firstOf : Cond) ∈ qtb := qw_in (List.mem_of_getElem? (i := 343) rfl) rfl
set_option maxRecDepth 100000 in
theorem qk_344 : (.code qy_T_firstOf prog_6_method_6_code 2 (some FieldType.int) : Cond) ∈ qtb := qw_in (List.mem_of_getElem? (i := 344) rfl) rfl
set_option maxRecDepth 100000 in
theorem qk_345 : (.methodLink "CaptureSubtypes$Shapes" 85 qy_T_argumentOf : Cond) ∈ qtb := qw_in (List.mem_of_getElem? (i := 345) rfl) rfl
set_option maxRecDepth 100000 in
theorem qk_346 : (.instanceMethod qy_T_argumentOf : Cond) ∈ qtb := qw_in (List.mem_of_getElem? (i := 346) rfl) rfl
set_option maxRecDepth 100000 in
theorem qk_347 : (.selects "CaptureSubtypes$Types" qy_T_argumentOf qy_T_argumentOf : Cond) ∈ qtb := qw_in (List.mem_of_getElem? (i := 347) rfl) rfl
set_option maxRecDepth 100000 in
theorem qk_348 : (.code qy_T_argumentOf prog_6_method_11_code 3 (some FieldType.int) : Cond) ∈ qtb := qw_in (List.mem_of_getElem? (i := 348) rfl) rfl
set_option maxRecDepth 100000 in
theorem qk_349 : (.methodLink "CaptureSubtypes$Shapes" 75 qy_T_secondOf : Cond) ∈ qtb := qw_in (List.mem_of_getElem? (i := 349) rfl) rfl
set_option maxRecDepth 100000 in
theorem qk_350 : (.instanceMethod qy_T_secondOf : Cond) ∈ qtb := qw_in (List.mem_of_getElem? (i := 350) rfl) rfl
set_option maxRecDepth 100000 in
theorem qk_351 : (.selects "CaptureSubtypes$Types" qy_T_secondOf qy_T_secondOf : Cond) ∈ qtb := qw_in (List.mem_of_getElem? (i := 351) rfl) rfl
set_option maxRecDepth 100000 in
theorem qk_352 : (.code qy_T_secondOf prog_6_method_7_code 2 (some FieldType.int) : Cond) ∈ qtb := qw_in (List.mem_of_getElem? (i := 352) rfl) rfl
set_option maxRecDepth 100000 in
theorem qk_353 : (.methodLink "CaptureSubtypes$Shapes" 124 qy_T_dropTo : Cond) ∈ qtb := qw_in (List.mem_of_getElem? (i := 353) rfl) rfl
set_option maxRecDepth 100000 in
theorem qk_354 : (.instanceMethod qy_T_dropTo : Cond) ∈ qtb := qw_in (List.mem_of_getElem? (i := 354) rfl) rfl
set_option maxRecDepth 100000 in
theorem qk_355 : (.selects "CaptureSubtypes$Types" qy_T_dropTo qy_T_dropTo : Cond) ∈ qtb := qw_in (List.mem_of_getElem? (i := 355) rfl) rfl
set_option maxRecDepth 100000 in
theorem qk_356 : (.code qy_T_dropTo prog_6_method_23_code 2 none : Cond) ∈ qtb := qw_in (List.mem_of_getElem? (i := 356) rfl) rfl
set_option maxRecDepth 100000 in
theorem qk_357 : (.methodLink "CaptureSubtypes" 87 qy_K_putInCount : Cond) ∈ qtb := qw_in (List.mem_of_getElem? (i := 357) rfl) rfl
set_option maxRecDepth 100000 in
theorem qk_358 : (.instanceMethod qy_K_putInCount : Cond) ∈ qtb := qw_in (List.mem_of_getElem? (i := 358) rfl) rfl
set_option maxRecDepth 100000 in
theorem qk_359 : (.selects "CaptureSubtypes$Classes" qy_K_putInCount qy_K_putInCount : Cond) ∈ qtb := qw_in (List.mem_of_getElem? (i := 359) rfl) rfl
set_option maxRecDepth 100000 in
theorem qk_360 : (.code qy_K_putInCount prog_2_method_18_code 4 (some FieldType.int) : Cond) ∈ qtb := qw_in (List.mem_of_getElem? (i := 360) rfl) rfl
set_option maxRecDepth 100000 in
theorem qk_361 : (.methodLink "CaptureSubtypesLaw" 27 qy_X_bind : Cond) ∈ qtb := qw_in (List.mem_of_getElem? (i := 361) rfl) rfl
set_option maxRecDepth 100000 in
theorem qk_362 : (.instanceMethod qy_X_bind : Cond) ∈ qtb := qw_in (List.mem_of_getElem? (i := 362) rfl) rfl
set_option maxRecDepth 100000 in
theorem qk_363 : (.selects "CaptureSubtypes" qy_X_bind qy_X_bind : Cond) ∈ qtb := qw_in (List.mem_of_getElem? (i := 363) rfl) rfl
set_option maxRecDepth 100000 in
theorem qk_364 : (.code qy_X_bind prog_1_method_5_code 4 (some FieldType.int) : Cond) ∈ qtb := qw_in (List.mem_of_getElem? (i := 364) rfl) rfl
set_option maxRecDepth 100000 in
theorem qk_365 : (.methodLink "CaptureSubtypes" 90 qy_K_hasParameter : Cond) ∈ qtb := qw_in (List.mem_of_getElem? (i := 365) rfl) rfl
set_option maxRecDepth 100000 in
theorem qk_366 : (.instanceMethod qy_K_hasParameter : Cond) ∈ qtb := qw_in (List.mem_of_getElem? (i := 366) rfl) rfl
set_option maxRecDepth 100000 in
theorem qk_367 : (.selects "CaptureSubtypes$Classes" qy_K_hasParameter qy_K_hasParameter : Cond) ∈ qtb := qw_in (List.mem_of_getElem? (i := 367) rfl) rfl
set_option maxRecDepth 100000 in
theorem qk_368 : (.code qy_K_hasParameter prog_2_method_9_code 3 (some FieldType.boolean) : Cond) ∈ qtb := qw_in (List.mem_of_getElem? (i := 368) rfl) rfl
set_option maxRecDepth 100000 in
theorem qk_369 : (.methodLink "CaptureSubtypes" 93 qy_X_mayBeBound : Cond) ∈ qtb := qw_in (List.mem_of_getElem? (i := 369) rfl) rfl
set_option maxRecDepth 100000 in
theorem qk_371 : (.instanceMethod qy_X_mayBeBound : Cond) ∈ qtb := qw_in (List.mem_of_getElem? (i := 371) rfl) rfl
set_option maxRecDepth 100000 in
theorem qk_372 : (.code qy_X_mayBeBound prog_1_method_23_code 5 (some FieldType.boolean) : Cond) ∈ qtb := qw_in (List.mem_of_getElem? (i := 372) rfl) rfl
set_option maxRecDepth 100000 in
theorem qk_373 : (.methodLink "CaptureSubtypes" 189 qy_K_boundCount : Cond) ∈ qtb := qw_in (List.mem_of_getElem? (i := 373) rfl) rfl
set_option maxRecDepth 100000 in
theorem qk_374 : (.instanceMethod qy_K_boundCount : Cond) ∈ qtb := qw_in (List.mem_of_getElem? (i := 374) rfl) rfl
set_option maxRecDepth 100000 in
theorem qk_375 : (.selects "CaptureSubtypes$Classes" qy_K_boundCount qy_K_boundCount : Cond) ∈ qtb := qw_in (List.mem_of_getElem? (i := 375) rfl) rfl
set_option maxRecDepth 100000 in
theorem qk_376 : (.code qy_K_boundCount prog_2_method_22_code 4 (some FieldType.int) : Cond) ∈ qtb := qw_in (List.mem_of_getElem? (i := 376) rfl) rfl
set_option maxRecDepth 100000 in
theorem qk_377 : (.methodLink "CaptureSubtypes" 118 qy_T_sortOf : Cond) ∈ qtb := qw_in (List.mem_of_getElem? (i := 377) rfl) rfl
set_option maxRecDepth 100000 in
theorem qk_378 : (.methodLink "CaptureSubtypes" 128 qy_T_firstOf : Cond) ∈ qtb := qw_in (List.mem_of_getElem? (i := 378) rfl) rfl
set_option maxRecDepth 100000 in
theorem qk_379 : (.methodLink "CaptureSubtypes" 97 qy_K_addBound : Cond) ∈ qtb := qw_in (List.mem_of_getElem? (i := 379) rfl) rfl
set_option maxRecDepth 100000 in
theorem qk_380 : (.instanceMethod qy_K_addBound : Cond) ∈ qtb := qw_in (List.mem_of_getElem? (i := 380) rfl) rfl
set_option maxRecDepth 100000 in
theorem qk_381 : (.selects "CaptureSubtypes$Classes" qy_K_addBound qy_K_addBound : Cond) ∈ qtb := qw_in (List.mem_of_getElem? (i := 381) rfl) rfl
set_option maxRecDepth 100000 in
theorem qk_382 : (.code qy_K_addBound prog_2_method_24_code 5 (some FieldType.int) : Cond) ∈ qtb := qw_in (List.mem_of_getElem? (i := 382) rfl) rfl
set_option maxRecDepth 100000 in
theorem qk_383 : (.methodLink "CaptureSubtypes$Classes" 71 qy_K_boundCount : Cond) ∈ qtb := qw_in (List.mem_of_getElem? (i := 383) rfl) rfl
set_option maxRecDepth 100000 in
theorem qk_384 : (.methodLink "CaptureSubtypes$Classes" 74 qy_K_hasParameter : Cond) ∈ qtb := qw_in (List.mem_of_getElem? (i := 384) rfl) rfl
set_option maxRecDepth 100000 in
theorem qk_385 : (.methodLink "CaptureSubtypesLaw" 32 qy_X_plain : Cond) ∈ qtb := qw_in (List.mem_of_getElem? (i := 385) rfl) rfl
set_option maxRecDepth 100000 in
theorem qk_386 : (.instanceMethod qy_X_plain : Cond) ∈ qtb := qw_in (List.mem_of_getElem? (i := 386) rfl) rfl
set_option maxRecDepth 100000 in
theorem qk_387 : (.selects "CaptureSubtypes" qy_X_plain qy_X_plain : Cond) ∈ qtb := qw_in (List.mem_of_getElem? (i := 387) rfl) rfl
set_option maxRecDepth 100000 in
theorem qk_388 : (.code qy_X_plain prog_1_method_6_code 2 (some FieldType.int) : Cond) ∈ qtb := qw_in (List.mem_of_getElem? (i := 388) rfl) rfl
set_option maxRecDepth 100000 in
theorem qk_389 : (.methodLink "CaptureSubtypes" 105 qy_K_nameSort : Cond) ∈ qtb := qw_in (List.mem_of_getElem? (i := 389) rfl) rfl
set_option maxRecDepth 100000 in
theorem qk_390 : (.methodLink "CaptureSubtypes" 108 qy_T_keep : Cond) ∈ qtb := qw_in (List.mem_of_getElem? (i := 390) rfl) rfl
set_option maxRecDepth 100000 in
theorem qk_391 : (.methodLink "CaptureSubtypesLaw" 37 qy_X_of : Cond) ∈ qtb := qw_in (List.mem_of_getElem? (i := 391) rfl) rfl
set_option maxRecDepth 100000 in
theorem qk_392 : (.instanceMethod qy_X_of : Cond) ∈ qtb := qw_in (List.mem_of_getElem? (i := 392) rfl) rfl
set_option maxRecDepth 100000 in
theorem qk_393 : (.selects "CaptureSubtypes" qy_X_of qy_X_of : Cond) ∈ qtb := qw_in (List.mem_of_getElem? (i := 393) rfl) rfl
set_option maxRecDepth 100000 in
theorem qk_394 : (.code qy_X_of prog_1_method_7_code 5 (some FieldType.int) : Cond) ∈ qtb := qw_in (List.mem_of_getElem? (i := 394) rfl) rfl
set_option maxRecDepth 100000 in
theorem qk_395 : (.methodLink "CaptureSubtypes" 112 qy_K_parametersOf : Cond) ∈ qtb := qw_in (List.mem_of_getElem? (i := 395) rfl) rfl
set_option maxRecDepth 100000 in
theorem qk_396 : (.instanceMethod qy_K_parametersOf : Cond) ∈ qtb := qw_in (List.mem_of_getElem? (i := 396) rfl) rfl
set_option maxRecDepth 100000 in
theorem qk_397 : (.selects "CaptureSubtypes$Classes" qy_K_parametersOf qy_K_parametersOf : Cond) ∈ qtb := qw_in (List.mem_of_getElem? (i := 397) rfl) rfl
set_option maxRecDepth 100000 in
theorem qk_398 : (.code qy_K_parametersOf prog_2_method_8_code 2 (some FieldType.int) : Cond) ∈ qtb := qw_in (List.mem_of_getElem? (i := 398) rfl) rfl
set_option maxRecDepth 100000 in
theorem qk_399 : (.methodLink "CaptureSubtypes" 115 qy_T_mayBeArgument : Cond) ∈ qtb := qw_in (List.mem_of_getElem? (i := 399) rfl) rfl
set_option maxRecDepth 100000 in
theorem qk_400 : (.instanceMethod qy_T_mayBeArgument : Cond) ∈ qtb := qw_in (List.mem_of_getElem? (i := 400) rfl) rfl
set_option maxRecDepth 100000 in
theorem qk_401 : (.selects "CaptureSubtypes$Types" qy_T_mayBeArgument qy_T_mayBeArgument : Cond) ∈ qtb := qw_in (List.mem_of_getElem? (i := 401) rfl) rfl
set_option maxRecDepth 100000 in
theorem qk_402 : (.code qy_T_mayBeArgument prog_6_method_13_code 2 (some FieldType.boolean) : Cond) ∈ qtb := qw_in (List.mem_of_getElem? (i := 402) rfl) rfl
set_option maxRecDepth 100000 in
theorem qk_403 : (.methodLink "CaptureSubtypesLaw" 41 qy_X_wild : Cond) ∈ qtb := qw_in (List.mem_of_getElem? (i := 403) rfl) rfl
set_option maxRecDepth 100000 in
theorem qk_404 : (.instanceMethod qy_X_wild : Cond) ∈ qtb := qw_in (List.mem_of_getElem? (i := 404) rfl) rfl
set_option maxRecDepth 100000 in
theorem qk_405 : (.selects "CaptureSubtypes" qy_X_wild qy_X_wild : Cond) ∈ qtb := qw_in (List.mem_of_getElem? (i := 405) rfl) rfl
set_option maxRecDepth 100000 in
theorem qk_406 : (.code qy_X_wild prog_1_method_8_code 3 (some FieldType.int) : Cond) ∈ qtb := qw_in (List.mem_of_getElem? (i := 406) rfl) rfl
set_option maxRecDepth 100000 in
theorem qk_407 : (.methodLink "CaptureSubtypesLaw" 45 qy_X_variable : Cond) ∈ qtb := qw_in (List.mem_of_getElem? (i := 407) rfl) rfl
set_option maxRecDepth 100000 in
theorem qk_408 : (.instanceMethod qy_X_variable : Cond) ∈ qtb := qw_in (List.mem_of_getElem? (i := 408) rfl) rfl
set_option maxRecDepth 100000 in
theorem qk_409 : (.selects "CaptureSubtypes" qy_X_variable qy_X_variable : Cond) ∈ qtb := qw_in (List.mem_of_getElem? (i := 409) rfl) rfl
set_option maxRecDepth 100000 in
theorem qk_410 : (.code qy_X_variable prog_1_method_9_code 3 (some FieldType.int) : Cond) ∈ qtb := qw_in (List.mem_of_getElem? (i := 410) rfl) rfl
set_option maxRecDepth 100000 in
theorem qk_411 : (.methodLink "CaptureSubtypesLaw" 49 qy_X_row : Cond) ∈ qtb := qw_in (List.mem_of_getElem? (i := 411) rfl) rfl
set_option maxRecDepth 100000 in
theorem qk_412 : (.instanceMethod qy_X_row : Cond) ∈ qtb := qw_in (List.mem_of_getElem? (i := 412) rfl) rfl
set_option maxRecDepth 100000 in
theorem qk_413 : (.selects "CaptureSubtypes" qy_X_row qy_X_row : Cond) ∈ qtb := qw_in (List.mem_of_getElem? (i := 413) rfl) rfl
set_option maxRecDepth 100000 in
theorem qk_414 : (.code qy_X_row prog_1_method_10_code 2 (some FieldType.int) : Cond) ∈ qtb := qw_in (List.mem_of_getElem? (i := 414) rfl) rfl
set_option maxRecDepth 100000 in
theorem qk_415 : (.methodLink "CaptureSubtypes" 121 qy_T_standsAlone : Cond) ∈ qtb := qw_in (List.mem_of_getElem? (i := 415) rfl) rfl
set_option maxRecDepth 100000 in
theorem qk_416 : (.instanceMethod qy_T_standsAlone : Cond) ∈ qtb := qw_in (List.mem_of_getElem? (i := 416) rfl) rfl
set_option maxRecDepth 100000 in
theorem qk_417 : (.selects "CaptureSubtypes$Types" qy_T_standsAlone qy_T_standsAlone : Cond) ∈ qtb := qw_in (List.mem_of_getElem? (i := 417) rfl) rfl
set_option maxRecDepth 100000 in
theorem qk_418 : (.code qy_T_standsAlone prog_6_method_12_code 2 (some FieldType.boolean) : Cond) ∈ qtb := qw_in (List.mem_of_getElem? (i := 418) rfl) rfl
set_option maxRecDepth 100000 in
theorem qk_419 : (.methodLink "CaptureSubtypesLaw" 53 qy_X_count : Cond) ∈ qtb := qw_in (List.mem_of_getElem? (i := 419) rfl) rfl
set_option maxRecDepth 100000 in
theorem qk_420 : (.instanceMethod qy_X_count : Cond) ∈ qtb := qw_in (List.mem_of_getElem? (i := 420) rfl) rfl
set_option maxRecDepth 100000 in
theorem qk_421 : (.selects "CaptureSubtypes" qy_X_count qy_X_count : Cond) ∈ qtb := qw_in (List.mem_of_getElem? (i := 421) rfl) rfl
set_option maxRecDepth 100000 in
theorem qk_422 : (.code qy_X_count prog_1_method_11_code 2 (some FieldType.int) : Cond) ∈ qtb := qw_in (List.mem_of_getElem? (i := 422) rfl) rfl
set_option maxRecDepth 100000 in
theorem qk_423 : (.methodLink "CaptureSubtypesLaw" 57 qy_X_told : Cond) ∈ qtb := qw_in (List.mem_of_getElem? (i := 423) rfl) rfl
set_option maxRecDepth 100000 in
theorem qk_424 : (.instanceMethod qy_X_told : Cond) ∈ qtb := qw_in (List.mem_of_getElem? (i := 424) rfl) rfl
set_option maxRecDepth 100000 in
theorem qk_425 : (.selects "CaptureSubtypes" qy_X_told qy_X_told : Cond) ∈ qtb := qw_in (List.mem_of_getElem? (i := 425) rfl) rfl
set_option maxRecDepth 100000 in
theorem qk_426 : (.code qy_X_told prog_1_method_12_code 3 (some FieldType.int) : Cond) ∈ qtb := qw_in (List.mem_of_getElem? (i := 426) rfl) rfl
set_option maxRecDepth 100000 in
theorem qk_427 : (.methodLink "CaptureSubtypes" 131 qy_T_secondOf : Cond) ∈ qtb := qw_in (List.mem_of_getElem? (i := 427) rfl) rfl
set_option maxRecDepth 100000 in
theorem qk_428 : (.methodLink "CaptureSubtypes" 134 qy_T_depthOf : Cond) ∈ qtb := qw_in (List.mem_of_getElem? (i := 428) rfl) rfl
set_option maxRecDepth 100000 in
theorem qk_429 : (.instanceMethod qy_T_depthOf : Cond) ∈ qtb := qw_in (List.mem_of_getElem? (i := 429) rfl) rfl
set_option maxRecDepth 100000 in
theorem qk_430 : (.selects "CaptureSubtypes$Types" qy_T_depthOf qy_T_depthOf : Cond) ∈ qtb := qw_in (List.mem_of_getElem? (i := 430) rfl) rfl
set_option maxRecDepth 100000 in
theorem qk_431 : (.code qy_T_depthOf prog_6_method_8_code 2 (some FieldType.int) : Cond) ∈ qtb := qw_in (List.mem_of_getElem? (i := 431) rfl) rfl
set_option maxRecDepth 100000 in
theorem qk_432 : (.methodLink "CaptureSubtypesLaw" 61 qy_X_known : Cond) ∈ qtb := qw_in (List.mem_of_getElem? (i := 432) rfl) rfl
set_option maxRecDepth 100000 in
theorem qk_433 : (.instanceMethod qy_X_known : Cond) ∈ qtb := qw_in (List.mem_of_getElem? (i := 433) rfl) rfl
set_option maxRecDepth 100000 in
theorem qk_434 : (.selects "CaptureSubtypes" qy_X_known qy_X_known : Cond) ∈ qtb := qw_in (List.mem_of_getElem? (i := 434) rfl) rfl
set_option maxRecDepth 100000 in
theorem qk_435 : (.code qy_X_known prog_1_method_13_code 3 (some FieldType.int) : Cond) ∈ qtb := qw_in (List.mem_of_getElem? (i := 435) rfl) rfl
set_option maxRecDepth 100000 in
theorem qk_436 : (.methodLink "CaptureSubtypes" 140 qy_K_heirCount : Cond) ∈ qtb := qw_in (List.mem_of_getElem? (i := 436) rfl) rfl
set_option maxRecDepth 100000 in
theorem qk_437 : (.instanceMethod qy_K_heirCount : Cond) ∈ qtb := qw_in (List.mem_of_getElem? (i := 437) rfl) rfl
set_option maxRecDepth 100000 in
theorem qk_438 : (.selects "CaptureSubtypes$Classes" qy_K_heirCount qy_K_heirCount : Cond) ∈ qtb := qw_in (List.mem_of_getElem? (i := 438) rfl) rfl
set_option maxRecDepth 100000 in
theorem qk_439 : (.code qy_K_heirCount prog_2_method_20_code 4 (some FieldType.int) : Cond) ∈ qtb := qw_in (List.mem_of_getElem? (i := 439) rfl) rfl
set_option maxRecDepth 100000 in
theorem qk_440 : (.methodLink "CaptureSubtypes" 143 qy_K_underCount : Cond) ∈ qtb := qw_in (List.mem_of_getElem? (i := 440) rfl) rfl
set_option maxRecDepth 100000 in
theorem qk_441 : (.instanceMethod qy_K_underCount : Cond) ∈ qtb := qw_in (List.mem_of_getElem? (i := 441) rfl) rfl
set_option maxRecDepth 100000 in
theorem qk_442 : (.selects "CaptureSubtypes$Classes" qy_K_underCount qy_K_underCount : Cond) ∈ qtb := qw_in (List.mem_of_getElem? (i := 442) rfl) rfl
set_option maxRecDepth 100000 in
theorem qk_443 : (.code qy_K_underCount prog_2_method_21_code 4 (some FieldType.int) : Cond) ∈ qtb := qw_in (List.mem_of_getElem? (i := 443) rfl) rfl
set_option maxRecDepth 100000 in
theorem qk_444 : (.methodLink "CaptureSubtypesLaw" 65 qy_X_below : Cond) ∈ qtb := qw_in (List.mem_of_getElem? (i := 444) rfl) rfl
set_option maxRecDepth 100000 in
theorem qk_445 : (.instanceMethod qy_X_below : Cond) ∈ qtb := qw_in (List.mem_of_getElem? (i := 445) rfl) rfl
set_option maxRecDepth 100000 in
theorem qk_446 : (.selects "CaptureSubtypes" qy_X_below qy_X_below : Cond) ∈ qtb := qw_in (List.mem_of_getElem? (i := 446) rfl) rfl
set_option maxRecDepth 100000 in
theorem qk_447 : (.code qy_X_below prog_1_method_14_code 3 (some FieldType.int) : Cond) ∈ qtb := qw_in (List.mem_of_getElem? (i := 447) rfl) rfl
set_option maxRecDepth 100000 in
theorem qk_448 : (.methodLink "CaptureSubtypes" 146 qy_K_isUnder : Cond) ∈ qtb := qw_in (List.mem_of_getElem? (i := 448) rfl) rfl
set_option maxRecDepth 100000 in
theorem qk_449 : (.methodLink "CaptureSubtypesLaw" 69 qy_X_apart : Cond) ∈ qtb := qw_in (List.mem_of_getElem? (i := 449) rfl) rfl
set_option maxRecDepth 100000 in
theorem qk_450 : (.instanceMethod qy_X_apart : Cond) ∈ qtb := qw_in (List.mem_of_getElem? (i := 450) rfl) rfl
set_option maxRecDepth 100000 in
theorem qk_451 : (.selects "CaptureSubtypes" qy_X_apart qy_X_apart : Cond) ∈ qtb := qw_in (List.mem_of_getElem? (i := 451) rfl) rfl
set_option maxRecDepth 100000 in
theorem qk_452 : (.code qy_X_apart prog_1_method_15_code 3 (some FieldType.int) : Cond) ∈ qtb := qw_in (List.mem_of_getElem? (i := 452) rfl) rfl
set_option maxRecDepth 100000 in
theorem qk_453 : (.methodLink "CaptureSubtypes" 149 qy_K_areApart : Cond) ∈ qtb := qw_in (List.mem_of_getElem? (i := 453) rfl) rfl
set_option maxRecDepth 100000 in
theorem qk_454 : (.methodLink "CaptureSubtypesLaw" 73 qy_X_is : Cond) ∈ qtb := qw_in (List.mem_of_getElem? (i := 454) rfl) rfl
set_option maxRecDepth 100000 in
theorem qk_455 : (.instanceMethod qy_X_is : Cond) ∈ qtb := qw_in (List.mem_of_getElem? (i := 455) rfl) rfl
set_option maxRecDepth 100000 in
theorem qk_456 : (.selects "CaptureSubtypes" qy_X_is qy_X_is : Cond) ∈ qtb := qw_in (List.mem_of_getElem? (i := 456) rfl) rfl
set_option maxRecDepth 100000 in
theorem qk_457 : (.code qy_X_is prog_1_method_16_code 4 (some FieldType.int) : Cond) ∈ qtb := qw_in (List.mem_of_getElem? (i := 457) rfl) rfl
set_option maxRecDepth 100000 in
theorem qk_460 : (.instanceMethod qy_O_isOne : Cond) ∈ qtb := qw_in (List.mem_of_getElem? (i := 460) rfl) rfl
set_option maxRecDepth 100000 in
theorem qk_461 : (.code qy_O_isOne prog_3_method_2_code 6 (some FieldType.boolean) : Cond) ∈ qtb := qw_in (List.mem_of_getElem? (i := 461) rfl) rfl
set_option maxRecDepth 100000 in
theorem qk_462 : (.methodLink "CaptureSubtypes$Order" 23 qy_T_mark : Cond) ∈ qtb := qw_in (List.mem_of_getElem? (i := 462) rfl) rfl
set_option maxRecDepth 100000 in
theorem qk_463 : (.methodLink "CaptureSubtypes$Order" 29 qy_O_isByParts : Cond) ∈ qtb := qw_in (List.mem_of_getElem? (i := 463) rfl) rfl
set_option maxRecDepth 100000 in
theorem qk_465 : (.instanceMethod qy_O_isByParts : Cond) ∈ qtb := qw_in (List.mem_of_getElem? (i := 465) rfl) rfl
set_option maxRecDepth 100000 in
theorem qk_466 : (.code qy_O_isByParts prog_3_method_3_code 4 (some FieldType.boolean) : Cond) ∈ qtb := qw_in (List.mem_of_getElem? (i := 466) rfl) rfl
set_option maxRecDepth 100000 in
theorem qk_467 : (.methodLink "CaptureSubtypes$Order" 37 qy_T_isVariable : Cond) ∈ qtb := qw_in (List.mem_of_getElem? (i := 467) rfl) rfl
set_option maxRecDepth 100000 in
theorem qk_468 : (.instanceMethod qy_T_isVariable : Cond) ∈ qtb := qw_in (List.mem_of_getElem? (i := 468) rfl) rfl
set_option maxRecDepth 100000 in
theorem qk_469 : (.selects "CaptureSubtypes$Types" qy_T_isVariable qy_T_isVariable : Cond) ∈ qtb := qw_in (List.mem_of_getElem? (i := 469) rfl) rfl
set_option maxRecDepth 100000 in
theorem qk_470 : (.code qy_T_isVariable prog_6_method_15_code 3 (some FieldType.boolean) : Cond) ∈ qtb := qw_in (List.mem_of_getElem? (i := 470) rfl) rfl
set_option maxRecDepth 100000 in
theorem qk_471 : (.methodLink "CaptureSubtypes$Order" 41 qy_O_someBoundIs : Cond) ∈ qtb := qw_in (List.mem_of_getElem? (i := 471) rfl) rfl
set_option maxRecDepth 100000 in
theorem qk_473 : (.instanceMethod qy_O_someBoundIs : Cond) ∈ qtb := qw_in (List.mem_of_getElem? (i := 473) rfl) rfl
set_option maxRecDepth 100000 in
theorem qk_474 : (.code qy_O_someBoundIs prog_3_method_4_code 6 (some FieldType.boolean) : Cond) ∈ qtb := qw_in (List.mem_of_getElem? (i := 474) rfl) rfl
set_option maxRecDepth 100000 in
theorem qk_475 : (.methodLink "CaptureSubtypes$Order" 63 qy_S_boundCountOf : Cond) ∈ qtb := qw_in (List.mem_of_getElem? (i := 475) rfl) rfl
set_option maxRecDepth 100000 in
theorem qk_476 : (.instanceMethod qy_S_boundCountOf : Cond) ∈ qtb := qw_in (List.mem_of_getElem? (i := 476) rfl) rfl
set_option maxRecDepth 100000 in
theorem qk_477 : (.selects "CaptureSubtypes$Shapes" qy_S_boundCountOf qy_S_boundCountOf : Cond) ∈ qtb := qw_in (List.mem_of_getElem? (i := 477) rfl) rfl
set_option maxRecDepth 100000 in
theorem qk_478 : (.code qy_S_boundCountOf prog_4_method_5_code 3 (some FieldType.int) : Cond) ∈ qtb := qw_in (List.mem_of_getElem? (i := 478) rfl) rfl
set_option maxRecDepth 100000 in
theorem qk_479 : (.methodLink "CaptureSubtypes$Shapes" 60 qy_K_boundCount : Cond) ∈ qtb := qw_in (List.mem_of_getElem? (i := 479) rfl) rfl
set_option maxRecDepth 100000 in
theorem qk_480 : (.methodLink "CaptureSubtypes$Shapes" 63 Lib.Math.max.name : Cond) ∈ qtb := qw_in (List.mem_of_getElem? (i := 480) rfl) rfl
set_option maxRecDepth 100000 in
theorem qk_481 : (.methodLink "CaptureSubtypes$Shapes" 68 qy_T_upOf : Cond) ∈ qtb := qw_in (List.mem_of_getElem? (i := 481) rfl) rfl
set_option maxRecDepth 100000 in
theorem qk_482 : (.instanceMethod qy_T_upOf : Cond) ∈ qtb := qw_in (List.mem_of_getElem? (i := 482) rfl) rfl
set_option maxRecDepth 100000 in
theorem qk_483 : (.selects "CaptureSubtypes$Types" qy_T_upOf qy_T_upOf : Cond) ∈ qtb := qw_in (List.mem_of_getElem? (i := 483) rfl) rfl
set_option maxRecDepth 100000 in
theorem qk_484 : (.code qy_T_upOf prog_6_method_9_code 2 (some FieldType.int) : Cond) ∈ qtb := qw_in (List.mem_of_getElem? (i := 484) rfl) rfl
set_option maxRecDepth 100000 in
theorem qk_485 : (.methodLink "CaptureSubtypes$Order" 68 qy_S_boundOf : Cond) ∈ qtb := qw_in (List.mem_of_getElem? (i := 485) rfl) rfl
set_option maxRecDepth 100000 in
theorem qk_486 : (.instanceMethod qy_S_boundOf : Cond) ∈ qtb := qw_in (List.mem_of_getElem? (i := 486) rfl) rfl
set_option maxRecDepth 100000 in
theorem qk_487 : (.selects "CaptureSubtypes$Shapes" qy_S_boundOf qy_S_boundOf : Cond) ∈ qtb := qw_in (List.mem_of_getElem? (i := 487) rfl) rfl
set_option maxRecDepth 100000 in
theorem qk_488 : (.code qy_S_boundOf prog_4_method_6_code 5 (some FieldType.int) : Cond) ∈ qtb := qw_in (List.mem_of_getElem? (i := 488) rfl) rfl
set_option maxRecDepth 100000 in
theorem qk_489 : (.methodLink "CaptureSubtypes$Shapes" 71 qy_K_boundAt : Cond) ∈ qtb := qw_in (List.mem_of_getElem? (i := 489) rfl) rfl
set_option maxRecDepth 100000 in
theorem qk_490 : (.instanceMethod qy_K_boundAt : Cond) ∈ qtb := qw_in (List.mem_of_getElem? (i := 490) rfl) rfl
set_option maxRecDepth 100000 in
theorem qk_491 : (.selects "CaptureSubtypes$Classes" qy_K_boundAt qy_K_boundAt : Cond) ∈ qtb := qw_in (List.mem_of_getElem? (i := 491) rfl) rfl
set_option maxRecDepth 100000 in
theorem qk_492 : (.code qy_K_boundAt prog_2_method_23_code 4 (some FieldType.int) : Cond) ∈ qtb := qw_in (List.mem_of_getElem? (i := 492) rfl) rfl
set_option maxRecDepth 100000 in
theorem qk_493 : (.methodLink "CaptureSubtypes$Order" 48 qy_O_isOne : Cond) ∈ qtb := qw_in (List.mem_of_getElem? (i := 493) rfl) rfl
set_option maxRecDepth 100000 in
theorem qk_494 : (.methodLink "CaptureSubtypes$Order" 44 qy_T_lowOf : Cond) ∈ qtb := qw_in (List.mem_of_getElem? (i := 494) rfl) rfl
set_option maxRecDepth 100000 in
theorem qk_495 : (.instanceMethod qy_T_lowOf : Cond) ∈ qtb := qw_in (List.mem_of_getElem? (i := 495) rfl) rfl
set_option maxRecDepth 100000 in
theorem qk_496 : (.selects "CaptureSubtypes$Types" qy_T_lowOf qy_T_lowOf : Cond) ∈ qtb := qw_in (List.mem_of_getElem? (i := 496) rfl) rfl
set_option maxRecDepth 100000 in
theorem qk_497 : (.code qy_T_lowOf prog_6_method_10_code 2 (some FieldType.int) : Cond) ∈ qtb := qw_in (List.mem_of_getElem? (i := 497) rfl) rfl
set_option maxRecDepth 100000 in
theorem qk_498 : (.methodLink "CaptureSubtypes$Order" 51 qy_T_sortOf : Cond) ∈ qtb := qw_in (List.mem_of_getElem? (i := 498) rfl) rfl
set_option maxRecDepth 100000 in
theorem qk_499 : (.methodLink "CaptureSubtypes$Order" 54 qy_T_firstOf : Cond) ∈ qtb := qw_in (List.mem_of_getElem? (i := 499) rfl) rfl
set_option maxRecDepth 100000 in
theorem qk_500 : (.methodLink "CaptureSubtypes$Order" 57 qy_T_isOfClass : Cond) ∈ qtb := qw_in (List.mem_of_getElem? (i := 500) rfl) rfl
set_option maxRecDepth 100000 in
theorem qk_501 : (.methodLink "CaptureSubtypes$Order" 60 qy_O_isByClass : Cond) ∈ qtb := qw_in (List.mem_of_getElem? (i := 501) rfl) rfl
set_option maxRecDepth 100000 in
theorem qk_503 : (.instanceMethod qy_O_isByClass : Cond) ∈ qtb := qw_in (List.mem_of_getElem? (i := 503) rfl) rfl
set_option maxRecDepth 100000 in
theorem qk_504 : (.code qy_O_isByClass prog_3_method_5_code 6 (some FieldType.boolean) : Cond) ∈ qtb := qw_in (List.mem_of_getElem? (i := 504) rfl) rfl
set_option maxRecDepth 100000 in
theorem qk_505 : (.methodLink "CaptureSubtypes$Order" 72 qy_T_ownerOf : Cond) ∈ qtb := qw_in (List.mem_of_getElem? (i := 505) rfl) rfl
set_option maxRecDepth 100000 in
theorem qk_506 : (.methodLink "CaptureSubtypes$Order" 75 qy_K_isUnder : Cond) ∈ qtb := qw_in (List.mem_of_getElem? (i := 506) rfl) rfl
set_option maxRecDepth 100000 in
theorem qk_507 : (.methodLink "CaptureSubtypes$Order" 81 qy_S_caught : Cond) ∈ qtb := qw_in (List.mem_of_getElem? (i := 507) rfl) rfl
set_option maxRecDepth 100000 in
theorem qk_508 : (.instanceMethod qy_S_caught : Cond) ∈ qtb := qw_in (List.mem_of_getElem? (i := 508) rfl) rfl
set_option maxRecDepth 100000 in
theorem qk_509 : (.selects "CaptureSubtypes$Shapes" qy_S_caught qy_S_caught : Cond) ∈ qtb := qw_in (List.mem_of_getElem? (i := 509) rfl) rfl
set_option maxRecDepth 100000 in
theorem qk_510 : (.code qy_S_caught prog_4_method_8_code 7 (some FieldType.int) : Cond) ∈ qtb := qw_in (List.mem_of_getElem? (i := 510) rfl) rfl
set_option maxRecDepth 100000 in
theorem qk_511 : (.methodLink "CaptureSubtypes$Shapes" 88 qy_T_hasWildArgument : Cond) ∈ qtb := qw_in (List.mem_of_getElem? (i := 511) rfl) rfl
set_option maxRecDepth 100000 in
theorem qk_512 : (.instanceMethod qy_T_hasWildArgument : Cond) ∈ qtb := qw_in (List.mem_of_getElem? (i := 512) rfl) rfl
set_option maxRecDepth 100000 in
theorem qk_513 : (.selects "CaptureSubtypes$Types" qy_T_hasWildArgument qy_T_hasWildArgument : Cond) ∈ qtb := qw_in (List.mem_of_getElem? (i := 513) rfl) rfl
set_option maxRecDepth 100000 in
theorem qk_514 : (.code qy_T_hasWildArgument prog_6_method_16_code 2 (some FieldType.boolean) : Cond) ∈ qtb := qw_in (List.mem_of_getElem? (i := 514) rfl) rfl
set_option maxRecDepth 100000 in
theorem qk_515 : (.methodLink "CaptureSubtypes$Types" 56 qy_T_firstOf : Cond) ∈ qtb := qw_in (List.mem_of_getElem? (i := 515) rfl) rfl
set_option maxRecDepth 100000 in
theorem qk_516 : (.methodLink "CaptureSubtypes$Types" 59 qy_T_secondOf : Cond) ∈ qtb := qw_in (List.mem_of_getElem? (i := 516) rfl) rfl
set_option maxRecDepth 100000 in
theorem qk_517 : (.methodLink "CaptureSubtypes$Shapes" 91 qy_T_hold : Cond) ∈ qtb := qw_in (List.mem_of_getElem? (i := 517) rfl) rfl
set_option maxRecDepth 100000 in
theorem qk_518 : (.instanceMethod qy_T_hold : Cond) ∈ qtb := qw_in (List.mem_of_getElem? (i := 518) rfl) rfl
set_option maxRecDepth 100000 in
theorem qk_519 : (.selects "CaptureSubtypes$Types" qy_T_hold qy_T_hold : Cond) ∈ qtb := qw_in (List.mem_of_getElem? (i := 519) rfl) rfl
set_option maxRecDepth 100000 in
theorem qk_520 : (.code qy_T_hold prog_6_method_20_code 5 (some FieldType.int) : Cond) ∈ qtb := qw_in (List.mem_of_getElem? (i := 520) rfl) rfl
set_option maxRecDepth 100000 in
theorem qk_521 : (.methodLink "CaptureSubtypes$Types" 66 qy_T_ownerOf : Cond) ∈ qtb := qw_in (List.mem_of_getElem? (i := 521) rfl) rfl
set_option maxRecDepth 100000 in
theorem qk_522 : (.methodLink "CaptureSubtypes$Shapes" 94 qy_T_setHome : Cond) ∈ qtb := qw_in (List.mem_of_getElem? (i := 522) rfl) rfl
set_option maxRecDepth 100000 in
theorem qk_523 : (.instanceMethod qy_T_setHome : Cond) ∈ qtb := qw_in (List.mem_of_getElem? (i := 523) rfl) rfl
set_option maxRecDepth 100000 in
theorem qk_524 : (.selects "CaptureSubtypes$Types" qy_T_setHome qy_T_setHome : Cond) ∈ qtb := qw_in (List.mem_of_getElem? (i := 524) rfl) rfl
set_option maxRecDepth 100000 in
theorem qk_525 : (.code qy_T_setHome prog_6_method_21_code 3 none : Cond) ∈ qtb := qw_in (List.mem_of_getElem? (i := 525) rfl) rfl
set_option maxRecDepth 100000 in
theorem qk_526 : (.methodLink "CaptureSubtypes$Order" 84 qy_S_viewedAs : Cond) ∈ qtb := qw_in (List.mem_of_getElem? (i := 526) rfl) rfl
set_option maxRecDepth 100000 in
theorem qk_527 : (.methodLink "CaptureSubtypes$Order" 87 qy_O_isIn : Cond) ∈ qtb := qw_in (List.mem_of_getElem? (i := 527) rfl) rfl
set_option maxRecDepth 100000 in
theorem qk_529 : (.instanceMethod qy_O_isIn : Cond) ∈ qtb := qw_in (List.mem_of_getElem? (i := 529) rfl) rfl
set_option maxRecDepth 100000 in
theorem qk_530 : (.code qy_O_isIn prog_3_method_6_code 4 (some FieldType.boolean) : Cond) ∈ qtb := qw_in (List.mem_of_getElem? (i := 530) rfl) rfl
set_option maxRecDepth 100000 in
theorem qk_531 : (.methodLink "CaptureSubtypes$Order" 90 qy_T_secondOf : Cond) ∈ qtb := qw_in (List.mem_of_getElem? (i := 531) rfl) rfl
set_option maxRecDepth 100000 in
theorem qk_532 : (.methodLink "CaptureSubtypes$Order" 33 qy_T_dropTo : Cond) ∈ qtb := qw_in (List.mem_of_getElem? (i := 532) rfl) rfl
set_option maxRecDepth 100000 in
theorem qk_535 : (.instanceMethod qy_O_isUnchecked : Cond) ∈ qtb := qw_in (List.mem_of_getElem? (i := 535) rfl) rfl
set_option maxRecDepth 100000 in
theorem qk_536 : (.code qy_O_isUnchecked prog_3_method_7_code 5 (some FieldType.boolean) : Cond) ∈ qtb := qw_in (List.mem_of_getElem? (i := 536) rfl) rfl
set_option maxRecDepth 100000 in
theorem qk_537 : (.methodLink "CaptureSubtypes$Order" 93 qy_O_someBoundIsUnchecked : Cond) ∈ qtb := qw_in (List.mem_of_getElem? (i := 537) rfl) rfl
set_option maxRecDepth 100000 in
theorem qk_539 : (.instanceMethod qy_O_someBoundIsUnchecked : Cond) ∈ qtb := qw_in (List.mem_of_getElem? (i := 539) rfl) rfl
set_option maxRecDepth 100000 in
theorem qk_540 : (.code qy_O_someBoundIsUnchecked prog_3_method_8_code 6 (some FieldType.boolean) : Cond) ∈ qtb := qw_in (List.mem_of_getElem? (i := 540) rfl) rfl
set_option maxRecDepth 100000 in
theorem qk_541 : (.methodLink "CaptureSubtypes$Order" 96 qy_O_isUnchecked : Cond) ∈ qtb := qw_in (List.mem_of_getElem? (i := 541) rfl) rfl
set_option maxRecDepth 100000 in
theorem qk_542 : (.methodLink "CaptureSubtypes" 158 qy_T_dropTo : Cond) ∈ qtb := qw_in (List.mem_of_getElem? (i := 542) rfl) rfl
set_option maxRecDepth 100000 in
theorem qk_543 : (.methodLink "CaptureSubtypesLaw" 77 qy_X_may : Cond) ∈ qtb := qw_in (List.mem_of_getElem? (i := 543) rfl) rfl
set_option maxRecDepth 100000 in
theorem qk_544 : (.instanceMethod qy_X_may : Cond) ∈ qtb := qw_in (List.mem_of_getElem? (i := 544) rfl) rfl
set_option maxRecDepth 100000 in
theorem qk_545 : (.selects "CaptureSubtypes" qy_X_may qy_X_may : Cond) ∈ qtb := qw_in (List.mem_of_getElem? (i := 545) rfl) rfl
set_option maxRecDepth 100000 in
theorem qk_546 : (.code qy_X_may prog_1_method_17_code 4 (some FieldType.int) : Cond) ∈ qtb := qw_in (List.mem_of_getElem? (i := 546) rfl) rfl
set_option maxRecDepth 100000 in
theorem qk_549 : (.instanceMethod qy_U_mayTurn : Cond) ∈ qtb := qw_in (List.mem_of_getElem? (i := 549) rfl) rfl
set_option maxRecDepth 100000 in
theorem qk_550 : (.code qy_U_mayTurn prog_5_method_2_code 4 (some FieldType.boolean) : Cond) ∈ qtb := qw_in (List.mem_of_getElem? (i := 550) rfl) rfl
set_option maxRecDepth 100000 in
theorem qk_552 : (.methodLink "CaptureSubtypes$Turning" 33 qy_T_isVariable : Cond) ∈ qtb := qw_in (List.mem_of_getElem? (i := 552) rfl) rfl
set_option maxRecDepth 100000 in
theorem qk_553 : (.methodLink "CaptureSubtypes$Turning" 39 qy_U_mayFromBounds : Cond) ∈ qtb := qw_in (List.mem_of_getElem? (i := 553) rfl) rfl
set_option maxRecDepth 100000 in
theorem qk_555 : (.instanceMethod qy_U_mayFromBounds : Cond) ∈ qtb := qw_in (List.mem_of_getElem? (i := 555) rfl) rfl
set_option maxRecDepth 100000 in
theorem qk_556 : (.code qy_U_mayFromBounds prog_5_method_3_code 6 (some FieldType.boolean) : Cond) ∈ qtb := qw_in (List.mem_of_getElem? (i := 556) rfl) rfl
set_option maxRecDepth 100000 in
theorem qk_557 : (.methodLink "CaptureSubtypes$Turning" 62 qy_S_boundCountOf : Cond) ∈ qtb := qw_in (List.mem_of_getElem? (i := 557) rfl) rfl
set_option maxRecDepth 100000 in
theorem qk_558 : (.methodLink "CaptureSubtypes$Turning" 67 qy_S_boundOf : Cond) ∈ qtb := qw_in (List.mem_of_getElem? (i := 558) rfl) rfl
set_option maxRecDepth 100000 in
theorem qk_559 : (.methodLink "CaptureSubtypes$Turning" 52 qy_U_mayTurn : Cond) ∈ qtb := qw_in (List.mem_of_getElem? (i := 559) rfl) rfl
set_option maxRecDepth 100000 in
theorem qk_560 : (.methodLink "CaptureSubtypes$Turning" 42 qy_U_mayIntoBounds : Cond) ∈ qtb := qw_in (List.mem_of_getElem? (i := 560) rfl) rfl
set_option maxRecDepth 100000 in
theorem qk_562 : (.instanceMethod qy_U_mayIntoBounds : Cond) ∈ qtb := qw_in (List.mem_of_getElem? (i := 562) rfl) rfl
set_option maxRecDepth 100000 in
theorem qk_563 : (.code qy_U_mayIntoBounds prog_5_method_4_code 6 (some FieldType.boolean) : Cond) ∈ qtb := qw_in (List.mem_of_getElem? (i := 563) rfl) rfl
set_option maxRecDepth 100000 in
theorem qk_564 : (.methodLink "CaptureSubtypes$Turning" 45 qy_T_sortOf : Cond) ∈ qtb := qw_in (List.mem_of_getElem? (i := 564) rfl) rfl
set_option maxRecDepth 100000 in
theorem qk_565 : (.methodLink "CaptureSubtypes$Turning" 49 qy_T_firstOf : Cond) ∈ qtb := qw_in (List.mem_of_getElem? (i := 565) rfl) rfl
set_option maxRecDepth 100000 in
theorem qk_566 : (.methodLink "CaptureSubtypes$Turning" 55 qy_T_isOfClass : Cond) ∈ qtb := qw_in (List.mem_of_getElem? (i := 566) rfl) rfl
set_option maxRecDepth 100000 in
theorem qk_567 : (.methodLink "CaptureSubtypes$Turning" 58 qy_U_mayByClass : Cond) ∈ qtb := qw_in (List.mem_of_getElem? (i := 567) rfl) rfl
set_option maxRecDepth 100000 in
theorem qk_569 : (.instanceMethod qy_U_mayByClass : Cond) ∈ qtb := qw_in (List.mem_of_getElem? (i := 569) rfl) rfl
set_option maxRecDepth 100000 in
theorem qk_570 : (.code qy_U_mayByClass prog_5_method_5_code 12 (some FieldType.boolean) : Cond) ∈ qtb := qw_in (List.mem_of_getElem? (i := 570) rfl) rfl
set_option maxRecDepth 100000 in
theorem qk_571 : (.methodLink "CaptureSubtypes$Turning" 71 qy_T_ownerOf : Cond) ∈ qtb := qw_in (List.mem_of_getElem? (i := 571) rfl) rfl
set_option maxRecDepth 100000 in
theorem qk_572 : (.methodLink "CaptureSubtypes$Turning" 74 qy_K_areApart : Cond) ∈ qtb := qw_in (List.mem_of_getElem? (i := 572) rfl) rfl
set_option maxRecDepth 100000 in
theorem qk_573 : (.methodLink "CaptureSubtypes$Turning" 79 qy_T_mark : Cond) ∈ qtb := qw_in (List.mem_of_getElem? (i := 573) rfl) rfl
set_option maxRecDepth 100000 in
theorem qk_574 : (.methodLink "CaptureSubtypes$Turning" 83 qy_S_caught : Cond) ∈ qtb := qw_in (List.mem_of_getElem? (i := 574) rfl) rfl
set_option maxRecDepth 100000 in
theorem qk_575 : (.methodLink "CaptureSubtypes$Turning" 90 qy_K_isUnder : Cond) ∈ qtb := qw_in (List.mem_of_getElem? (i := 575) rfl) rfl
set_option maxRecDepth 100000 in
theorem qk_576 : (.methodLink "CaptureSubtypes$Turning" 93 qy_S_viewedAs : Cond) ∈ qtb := qw_in (List.mem_of_getElem? (i := 576) rfl) rfl
set_option maxRecDepth 100000 in
theorem qk_577 : (.methodLink "CaptureSubtypes$Turning" 96 qy_U_differ : Cond) ∈ qtb := qw_in (List.mem_of_getElem? (i := 577) rfl) rfl
set_option maxRecDepth 100000 in
theorem qk_579 : (.instanceMethod qy_U_differ : Cond) ∈ qtb := qw_in (List.mem_of_getElem? (i := 579) rfl) rfl
set_option maxRecDepth 100000 in
theorem qk_580 : (.code qy_U_differ prog_5_method_6_code 8 (some FieldType.boolean) : Cond) ∈ qtb := qw_in (List.mem_of_getElem? (i := 580) rfl) rfl
set_option maxRecDepth 100000 in
theorem qk_581 : (.methodLink "CaptureSubtypes$Turning" 103 qy_T_argumentOf : Cond) ∈ qtb := qw_in (List.mem_of_getElem? (i := 581) rfl) rfl
set_option maxRecDepth 100000 in
theorem qk_582 : (.methodLink "CaptureSubtypes$Turning" 106 qy_U_facetCount : Cond) ∈ qtb := qw_in (List.mem_of_getElem? (i := 582) rfl) rfl
set_option maxRecDepth 100000 in
theorem qk_584 : (.instanceMethod qy_U_facetCount : Cond) ∈ qtb := qw_in (List.mem_of_getElem? (i := 584) rfl) rfl
set_option maxRecDepth 100000 in
theorem qk_585 : (.code qy_U_facetCount prog_5_method_8_code 2 (some FieldType.int) : Cond) ∈ qtb := qw_in (List.mem_of_getElem? (i := 585) rfl) rfl
set_option maxRecDepth 100000 in
theorem qk_586 : (.methodLink "CaptureSubtypes$Turning" 109 qy_U_facet : Cond) ∈ qtb := qw_in (List.mem_of_getElem? (i := 586) rfl) rfl
set_option maxRecDepth 100000 in
theorem qk_588 : (.instanceMethod qy_U_facet : Cond) ∈ qtb := qw_in (List.mem_of_getElem? (i := 588) rfl) rfl
set_option maxRecDepth 100000 in
theorem qk_589 : (.code qy_U_facet prog_5_method_9_code 3 (some FieldType.int) : Cond) ∈ qtb := qw_in (List.mem_of_getElem? (i := 589) rfl) rfl
set_option maxRecDepth 100000 in
theorem qk_590 : (.methodLink "CaptureSubtypes$Turning" 112 qy_U_areStrangers : Cond) ∈ qtb := qw_in (List.mem_of_getElem? (i := 590) rfl) rfl
set_option maxRecDepth 100000 in
theorem qk_592 : (.instanceMethod qy_U_areStrangers : Cond) ∈ qtb := qw_in (List.mem_of_getElem? (i := 592) rfl) rfl
set_option maxRecDepth 100000 in
theorem qk_593 : (.code qy_U_areStrangers prog_5_method_7_code 7 (some FieldType.boolean) : Cond) ∈ qtb := qw_in (List.mem_of_getElem? (i := 593) rfl) rfl
set_option maxRecDepth 100000 in
theorem qk_594 : (.methodLink "CaptureSubtypes$Turning" 115 qy_S_erasure : Cond) ∈ qtb := qw_in (List.mem_of_getElem? (i := 594) rfl) rfl
set_option maxRecDepth 100000 in
theorem qk_595 : (.instanceMethod qy_S_erasure : Cond) ∈ qtb := qw_in (List.mem_of_getElem? (i := 595) rfl) rfl
set_option maxRecDepth 100000 in
theorem qk_596 : (.selects "CaptureSubtypes$Shapes" qy_S_erasure qy_S_erasure : Cond) ∈ qtb := qw_in (List.mem_of_getElem? (i := 596) rfl) rfl
set_option maxRecDepth 100000 in
theorem qk_597 : (.code qy_S_erasure prog_4_method_2_code 6 (some FieldType.int) : Cond) ∈ qtb := qw_in (List.mem_of_getElem? (i := 597) rfl) rfl
set_option maxRecDepth 100000 in
theorem qk_598 : (.methodLink "CaptureSubtypes$Shapes" 21 qy_T_isVariable : Cond) ∈ qtb := qw_in (List.mem_of_getElem? (i := 598) rfl) rfl
set_option maxRecDepth 100000 in
theorem qk_599 : (.methodLink "CaptureSubtypes$Shapes" 25 qy_S_boundOf : Cond) ∈ qtb := qw_in (List.mem_of_getElem? (i := 599) rfl) rfl
set_option maxRecDepth 100000 in
theorem qk_600 : (.methodLink "CaptureSubtypes$Shapes" 45 qy_S_inRows : Cond) ∈ qtb := qw_in (List.mem_of_getElem? (i := 600) rfl) rfl
set_option maxRecDepth 100000 in
theorem qk_602 : (.instanceMethod qy_S_inRows : Cond) ∈ qtb := qw_in (List.mem_of_getElem? (i := 602) rfl) rfl
set_option maxRecDepth 100000 in
theorem qk_603 : (.code qy_S_inRows prog_4_method_3_code 5 (some FieldType.int) : Cond) ∈ qtb := qw_in (List.mem_of_getElem? (i := 603) rfl) rfl
set_option maxRecDepth 100000 in
theorem qk_604 : (.methodLink "CaptureSubtypes$Turning" 99 qy_T_dropTo : Cond) ∈ qtb := qw_in (List.mem_of_getElem? (i := 604) rfl) rfl
set_option maxRecDepth 100000 in
theorem qk_605 : (.methodLink "CaptureSubtypesLaw" 81 qy_X_as : Cond) ∈ qtb := qw_in (List.mem_of_getElem? (i := 605) rfl) rfl
set_option maxRecDepth 100000 in
theorem qk_606 : (.instanceMethod qy_X_as : Cond) ∈ qtb := qw_in (List.mem_of_getElem? (i := 606) rfl) rfl
set_option maxRecDepth 100000 in
theorem qk_607 : (.selects "CaptureSubtypes" qy_X_as qy_X_as : Cond) ∈ qtb := qw_in (List.mem_of_getElem? (i := 607) rfl) rfl
set_option maxRecDepth 100000 in
theorem qk_608 : (.code qy_X_as prog_1_method_18_code 3 (some FieldType.int) : Cond) ∈ qtb := qw_in (List.mem_of_getElem? (i := 608) rfl) rfl
set_option maxRecDepth 100000 in
theorem qk_609 : (.methodLink "CaptureSubtypes" 165 qy_T_hasWildArgument : Cond) ∈ qtb := qw_in (List.mem_of_getElem? (i := 609) rfl) rfl
set_option maxRecDepth 100000 in
theorem qk_610 : (.methodLink "CaptureSubtypes" 171 qy_S_viewedAs : Cond) ∈ qtb := qw_in (List.mem_of_getElem? (i := 610) rfl) rfl
set_option maxRecDepth 100000 in
theorem qk_611 : (.methodLink "CaptureSubtypes" 174 qy_X_settle : Cond) ∈ qtb := qw_in (List.mem_of_getElem? (i := 611) rfl) rfl
set_option maxRecDepth 100000 in
theorem qk_613 : (.instanceMethod qy_X_settle : Cond) ∈ qtb := qw_in (List.mem_of_getElem? (i := 613) rfl) rfl
set_option maxRecDepth 100000 in
theorem qk_614 : (.code qy_X_settle prog_1_method_21_code 3 (some FieldType.int) : Cond) ∈ qtb := qw_in (List.mem_of_getElem? (i := 614) rfl) rfl
set_option maxRecDepth 100000 in
theorem qk_615 : (.methodLink "CaptureSubtypesLaw" 85 qy_X_erased : Cond) ∈ qtb := qw_in (List.mem_of_getElem? (i := 615) rfl) rfl
set_option maxRecDepth 100000 in
theorem qk_616 : (.instanceMethod qy_X_erased : Cond) ∈ qtb := qw_in (List.mem_of_getElem? (i := 616) rfl) rfl
set_option maxRecDepth 100000 in
theorem qk_617 : (.selects "CaptureSubtypes" qy_X_erased qy_X_erased : Cond) ∈ qtb := qw_in (List.mem_of_getElem? (i := 617) rfl) rfl
set_option maxRecDepth 100000 in
theorem qk_618 : (.code qy_X_erased prog_1_method_19_code 2 (some FieldType.int) : Cond) ∈ qtb := qw_in (List.mem_of_getElem? (i := 618) rfl) rfl
set_option maxRecDepth 100000 in
theorem qk_619 : (.methodLink "CaptureSubtypes" 177 qy_S_erasure : Cond) ∈ qtb := qw_in (List.mem_of_getElem? (i := 619) rfl) rfl
set_option maxRecDepth 100000 in
theorem qk_620 : (.methodLink "CaptureSubtypesLaw" 89 qy_X_good : Cond) ∈ qtb := qw_in (List.mem_of_getElem? (i := 620) rfl) rfl
set_option maxRecDepth 100000 in
theorem qk_621 : (.instanceMethod qy_X_good : Cond) ∈ qtb := qw_in (List.mem_of_getElem? (i := 621) rfl) rfl
set_option maxRecDepth 100000 in
theorem qk_622 : (.selects "CaptureSubtypes" qy_X_good qy_X_good : Cond) ∈ qtb := qw_in (List.mem_of_getElem? (i := 622) rfl) rfl
set_option maxRecDepth 100000 in
theorem qk_623 : (.code qy_X_good prog_1_method_20_code 3 (some FieldType.int) : Cond) ∈ qtb := qw_in (List.mem_of_getElem? (i := 623) rfl) rfl
set_option maxRecDepth 100000 in
theorem qk_624 : (.methodLink "CaptureSubtypes" 180 qy_O_keepsBounds : Cond) ∈ qtb := qw_in (List.mem_of_getElem? (i := 624) rfl) rfl
set_option maxRecDepth 100000 in
theorem qk_625 : (.instanceMethod qy_O_keepsBounds : Cond) ∈ qtb := qw_in (List.mem_of_getElem? (i := 625) rfl) rfl
set_option maxRecDepth 100000 in
theorem qk_626 : (.selects "CaptureSubtypes$Order" qy_O_keepsBounds qy_O_keepsBounds : Cond) ∈ qtb := qw_in (List.mem_of_getElem? (i := 626) rfl) rfl
set_option maxRecDepth 100000 in
theorem qk_627 : (.code qy_O_keepsBounds prog_3_method_9_code 6 (some FieldType.boolean) : Cond) ∈ qtb := qw_in (List.mem_of_getElem? (i := 627) rfl) rfl
set_option maxRecDepth 100000 in
theorem qk_628 : (.methodLink "CaptureSubtypes$Order" 99 qy_K_parametersOf : Cond) ∈ qtb := qw_in (List.mem_of_getElem? (i := 628) rfl) rfl
set_option maxRecDepth 100000 in
theorem qk_629 : (.methodLink "CaptureSubtypes$Order" 102 qy_T_argumentOf : Cond) ∈ qtb := qw_in (List.mem_of_getElem? (i := 629) rfl) rfl
set_option maxRecDepth 100000 in
theorem qk_630 : (.methodLink "CaptureSubtypes$Order" 105 qy_O_keepsBoundsAt : Cond) ∈ qtb := qw_in (List.mem_of_getElem? (i := 630) rfl) rfl
set_option maxRecDepth 100000 in
theorem qk_632 : (.instanceMethod qy_O_keepsBoundsAt : Cond) ∈ qtb := qw_in (List.mem_of_getElem? (i := 632) rfl) rfl
set_option maxRecDepth 100000 in
theorem qk_633 : (.code qy_O_keepsBoundsAt prog_3_method_10_code 7 (some FieldType.boolean) : Cond) ∈ qtb := qw_in (List.mem_of_getElem? (i := 633) rfl) rfl
set_option maxRecDepth 100000 in
theorem qk_634 : (.methodLink "CaptureSubtypes$Order" 108 qy_K_boundCount : Cond) ∈ qtb := qw_in (List.mem_of_getElem? (i := 634) rfl) rfl
set_option maxRecDepth 100000 in
theorem qk_635 : (.methodLink "CaptureSubtypes$Order" 111 qy_K_boundAt : Cond) ∈ qtb := qw_in (List.mem_of_getElem? (i := 635) rfl) rfl
set_option maxRecDepth 100000 in
theorem qk_637 : (.classLink "CaptureSubtypesLaw" 10 "CaptureSubtypesModel" : Cond) ∈ qtb := qw_in (List.mem_of_getElem? (i := 637) rfl) rfl
set_option maxRecDepth 100000 in
theorem qk_638 : (.instantiable "CaptureSubtypesModel" 32 : Cond) ∈ qtb := qw_in (List.mem_of_getElem? (i := 638) rfl) rfl
set_option maxRecDepth 100000 in
theorem qk_639 : (.methodLink "CaptureSubtypesLaw" 12 qy_M_init : Cond) ∈ qtb := qw_in (List.mem_of_getElem? (i := 639) rfl) rfl
set_option maxRecDepth 100000 in
theorem qk_640 : (.instanceMethod qy_M_init : Cond) ∈ qtb := qw_in (List.mem_of_getElem? (i := 640) rfl) rfl
set_option maxRecDepth 100000 in
theorem qk_641 : (.code qy_M_init prog_8_method_1_code 1 none : Cond) ∈ qtb := qw_in (List.mem_of_getElem? (i := 641) rfl) rfl
set_option maxRecDepth 100000 in
theorem qk_642 : (.methodLink "CaptureSubtypesModel" 1 objectInit : Cond) ∈ qtb := qw_in (List.mem_of_getElem? (i := 642) rfl) rfl
set_option maxRecDepth 100000 in
theorem qk_643 : (.methodLink "CaptureSubtypesModel" 92 qy_M_begin : Cond) ∈ qtb := qw_in (List.mem_of_getElem? (i := 643) rfl) rfl
set_option maxRecDepth 100000 in
theorem qk_645 : (.instanceMethod qy_M_begin : Cond) ∈ qtb := qw_in (List.mem_of_getElem? (i := 645) rfl) rfl
set_option maxRecDepth 100000 in
theorem qk_646 : (.code qy_M_begin prog_8_method_3_code 1 none : Cond) ∈ qtb := qw_in (List.mem_of_getElem? (i := 646) rfl) rfl
set_option maxRecDepth 100000 in
theorem qk_647 : (.methodLink "CaptureSubtypesModel" 102 qy_M_put : Cond) ∈ qtb := qw_in (List.mem_of_getElem? (i := 647) rfl) rfl
set_option maxRecDepth 100000 in
theorem qk_649 : (.instanceMethod qy_M_put : Cond) ∈ qtb := qw_in (List.mem_of_getElem? (i := 649) rfl) rfl
set_option maxRecDepth 100000 in
theorem qk_650 : (.code qy_M_put prog_8_method_5_code 7 none : Cond) ∈ qtb := qw_in (List.mem_of_getElem? (i := 650) rfl) rfl
set_option maxRecDepth 100000 in
theorem qk_651 : (.methodLink "CaptureSubtypesModel" 106 qy_M_fresh : Cond) ∈ qtb := qw_in (List.mem_of_getElem? (i := 651) rfl) rfl
set_option maxRecDepth 100000 in
theorem qk_653 : (.instanceMethod qy_M_fresh : Cond) ∈ qtb := qw_in (List.mem_of_getElem? (i := 653) rfl) rfl
set_option maxRecDepth 100000 in
theorem qk_654 : (.code qy_M_fresh prog_8_method_6_code 1 none : Cond) ∈ qtb := qw_in (List.mem_of_getElem? (i := 654) rfl) rfl
set_option maxRecDepth 100000 in
theorem qk_655 : (.fieldLink "CaptureSubtypesModel" 95 "CaptureSubtypesModel" "classes" "I" : Cond) ∈ qtb := qw_in (List.mem_of_getElem? (i := 655) rfl) rfl
set_option maxRecDepth 100000 in
theorem qk_656 : (.fieldLink "CaptureSubtypesModel" 7 "CaptureSubtypesModel" "kinds" "[I" : Cond) ∈ qtb := qw_in (List.mem_of_getElem? (i := 656) rfl) rfl
set_option maxRecDepth 100000 in
theorem qk_657 : (.fieldLink "CaptureSubtypesModel" 13 "CaptureSubtypesModel" "parameters" "[I" : Cond) ∈ qtb := qw_in (List.mem_of_getElem? (i := 657) rfl) rfl
set_option maxRecDepth 100000 in
theorem qk_658 : (.fieldLink "CaptureSubtypesModel" 16 "CaptureSubtypesModel" "supers" "[I" : Cond) ∈ qtb := qw_in (List.mem_of_getElem? (i := 658) rfl) rfl
set_option maxRecDepth 100000 in
theorem qk_659 : (.fieldLink "CaptureSubtypesModel" 19 "CaptureSubtypesModel" "others" "[I" : Cond) ∈ qtb := qw_in (List.mem_of_getElem? (i := 659) rfl) rfl
set_option maxRecDepth 100000 in
theorem qk_660 : (.fieldLink "CaptureSubtypesModel" 22 "CaptureSubtypesModel" "bound" "[I" : Cond) ∈ qtb := qw_in (List.mem_of_getElem? (i := 660) rfl) rfl
set_option maxRecDepth 100000 in
theorem qk_661 : (.fieldLink "CaptureSubtypesModel" 25 "CaptureSubtypesModel" "bounds" "[I" : Cond) ∈ qtb := qw_in (List.mem_of_getElem? (i := 661) rfl) rfl
set_option maxRecDepth 100000 in
theorem qk_662 : (.fieldLink "CaptureSubtypesModel" 99 "CaptureSubtypesModel" "types" "I" : Cond) ∈ qtb := qw_in (List.mem_of_getElem? (i := 662) rfl) rfl
set_option maxRecDepth 100000 in
theorem qk_663 : (.fieldLink "CaptureSubtypesModel" 109 "CaptureSubtypesModel" "pool" "I" : Cond) ∈ qtb := qw_in (List.mem_of_getElem? (i := 663) rfl) rfl
set_option maxRecDepth 100000 in
theorem qk_664 : (.fieldLink "CaptureSubtypesModel" 28 "CaptureSubtypesModel" "sort" "[I" : Cond) ∈ qtb := qw_in (List.mem_of_getElem? (i := 664) rfl) rfl
set_option maxRecDepth 100000 in
theorem qk_665 : (.fieldLink "CaptureSubtypesModel" 31 "CaptureSubtypesModel" "first" "[I" : Cond) ∈ qtb := qw_in (List.mem_of_getElem? (i := 665) rfl) rfl
set_option maxRecDepth 100000 in
theorem qk_666 : (.fieldLink "CaptureSubtypesModel" 34 "CaptureSubtypesModel" "second" "[I" : Cond) ∈ qtb := qw_in (List.mem_of_getElem? (i := 666) rfl) rfl
set_option maxRecDepth 100000 in
theorem qk_667 : (.fieldLink "CaptureSubtypesModel" 37 "CaptureSubtypesModel" "third" "[I" : Cond) ∈ qtb := qw_in (List.mem_of_getElem? (i := 667) rfl) rfl
set_option maxRecDepth 100000 in
theorem qk_668 : (.fieldLink "CaptureSubtypesModel" 40 "CaptureSubtypesModel" "deep" "[I" : Cond) ∈ qtb := qw_in (List.mem_of_getElem? (i := 668) rfl) rfl
set_option maxRecDepth 100000 in
theorem qk_669 : (.fieldLink "CaptureSubtypesModel" 112 "CaptureSubtypesModel" "caught" "I" : Cond) ∈ qtb := qw_in (List.mem_of_getElem? (i := 669) rfl) rfl
set_option maxRecDepth 100000 in
theorem qk_670 : (.fieldLink "CaptureSubtypesModel" 43 "CaptureSubtypesModel" "caughtBound" "[I" : Cond) ∈ qtb := qw_in (List.mem_of_getElem? (i := 670) rfl) rfl
set_option maxRecDepth 100000 in
theorem qk_671 : (.fieldLink "CaptureSubtypesModel" 46 "CaptureSubtypesModel" "caughtBounds" "[I" : Cond) ∈ qtb := qw_in (List.mem_of_getElem? (i := 671) rfl) rfl
set_option maxRecDepth 100000 in
theorem qk_672 : (.fieldLink "CaptureSubtypesModel" 49 "CaptureSubtypesModel" "caughtLow" "[I" : Cond) ∈ qtb := qw_in (List.mem_of_getElem? (i := 672) rfl) rfl
set_option maxRecDepth 100000 in
theorem qk_673 : (.fieldLink "CaptureSubtypesModel" 52 "CaptureSubtypesModel" "isBelow" "[Z" : Cond) ∈ qtb := qw_in (List.mem_of_getElem? (i := 673) rfl) rfl
set_option maxRecDepth 100000 in
theorem qk_674 : (.fieldLink "CaptureSubtypesModel" 56 "CaptureSubtypesModel" "isApart" "[Z" : Cond) ∈ qtb := qw_in (List.mem_of_getElem? (i := 674) rfl) rfl
set_option maxRecDepth 100000 in
theorem qk_675 : (.fieldLink "CaptureSubtypesModel" 59 "CaptureSubtypesModel" "become" "[I" : Cond) ∈ qtb := qw_in (List.mem_of_getElem? (i := 675) rfl) rfl
set_option maxRecDepth 100000 in
theorem qk_676 : (.fieldLink "CaptureSubtypesModel" 62 "CaptureSubtypesModel" "isNeeded" "[Z" : Cond) ∈ qtb := qw_in (List.mem_of_getElem? (i := 676) rfl) rfl
set_option maxRecDepth 100000 in
theorem qk_677 : (.fieldLink "CaptureSubtypesModel" 65 "CaptureSubtypesModel" "caughtNow" "[I" : Cond) ∈ qtb := qw_in (List.mem_of_getElem? (i := 677) rfl) rfl
set_option maxRecDepth 100000 in
theorem qk_678 : (.fieldLink "CaptureSubtypesModel" 68 "CaptureSubtypesModel" "askS" "[I" : Cond) ∈ qtb := qw_in (List.mem_of_getElem? (i := 678) rfl) rfl
set_option maxRecDepth 100000 in
theorem qk_679 : (.fieldLink "CaptureSubtypesModel" 71 "CaptureSubtypesModel" "askT" "[I" : Cond) ∈ qtb := qw_in (List.mem_of_getElem? (i := 679) rfl) rfl
set_option maxRecDepth 100000 in
theorem qk_680 : (.fieldLink "CaptureSubtypesModel" 74 "CaptureSubtypesModel" "askState" "[I" : Cond) ∈ qtb := qw_in (List.mem_of_getElem? (i := 680) rfl) rfl
set_option maxRecDepth 100000 in
theorem qk_681 : (.fieldLink "CaptureSubtypesModel" 77 "CaptureSubtypesModel" "askStep" "[I" : Cond) ∈ qtb := qw_in (List.mem_of_getElem? (i := 681) rfl) rfl
set_option maxRecDepth 100000 in
theorem qk_682 : (.fieldLink "CaptureSubtypesModel" 80 "CaptureSubtypesModel" "askAs" "[I" : Cond) ∈ qtb := qw_in (List.mem_of_getElem? (i := 682) rfl) rfl
set_option maxRecDepth 100000 in
theorem qk_683 : (.fieldLink "CaptureSubtypesModel" 190 "CaptureSubtypesModel" "asked" "I" : Cond) ∈ qtb := qw_in (List.mem_of_getElem? (i := 683) rfl) rfl
set_option maxRecDepth 100000 in
theorem qk_684 : (.fieldLink "CaptureSubtypesModel" 83 "CaptureSubtypesModel" "pileS" "[I" : Cond) ∈ qtb := qw_in (List.mem_of_getElem? (i := 684) rfl) rfl
set_option maxRecDepth 100000 in
theorem qk_685 : (.fieldLink "CaptureSubtypesModel" 86 "CaptureSubtypesModel" "pileT" "[I" : Cond) ∈ qtb := qw_in (List.mem_of_getElem? (i := 685) rfl) rfl
set_option maxRecDepth 100000 in
theorem qk_686 : (.fieldLink "CaptureSubtypesModel" 89 "CaptureSubtypesModel" "asOf" "[I" : Cond) ∈ qtb := qw_in (List.mem_of_getElem? (i := 686) rfl) rfl
set_option maxRecDepth 100000 in
theorem qk_687 : (.lays "CaptureSubtypesModel" "CaptureSubtypesModel" "classes" "I" : Cond) ∈ qtb := qw_in (List.mem_of_getElem? (i := 687) rfl) rfl
set_option maxRecDepth 100000 in
theorem qk_689 : (.laysFinal "CaptureSubtypesModel" "CaptureSubtypesModel" "kinds" "[I" : Cond) ∈ qtb := qw_in (List.mem_of_getElem? (i := 689) rfl) rfl
set_option maxRecDepth 100000 in
theorem qk_691 : (.laysFinal "CaptureSubtypesModel" "CaptureSubtypesModel" "parameters" "[I" : Cond) ∈ qtb := qw_in (List.mem_of_getElem? (i := 691) rfl) rfl
set_option maxRecDepth 100000 in
theorem qk_693 : (.laysFinal "CaptureSubtypesModel" "CaptureSubtypesModel" "supers" "[I" : Cond) ∈ qtb := qw_in (List.mem_of_getElem? (i := 693) rfl) rfl
set_option maxRecDepth 100000 in
theorem qk_695 : (.laysFinal "CaptureSubtypesModel" "CaptureSubtypesModel" "others" "[I" : Cond) ∈ qtb := qw_in (List.mem_of_getElem? (i := 695) rfl) rfl
set_option maxRecDepth 100000 in
theorem qk_697 : (.laysFinal "CaptureSubtypesModel" "CaptureSubtypesModel" "bound" "[I" : Cond) ∈ qtb := qw_in (List.mem_of_getElem? (i := 697) rfl) rfl
set_option maxRecDepth 100000 in
theorem qk_699 : (.laysFinal "CaptureSubtypesModel" "CaptureSubtypesModel" "bounds" "[I" : Cond) ∈ qtb := qw_in (List.mem_of_getElem? (i := 699) rfl) rfl
set_option maxRecDepth 100000 in
theorem qk_701 : (.lays "CaptureSubtypesModel" "CaptureSubtypesModel" "types" "I" : Cond) ∈ qtb := qw_in (List.mem_of_getElem? (i := 701) rfl) rfl
set_option maxRecDepth 100000 in
theorem qk_703 : (.lays "CaptureSubtypesModel" "CaptureSubtypesModel" "pool" "I" : Cond) ∈ qtb := qw_in (List.mem_of_getElem? (i := 703) rfl) rfl
set_option maxRecDepth 100000 in
theorem qk_705 : (.laysFinal "CaptureSubtypesModel" "CaptureSubtypesModel" "sort" "[I" : Cond) ∈ qtb := qw_in (List.mem_of_getElem? (i := 705) rfl) rfl
set_option maxRecDepth 100000 in
theorem qk_707 : (.laysFinal "CaptureSubtypesModel" "CaptureSubtypesModel" "first" "[I" : Cond) ∈ qtb := qw_in (List.mem_of_getElem? (i := 707) rfl) rfl
set_option maxRecDepth 100000 in
theorem qk_709 : (.laysFinal "CaptureSubtypesModel" "CaptureSubtypesModel" "second" "[I" : Cond) ∈ qtb := qw_in (List.mem_of_getElem? (i := 709) rfl) rfl
set_option maxRecDepth 100000 in
theorem qk_711 : (.laysFinal "CaptureSubtypesModel" "CaptureSubtypesModel" "third" "[I" : Cond) ∈ qtb := qw_in (List.mem_of_getElem? (i := 711) rfl) rfl
set_option maxRecDepth 100000 in
theorem qk_713 : (.laysFinal "CaptureSubtypesModel" "CaptureSubtypesModel" "deep" "[I" : Cond) ∈ qtb := qw_in (List.mem_of_getElem? (i := 713) rfl) rfl
set_option maxRecDepth 100000 in
theorem qk_715 : (.lays "CaptureSubtypesModel" "CaptureSubtypesModel" "caught" "I" : Cond) ∈ qtb := qw_in (List.mem_of_getElem? (i := 715) rfl) rfl
set_option maxRecDepth 100000 in
theorem qk_717 : (.laysFinal "CaptureSubtypesModel" "CaptureSubtypesModel" "caughtBound" "[I" : Cond) ∈ qtb := qw_in (List.mem_of_getElem? (i := 717) rfl) rfl
set_option maxRecDepth 100000 in
theorem qk_719 : (.laysFinal "CaptureSubtypesModel" "CaptureSubtypesModel" "caughtBounds" "[I" : Cond) ∈ qtb := qw_in (List.mem_of_getElem? (i := 719) rfl) rfl
set_option maxRecDepth 100000 in
theorem qk_721 : (.laysFinal "CaptureSubtypesModel" "CaptureSubtypesModel" "caughtLow" "[I" : Cond) ∈ qtb := qw_in (List.mem_of_getElem? (i := 721) rfl) rfl
set_option maxRecDepth 100000 in
theorem qk_723 : (.laysFinal "CaptureSubtypesModel" "CaptureSubtypesModel" "isBelow" "[Z" : Cond) ∈ qtb := qw_in (List.mem_of_getElem? (i := 723) rfl) rfl
set_option maxRecDepth 100000 in
theorem qk_725 : (.laysFinal "CaptureSubtypesModel" "CaptureSubtypesModel" "isApart" "[Z" : Cond) ∈ qtb := qw_in (List.mem_of_getElem? (i := 725) rfl) rfl
set_option maxRecDepth 100000 in
theorem qk_727 : (.laysFinal "CaptureSubtypesModel" "CaptureSubtypesModel" "become" "[I" : Cond) ∈ qtb := qw_in (List.mem_of_getElem? (i := 727) rfl) rfl
set_option maxRecDepth 100000 in
theorem qk_729 : (.laysFinal "CaptureSubtypesModel" "CaptureSubtypesModel" "isNeeded" "[Z" : Cond) ∈ qtb := qw_in (List.mem_of_getElem? (i := 729) rfl) rfl
set_option maxRecDepth 100000 in
theorem qk_731 : (.laysFinal "CaptureSubtypesModel" "CaptureSubtypesModel" "caughtNow" "[I" : Cond) ∈ qtb := qw_in (List.mem_of_getElem? (i := 731) rfl) rfl
set_option maxRecDepth 100000 in
theorem qk_733 : (.laysFinal "CaptureSubtypesModel" "CaptureSubtypesModel" "askS" "[I" : Cond) ∈ qtb := qw_in (List.mem_of_getElem? (i := 733) rfl) rfl
set_option maxRecDepth 100000 in
theorem qk_735 : (.laysFinal "CaptureSubtypesModel" "CaptureSubtypesModel" "askT" "[I" : Cond) ∈ qtb := qw_in (List.mem_of_getElem? (i := 735) rfl) rfl
set_option maxRecDepth 100000 in
theorem qk_737 : (.laysFinal "CaptureSubtypesModel" "CaptureSubtypesModel" "askState" "[I" : Cond) ∈ qtb := qw_in (List.mem_of_getElem? (i := 737) rfl) rfl
set_option maxRecDepth 100000 in
theorem qk_739 : (.laysFinal "CaptureSubtypesModel" "CaptureSubtypesModel" "askStep" "[I" : Cond) ∈ qtb := qw_in (List.mem_of_getElem? (i := 739) rfl) rfl
set_option maxRecDepth 100000 in
theorem qk_741 : (.laysFinal "CaptureSubtypesModel" "CaptureSubtypesModel" "askAs" "[I" : Cond) ∈ qtb := qw_in (List.mem_of_getElem? (i := 741) rfl) rfl
set_option maxRecDepth 100000 in
theorem qk_743 : (.lays "CaptureSubtypesModel" "CaptureSubtypesModel" "asked" "I" : Cond) ∈ qtb := qw_in (List.mem_of_getElem? (i := 743) rfl) rfl
set_option maxRecDepth 100000 in
theorem qk_745 : (.laysFinal "CaptureSubtypesModel" "CaptureSubtypesModel" "pileS" "[I" : Cond) ∈ qtb := qw_in (List.mem_of_getElem? (i := 745) rfl) rfl
set_option maxRecDepth 100000 in
theorem qk_747 : (.laysFinal "CaptureSubtypesModel" "CaptureSubtypesModel" "pileT" "[I" : Cond) ∈ qtb := qw_in (List.mem_of_getElem? (i := 747) rfl) rfl
set_option maxRecDepth 100000 in
theorem qk_749 : (.laysFinal "CaptureSubtypesModel" "CaptureSubtypesModel" "asOf" "[I" : Cond) ∈ qtb := qw_in (List.mem_of_getElem? (i := 749) rfl) rfl
set_option maxRecDepth 100000 in
theorem qk_752 : (.arrayClass FieldType.boolean : Cond) ∈ qtb := qw_in (List.mem_of_getElem? (i := 752) rfl) rfl
set_option maxRecDepth 100000 in
theorem qk_753 : (.methodLink "CaptureSubtypesLaw" 17 qy_M_clear : Cond) ∈ qtb := qw_in (List.mem_of_getElem? (i := 753) rfl) rfl
set_option maxRecDepth 100000 in
theorem qk_754 : (.instanceMethod qy_M_clear : Cond) ∈ qtb := qw_in (List.mem_of_getElem? (i := 754) rfl) rfl
set_option maxRecDepth 100000 in
theorem qk_755 : (.selects "CaptureSubtypesModel" qy_M_clear qy_M_clear : Cond) ∈ qtb := qw_in (List.mem_of_getElem? (i := 755) rfl) rfl
set_option maxRecDepth 100000 in
theorem qk_756 : (.code qy_M_clear prog_8_method_4_code 2 (some FieldType.int) : Cond) ∈ qtb := qw_in (List.mem_of_getElem? (i := 756) rfl) rfl
set_option maxRecDepth 100000 in
theorem qk_757 : (.methodLink "CaptureSubtypesLaw" 22 qy_M_declare : Cond) ∈ qtb := qw_in (List.mem_of_getElem? (i := 757) rfl) rfl
set_option maxRecDepth 100000 in
theorem qk_758 : (.instanceMethod qy_M_declare : Cond) ∈ qtb := qw_in (List.mem_of_getElem? (i := 758) rfl) rfl
set_option maxRecDepth 100000 in
theorem qk_759 : (.selects "CaptureSubtypesModel" qy_M_declare qy_M_declare : Cond) ∈ qtb := qw_in (List.mem_of_getElem? (i := 759) rfl) rfl
set_option maxRecDepth 100000 in
theorem qk_760 : (.code qy_M_declare prog_8_method_13_code 4 (some FieldType.int) : Cond) ∈ qtb := qw_in (List.mem_of_getElem? (i := 760) rfl) rfl
set_option maxRecDepth 100000 in
theorem qk_761 : (.methodLink "CaptureSubtypesModel" 123 qy_M_isIn : Cond) ∈ qtb := qw_in (List.mem_of_getElem? (i := 761) rfl) rfl
set_option maxRecDepth 100000 in
theorem qk_762 : (.static qy_M_isIn : Cond) ∈ qtb := qw_in (List.mem_of_getElem? (i := 762) rfl) rfl
set_option maxRecDepth 100000 in
theorem qk_763 : (.code qy_M_isIn prog_8_method_2_code 3 (some FieldType.boolean) : Cond) ∈ qtb := qw_in (List.mem_of_getElem? (i := 763) rfl) rfl
set_option maxRecDepth 100000 in
theorem qk_764 : (.methodLink "CaptureSubtypesLaw" 36 qy_M_plain : Cond) ∈ qtb := qw_in (List.mem_of_getElem? (i := 764) rfl) rfl
set_option maxRecDepth 100000 in
theorem qk_765 : (.instanceMethod qy_M_plain : Cond) ∈ qtb := qw_in (List.mem_of_getElem? (i := 765) rfl) rfl
set_option maxRecDepth 100000 in
theorem qk_766 : (.selects "CaptureSubtypesModel" qy_M_plain qy_M_plain : Cond) ∈ qtb := qw_in (List.mem_of_getElem? (i := 766) rfl) rfl
set_option maxRecDepth 100000 in
theorem qk_767 : (.code qy_M_plain prog_8_method_14_code 2 (some FieldType.int) : Cond) ∈ qtb := qw_in (List.mem_of_getElem? (i := 767) rfl) rfl
set_option maxRecDepth 100000 in
theorem qk_768 : (.methodLink "CaptureSubtypesModel" 127 qy_M_isClass : Cond) ∈ qtb := qw_in (List.mem_of_getElem? (i := 768) rfl) rfl
set_option maxRecDepth 100000 in
theorem qk_770 : (.instanceMethod qy_M_isClass : Cond) ∈ qtb := qw_in (List.mem_of_getElem? (i := 770) rfl) rfl
set_option maxRecDepth 100000 in
theorem qk_771 : (.code qy_M_isClass prog_8_method_11_code 2 (some FieldType.boolean) : Cond) ∈ qtb := qw_in (List.mem_of_getElem? (i := 771) rfl) rfl
set_option maxRecDepth 100000 in
theorem qk_772 : (.methodLink "CaptureSubtypesModel" 131 qy_M_enter : Cond) ∈ qtb := qw_in (List.mem_of_getElem? (i := 772) rfl) rfl
set_option maxRecDepth 100000 in
theorem qk_774 : (.instanceMethod qy_M_enter : Cond) ∈ qtb := qw_in (List.mem_of_getElem? (i := 774) rfl) rfl
set_option maxRecDepth 100000 in
theorem qk_775 : (.code qy_M_enter prog_8_method_10_code 7 (some FieldType.int) : Cond) ∈ qtb := qw_in (List.mem_of_getElem? (i := 775) rfl) rfl
set_option maxRecDepth 100000 in
theorem qk_776 : (.methodLink "CaptureSubtypesModel" 119 qy_M_find : Cond) ∈ qtb := qw_in (List.mem_of_getElem? (i := 776) rfl) rfl
set_option maxRecDepth 100000 in
theorem qk_778 : (.instanceMethod qy_M_find : Cond) ∈ qtb := qw_in (List.mem_of_getElem? (i := 778) rfl) rfl
set_option maxRecDepth 100000 in
theorem qk_779 : (.code qy_M_find prog_8_method_8_code 6 (some FieldType.int) : Cond) ∈ qtb := qw_in (List.mem_of_getElem? (i := 779) rfl) rfl
set_option maxRecDepth 100000 in
theorem qk_780 : (.methodLink "CaptureSubtypesModel" 115 qy_M_isLike : Cond) ∈ qtb := qw_in (List.mem_of_getElem? (i := 780) rfl) rfl
set_option maxRecDepth 100000 in
theorem qk_782 : (.instanceMethod qy_M_isLike : Cond) ∈ qtb := qw_in (List.mem_of_getElem? (i := 782) rfl) rfl
set_option maxRecDepth 100000 in
theorem qk_783 : (.code qy_M_isLike prog_8_method_7_code 6 (some FieldType.boolean) : Cond) ∈ qtb := qw_in (List.mem_of_getElem? (i := 783) rfl) rfl
set_option maxRecDepth 100000 in
theorem qk_784 : (.methodLink "CaptureSubtypesLaw" 40 qy_M_of : Cond) ∈ qtb := qw_in (List.mem_of_getElem? (i := 784) rfl) rfl
set_option maxRecDepth 100000 in
theorem qk_785 : (.instanceMethod qy_M_of : Cond) ∈ qtb := qw_in (List.mem_of_getElem? (i := 785) rfl) rfl
set_option maxRecDepth 100000 in
theorem qk_786 : (.selects "CaptureSubtypesModel" qy_M_of qy_M_of : Cond) ∈ qtb := qw_in (List.mem_of_getElem? (i := 786) rfl) rfl
set_option maxRecDepth 100000 in
theorem qk_787 : (.code qy_M_of prog_8_method_16_code 6 (some FieldType.int) : Cond) ∈ qtb := qw_in (List.mem_of_getElem? (i := 787) rfl) rfl
set_option maxRecDepth 100000 in
theorem qk_788 : (.methodLink "CaptureSubtypesModel" 138 qy_M_isArgument : Cond) ∈ qtb := qw_in (List.mem_of_getElem? (i := 788) rfl) rfl
set_option maxRecDepth 100000 in
theorem qk_790 : (.instanceMethod qy_M_isArgument : Cond) ∈ qtb := qw_in (List.mem_of_getElem? (i := 790) rfl) rfl
set_option maxRecDepth 100000 in
theorem qk_791 : (.code qy_M_isArgument prog_8_method_15_code 2 (some FieldType.boolean) : Cond) ∈ qtb := qw_in (List.mem_of_getElem? (i := 791) rfl) rfl
set_option maxRecDepth 100000 in
theorem qk_792 : (.methodLink "CaptureSubtypesModel" 135 qy_M_isType : Cond) ∈ qtb := qw_in (List.mem_of_getElem? (i := 792) rfl) rfl
set_option maxRecDepth 100000 in
theorem qk_794 : (.instanceMethod qy_M_isType : Cond) ∈ qtb := qw_in (List.mem_of_getElem? (i := 794) rfl) rfl
set_option maxRecDepth 100000 in
theorem qk_795 : (.code qy_M_isType prog_8_method_12_code 2 (some FieldType.boolean) : Cond) ∈ qtb := qw_in (List.mem_of_getElem? (i := 795) rfl) rfl
set_option maxRecDepth 100000 in
theorem qk_796 : (.methodLink "CaptureSubtypesLaw" 44 qy_M_wild : Cond) ∈ qtb := qw_in (List.mem_of_getElem? (i := 796) rfl) rfl
set_option maxRecDepth 100000 in
theorem qk_797 : (.instanceMethod qy_M_wild : Cond) ∈ qtb := qw_in (List.mem_of_getElem? (i := 797) rfl) rfl
set_option maxRecDepth 100000 in
theorem qk_798 : (.selects "CaptureSubtypesModel" qy_M_wild qy_M_wild : Cond) ∈ qtb := qw_in (List.mem_of_getElem? (i := 798) rfl) rfl
set_option maxRecDepth 100000 in
theorem qk_799 : (.code qy_M_wild prog_8_method_17_code 3 (some FieldType.int) : Cond) ∈ qtb := qw_in (List.mem_of_getElem? (i := 799) rfl) rfl
set_option maxRecDepth 100000 in
theorem qk_800 : (.methodLink "CaptureSubtypesLaw" 48 qy_M_variable : Cond) ∈ qtb := qw_in (List.mem_of_getElem? (i := 800) rfl) rfl
set_option maxRecDepth 100000 in
theorem qk_801 : (.instanceMethod qy_M_variable : Cond) ∈ qtb := qw_in (List.mem_of_getElem? (i := 801) rfl) rfl
set_option maxRecDepth 100000 in
theorem qk_802 : (.selects "CaptureSubtypesModel" qy_M_variable qy_M_variable : Cond) ∈ qtb := qw_in (List.mem_of_getElem? (i := 802) rfl) rfl
set_option maxRecDepth 100000 in
theorem qk_803 : (.code qy_M_variable prog_8_method_18_code 3 (some FieldType.int) : Cond) ∈ qtb := qw_in (List.mem_of_getElem? (i := 803) rfl) rfl
set_option maxRecDepth 100000 in
theorem qk_804 : (.methodLink "CaptureSubtypesLaw" 52 qy_M_row : Cond) ∈ qtb := qw_in (List.mem_of_getElem? (i := 804) rfl) rfl
set_option maxRecDepth 100000 in
theorem qk_805 : (.instanceMethod qy_M_row : Cond) ∈ qtb := qw_in (List.mem_of_getElem? (i := 805) rfl) rfl
set_option maxRecDepth 100000 in
theorem qk_806 : (.selects "CaptureSubtypesModel" qy_M_row qy_M_row : Cond) ∈ qtb := qw_in (List.mem_of_getElem? (i := 806) rfl) rfl
set_option maxRecDepth 100000 in
theorem qk_807 : (.code qy_M_row prog_8_method_19_code 2 (some FieldType.int) : Cond) ∈ qtb := qw_in (List.mem_of_getElem? (i := 807) rfl) rfl
set_option maxRecDepth 100000 in
theorem qk_808 : (.methodLink "CaptureSubtypesLaw" 56 qy_M_count : Cond) ∈ qtb := qw_in (List.mem_of_getElem? (i := 808) rfl) rfl
set_option maxRecDepth 100000 in
theorem qk_809 : (.instanceMethod qy_M_count : Cond) ∈ qtb := qw_in (List.mem_of_getElem? (i := 809) rfl) rfl
set_option maxRecDepth 100000 in
theorem qk_810 : (.selects "CaptureSubtypesModel" qy_M_count qy_M_count : Cond) ∈ qtb := qw_in (List.mem_of_getElem? (i := 810) rfl) rfl
set_option maxRecDepth 100000 in
theorem qk_811 : (.code qy_M_count prog_8_method_20_code 2 (some FieldType.int) : Cond) ∈ qtb := qw_in (List.mem_of_getElem? (i := 811) rfl) rfl
set_option maxRecDepth 100000 in
theorem qk_812 : (.methodLink "CaptureSubtypesLaw" 60 qy_M_told : Cond) ∈ qtb := qw_in (List.mem_of_getElem? (i := 812) rfl) rfl
set_option maxRecDepth 100000 in
theorem qk_813 : (.instanceMethod qy_M_told : Cond) ∈ qtb := qw_in (List.mem_of_getElem? (i := 813) rfl) rfl
set_option maxRecDepth 100000 in
theorem qk_814 : (.selects "CaptureSubtypesModel" qy_M_told qy_M_told : Cond) ∈ qtb := qw_in (List.mem_of_getElem? (i := 814) rfl) rfl
set_option maxRecDepth 100000 in
theorem qk_815 : (.code qy_M_told prog_8_method_21_code 3 (some FieldType.int) : Cond) ∈ qtb := qw_in (List.mem_of_getElem? (i := 815) rfl) rfl
set_option maxRecDepth 100000 in
theorem qk_816 : (.methodLink "CaptureSubtypesLaw" 64 qy_M_known : Cond) ∈ qtb := qw_in (List.mem_of_getElem? (i := 816) rfl) rfl
set_option maxRecDepth 100000 in
theorem qk_817 : (.instanceMethod qy_M_known : Cond) ∈ qtb := qw_in (List.mem_of_getElem? (i := 817) rfl) rfl
set_option maxRecDepth 100000 in
theorem qk_818 : (.selects "CaptureSubtypesModel" qy_M_known qy_M_known : Cond) ∈ qtb := qw_in (List.mem_of_getElem? (i := 818) rfl) rfl
set_option maxRecDepth 100000 in
theorem qk_819 : (.code qy_M_known prog_8_method_26_code 5 (some FieldType.int) : Cond) ∈ qtb := qw_in (List.mem_of_getElem? (i := 819) rfl) rfl
set_option maxRecDepth 100000 in
theorem qk_820 : (.methodLink "CaptureSubtypesModel" 149 qy_M_order : Cond) ∈ qtb := qw_in (List.mem_of_getElem? (i := 820) rfl) rfl
set_option maxRecDepth 100000 in
theorem qk_822 : (.instanceMethod qy_M_order : Cond) ∈ qtb := qw_in (List.mem_of_getElem? (i := 822) rfl) rfl
set_option maxRecDepth 100000 in
theorem qk_823 : (.code qy_M_order prog_8_method_24_code 6 none : Cond) ∈ qtb := qw_in (List.mem_of_getElem? (i := 823) rfl) rfl
set_option maxRecDepth 100000 in
theorem qk_824 : (.methodLink "CaptureSubtypesModel" 141 qy_M_superCount : Cond) ∈ qtb := qw_in (List.mem_of_getElem? (i := 824) rfl) rfl
set_option maxRecDepth 100000 in
theorem qk_826 : (.instanceMethod qy_M_superCount : Cond) ∈ qtb := qw_in (List.mem_of_getElem? (i := 826) rfl) rfl
set_option maxRecDepth 100000 in
theorem qk_827 : (.code qy_M_superCount prog_8_method_22_code 2 (some FieldType.int) : Cond) ∈ qtb := qw_in (List.mem_of_getElem? (i := 827) rfl) rfl
set_option maxRecDepth 100000 in
theorem qk_828 : (.methodLink "CaptureSubtypesModel" 145 qy_M_superOf : Cond) ∈ qtb := qw_in (List.mem_of_getElem? (i := 828) rfl) rfl
set_option maxRecDepth 100000 in
theorem qk_830 : (.instanceMethod qy_M_superOf : Cond) ∈ qtb := qw_in (List.mem_of_getElem? (i := 830) rfl) rfl
set_option maxRecDepth 100000 in
theorem qk_831 : (.code qy_M_superOf prog_8_method_23_code 3 (some FieldType.int) : Cond) ∈ qtb := qw_in (List.mem_of_getElem? (i := 831) rfl) rfl
set_option maxRecDepth 100000 in
theorem qk_832 : (.methodLink "CaptureSubtypesModel" 152 qy_M_isHeir : Cond) ∈ qtb := qw_in (List.mem_of_getElem? (i := 832) rfl) rfl
set_option maxRecDepth 100000 in
theorem qk_834 : (.instanceMethod qy_M_isHeir : Cond) ∈ qtb := qw_in (List.mem_of_getElem? (i := 834) rfl) rfl
set_option maxRecDepth 100000 in
theorem qk_835 : (.code qy_M_isHeir prog_8_method_25_code 6 (some FieldType.boolean) : Cond) ∈ qtb := qw_in (List.mem_of_getElem? (i := 835) rfl) rfl
set_option maxRecDepth 100000 in
theorem qk_836 : (.methodLink "CaptureSubtypesLaw" 68 qy_M_below : Cond) ∈ qtb := qw_in (List.mem_of_getElem? (i := 836) rfl) rfl
set_option maxRecDepth 100000 in
theorem qk_837 : (.instanceMethod qy_M_below : Cond) ∈ qtb := qw_in (List.mem_of_getElem? (i := 837) rfl) rfl
set_option maxRecDepth 100000 in
theorem qk_838 : (.selects "CaptureSubtypesModel" qy_M_below qy_M_below : Cond) ∈ qtb := qw_in (List.mem_of_getElem? (i := 838) rfl) rfl
set_option maxRecDepth 100000 in
theorem qk_839 : (.code qy_M_below prog_8_method_27_code 3 (some FieldType.int) : Cond) ∈ qtb := qw_in (List.mem_of_getElem? (i := 839) rfl) rfl
set_option maxRecDepth 100000 in
theorem qk_840 : (.methodLink "CaptureSubtypesLaw" 72 qy_M_apart : Cond) ∈ qtb := qw_in (List.mem_of_getElem? (i := 840) rfl) rfl
set_option maxRecDepth 100000 in
theorem qk_841 : (.instanceMethod qy_M_apart : Cond) ∈ qtb := qw_in (List.mem_of_getElem? (i := 841) rfl) rfl
set_option maxRecDepth 100000 in
theorem qk_842 : (.selects "CaptureSubtypesModel" qy_M_apart qy_M_apart : Cond) ∈ qtb := qw_in (List.mem_of_getElem? (i := 842) rfl) rfl
set_option maxRecDepth 100000 in
theorem qk_843 : (.code qy_M_apart prog_8_method_31_code 3 (some FieldType.int) : Cond) ∈ qtb := qw_in (List.mem_of_getElem? (i := 843) rfl) rfl
set_option maxRecDepth 100000 in
theorem qk_844 : (.methodLink "CaptureSubtypesModel" 163 qy_M_part : Cond) ∈ qtb := qw_in (List.mem_of_getElem? (i := 844) rfl) rfl
set_option maxRecDepth 100000 in
theorem qk_846 : (.instanceMethod qy_M_part : Cond) ∈ qtb := qw_in (List.mem_of_getElem? (i := 846) rfl) rfl
set_option maxRecDepth 100000 in
theorem qk_847 : (.code qy_M_part prog_8_method_28_code 4 none : Cond) ∈ qtb := qw_in (List.mem_of_getElem? (i := 847) rfl) rfl
set_option maxRecDepth 100000 in
theorem qk_848 : (.methodLink "CaptureSubtypesModel" 156 qy_M_isSealed : Cond) ∈ qtb := qw_in (List.mem_of_getElem? (i := 848) rfl) rfl
set_option maxRecDepth 100000 in
theorem qk_850 : (.instanceMethod qy_M_isSealed : Cond) ∈ qtb := qw_in (List.mem_of_getElem? (i := 850) rfl) rfl
set_option maxRecDepth 100000 in
theorem qk_851 : (.code qy_M_isSealed prog_8_method_29_code 2 (some FieldType.boolean) : Cond) ∈ qtb := qw_in (List.mem_of_getElem? (i := 851) rfl) rfl
set_option maxRecDepth 100000 in
theorem qk_852 : (.methodLink "CaptureSubtypesModel" 159 qy_M_areHeirsApart : Cond) ∈ qtb := qw_in (List.mem_of_getElem? (i := 852) rfl) rfl
set_option maxRecDepth 100000 in
theorem qk_854 : (.instanceMethod qy_M_areHeirsApart : Cond) ∈ qtb := qw_in (List.mem_of_getElem? (i := 854) rfl) rfl
set_option maxRecDepth 100000 in
theorem qk_855 : (.code qy_M_areHeirsApart prog_8_method_30_code 6 (some FieldType.boolean) : Cond) ∈ qtb := qw_in (List.mem_of_getElem? (i := 855) rfl) rfl
set_option maxRecDepth 100000 in
theorem qk_856 : (.methodLink "CaptureSubtypesLaw" 76 qy_M_is : Cond) ∈ qtb := qw_in (List.mem_of_getElem? (i := 856) rfl) rfl
set_option maxRecDepth 100000 in
theorem qk_857 : (.instanceMethod qy_M_is : Cond) ∈ qtb := qw_in (List.mem_of_getElem? (i := 857) rfl) rfl
set_option maxRecDepth 100000 in
theorem qk_858 : (.selects "CaptureSubtypesModel" qy_M_is qy_M_is : Cond) ∈ qtb := qw_in (List.mem_of_getElem? (i := 858) rfl) rfl
set_option maxRecDepth 100000 in
theorem qk_859 : (.code qy_M_is prog_8_method_53_code 3 (some FieldType.int) : Cond) ∈ qtb := qw_in (List.mem_of_getElem? (i := 859) rfl) rfl
set_option maxRecDepth 100000 in
theorem qk_860 : (.methodLink "CaptureSubtypesModel" 225 qy_M_isAsked : Cond) ∈ qtb := qw_in (List.mem_of_getElem? (i := 860) rfl) rfl
set_option maxRecDepth 100000 in
theorem qk_862 : (.instanceMethod qy_M_isAsked : Cond) ∈ qtb := qw_in (List.mem_of_getElem? (i := 862) rfl) rfl
set_option maxRecDepth 100000 in
theorem qk_863 : (.code qy_M_isAsked prog_8_method_52_code 2 (some FieldType.boolean) : Cond) ∈ qtb := qw_in (List.mem_of_getElem? (i := 863) rfl) rfl
set_option maxRecDepth 100000 in
theorem qk_864 : (.methodLink "CaptureSubtypesModel" 228 qy_M_isA : Cond) ∈ qtb := qw_in (List.mem_of_getElem? (i := 864) rfl) rfl
set_option maxRecDepth 100000 in
theorem qk_866 : (.instanceMethod qy_M_isA : Cond) ∈ qtb := qw_in (List.mem_of_getElem? (i := 866) rfl) rfl
set_option maxRecDepth 100000 in
theorem qk_867 : (.code qy_M_isA prog_8_method_45_code 6 (some FieldType.boolean) : Cond) ∈ qtb := qw_in (List.mem_of_getElem? (i := 867) rfl) rfl
set_option maxRecDepth 100000 in
theorem qk_868 : (.methodLink "CaptureSubtypesModel" 193 qy_M_ask : Cond) ∈ qtb := qw_in (List.mem_of_getElem? (i := 868) rfl) rfl
set_option maxRecDepth 100000 in
theorem qk_870 : (.instanceMethod qy_M_ask : Cond) ∈ qtb := qw_in (List.mem_of_getElem? (i := 870) rfl) rfl
set_option maxRecDepth 100000 in
theorem qk_871 : (.code qy_M_ask prog_8_method_44_code 3 none : Cond) ∈ qtb := qw_in (List.mem_of_getElem? (i := 871) rfl) rfl
set_option maxRecDepth 100000 in
theorem qk_872 : (.methodLink "CaptureSubtypesModel" 197 qy_M_step : Cond) ∈ qtb := qw_in (List.mem_of_getElem? (i := 872) rfl) rfl
set_option maxRecDepth 100000 in
theorem qk_874 : (.instanceMethod qy_M_step : Cond) ∈ qtb := qw_in (List.mem_of_getElem? (i := 874) rfl) rfl
set_option maxRecDepth 100000 in
theorem qk_875 : (.code qy_M_step prog_8_method_46_code 5 (some FieldType.int) : Cond) ∈ qtb := qw_in (List.mem_of_getElem? (i := 875) rfl) rfl
set_option maxRecDepth 100000 in
theorem qk_876 : (.methodLink "CaptureSubtypesModel" 200 qy_M_stepBounds : Cond) ∈ qtb := qw_in (List.mem_of_getElem? (i := 876) rfl) rfl
set_option maxRecDepth 100000 in
theorem qk_878 : (.instanceMethod qy_M_stepBounds : Cond) ∈ qtb := qw_in (List.mem_of_getElem? (i := 878) rfl) rfl
set_option maxRecDepth 100000 in
theorem qk_879 : (.code qy_M_stepBounds prog_8_method_47_code 6 (some FieldType.int) : Cond) ∈ qtb := qw_in (List.mem_of_getElem? (i := 879) rfl) rfl
set_option maxRecDepth 100000 in
theorem qk_880 : (.methodLink "CaptureSubtypesModel" 213 qy_M_boundCount : Cond) ∈ qtb := qw_in (List.mem_of_getElem? (i := 880) rfl) rfl
set_option maxRecDepth 100000 in
theorem qk_882 : (.instanceMethod qy_M_boundCount : Cond) ∈ qtb := qw_in (List.mem_of_getElem? (i := 882) rfl) rfl
set_option maxRecDepth 100000 in
theorem qk_883 : (.code qy_M_boundCount prog_8_method_37_code 3 (some FieldType.int) : Cond) ∈ qtb := qw_in (List.mem_of_getElem? (i := 883) rfl) rfl
set_option maxRecDepth 100000 in
theorem qk_884 : (.methodLink "CaptureSubtypesModel" 187 qy_M_boundOf : Cond) ∈ qtb := qw_in (List.mem_of_getElem? (i := 884) rfl) rfl
set_option maxRecDepth 100000 in
theorem qk_886 : (.instanceMethod qy_M_boundOf : Cond) ∈ qtb := qw_in (List.mem_of_getElem? (i := 886) rfl) rfl
set_option maxRecDepth 100000 in
theorem qk_887 : (.code qy_M_boundOf prog_8_method_38_code 4 (some FieldType.int) : Cond) ∈ qtb := qw_in (List.mem_of_getElem? (i := 887) rfl) rfl
set_option maxRecDepth 100000 in
theorem qk_888 : (.methodLink "CaptureSubtypesModel" 203 qy_M_stepLow : Cond) ∈ qtb := qw_in (List.mem_of_getElem? (i := 888) rfl) rfl
set_option maxRecDepth 100000 in
theorem qk_890 : (.instanceMethod qy_M_stepLow : Cond) ∈ qtb := qw_in (List.mem_of_getElem? (i := 890) rfl) rfl
set_option maxRecDepth 100000 in
theorem qk_891 : (.code qy_M_stepLow prog_8_method_48_code 5 (some FieldType.int) : Cond) ∈ qtb := qw_in (List.mem_of_getElem? (i := 891) rfl) rfl
set_option maxRecDepth 100000 in
theorem qk_892 : (.methodLink "CaptureSubtypesModel" 216 qy_M_lowOf : Cond) ∈ qtb := qw_in (List.mem_of_getElem? (i := 892) rfl) rfl
set_option maxRecDepth 100000 in
theorem qk_894 : (.instanceMethod qy_M_lowOf : Cond) ∈ qtb := qw_in (List.mem_of_getElem? (i := 894) rfl) rfl
set_option maxRecDepth 100000 in
theorem qk_895 : (.code qy_M_lowOf prog_8_method_39_code 2 (some FieldType.int) : Cond) ∈ qtb := qw_in (List.mem_of_getElem? (i := 895) rfl) rfl
set_option maxRecDepth 100000 in
theorem qk_896 : (.methodLink "CaptureSubtypesModel" 206 qy_M_stepParts : Cond) ∈ qtb := qw_in (List.mem_of_getElem? (i := 896) rfl) rfl
set_option maxRecDepth 100000 in
theorem qk_898 : (.instanceMethod qy_M_stepParts : Cond) ∈ qtb := qw_in (List.mem_of_getElem? (i := 898) rfl) rfl
set_option maxRecDepth 100000 in
theorem qk_899 : (.code qy_M_stepParts prog_8_method_49_code 5 (some FieldType.int) : Cond) ∈ qtb := qw_in (List.mem_of_getElem? (i := 899) rfl) rfl
set_option maxRecDepth 100000 in
theorem qk_900 : (.methodLink "CaptureSubtypesModel" 219 qy_M_isOfClass : Cond) ∈ qtb := qw_in (List.mem_of_getElem? (i := 900) rfl) rfl
set_option maxRecDepth 100000 in
theorem qk_902 : (.instanceMethod qy_M_isOfClass : Cond) ∈ qtb := qw_in (List.mem_of_getElem? (i := 902) rfl) rfl
set_option maxRecDepth 100000 in
theorem qk_903 : (.code qy_M_isOfClass prog_8_method_34_code 2 (some FieldType.boolean) : Cond) ∈ qtb := qw_in (List.mem_of_getElem? (i := 903) rfl) rfl
set_option maxRecDepth 100000 in
theorem qk_904 : (.methodLink "CaptureSubtypesModel" 222 qy_M_asClass : Cond) ∈ qtb := qw_in (List.mem_of_getElem? (i := 904) rfl) rfl
set_option maxRecDepth 100000 in
theorem qk_906 : (.instanceMethod qy_M_asClass : Cond) ∈ qtb := qw_in (List.mem_of_getElem? (i := 906) rfl) rfl
set_option maxRecDepth 100000 in
theorem qk_907 : (.code qy_M_asClass prog_8_method_42_code 5 (some FieldType.int) : Cond) ∈ qtb := qw_in (List.mem_of_getElem? (i := 907) rfl) rfl
set_option maxRecDepth 100000 in
theorem qk_908 : (.methodLink "CaptureSubtypesModel" 181 qy_M_catchIt : Cond) ∈ qtb := qw_in (List.mem_of_getElem? (i := 908) rfl) rfl
set_option maxRecDepth 100000 in
theorem qk_910 : (.instanceMethod qy_M_catchIt : Cond) ∈ qtb := qw_in (List.mem_of_getElem? (i := 910) rfl) rfl
set_option maxRecDepth 100000 in
theorem qk_911 : (.code qy_M_catchIt prog_8_method_40_code 9 (some FieldType.int) : Cond) ∈ qtb := qw_in (List.mem_of_getElem? (i := 911) rfl) rfl
set_option maxRecDepth 100000 in
theorem qk_912 : (.methodLink "CaptureSubtypesModel" 172 qy_M_hasWild : Cond) ∈ qtb := qw_in (List.mem_of_getElem? (i := 912) rfl) rfl
set_option maxRecDepth 100000 in
theorem qk_914 : (.instanceMethod qy_M_hasWild : Cond) ∈ qtb := qw_in (List.mem_of_getElem? (i := 914) rfl) rfl
set_option maxRecDepth 100000 in
theorem qk_915 : (.code qy_M_hasWild prog_8_method_35_code 2 (some FieldType.boolean) : Cond) ∈ qtb := qw_in (List.mem_of_getElem? (i := 915) rfl) rfl
set_option maxRecDepth 100000 in
theorem qk_916 : (.methodLink "CaptureSubtypesModel" 169 qy_M_come : Cond) ∈ qtb := qw_in (List.mem_of_getElem? (i := 916) rfl) rfl
set_option maxRecDepth 100000 in
theorem qk_918 : (.instanceMethod qy_M_come : Cond) ∈ qtb := qw_in (List.mem_of_getElem? (i := 918) rfl) rfl
set_option maxRecDepth 100000 in
theorem qk_919 : (.code qy_M_come prog_8_method_9_code 6 (some FieldType.int) : Cond) ∈ qtb := qw_in (List.mem_of_getElem? (i := 919) rfl) rfl
set_option maxRecDepth 100000 in
theorem qk_920 : (.methodLink "CaptureSubtypesModel" 175 qy_M_replace : Cond) ∈ qtb := qw_in (List.mem_of_getElem? (i := 920) rfl) rfl
set_option maxRecDepth 100000 in
theorem qk_922 : (.instanceMethod qy_M_replace : Cond) ∈ qtb := qw_in (List.mem_of_getElem? (i := 922) rfl) rfl
set_option maxRecDepth 100000 in
theorem qk_923 : (.code qy_M_replace prog_8_method_32_code 6 (some FieldType.int) : Cond) ∈ qtb := qw_in (List.mem_of_getElem? (i := 923) rfl) rfl
set_option maxRecDepth 100000 in
theorem qk_924 : (.methodLink "CaptureSubtypesModel" 166 qy_M_hasFirst : Cond) ∈ qtb := qw_in (List.mem_of_getElem? (i := 924) rfl) rfl
set_option maxRecDepth 100000 in
theorem qk_926 : (.instanceMethod qy_M_hasFirst : Cond) ∈ qtb := qw_in (List.mem_of_getElem? (i := 926) rfl) rfl
set_option maxRecDepth 100000 in
theorem qk_927 : (.code qy_M_hasFirst prog_8_method_33_code 2 (some FieldType.boolean) : Cond) ∈ qtb := qw_in (List.mem_of_getElem? (i := 927) rfl) rfl
set_option maxRecDepth 100000 in
theorem qk_928 : (.methodLink "CaptureSubtypesModel" 184 qy_M_superType : Cond) ∈ qtb := qw_in (List.mem_of_getElem? (i := 928) rfl) rfl
set_option maxRecDepth 100000 in
theorem qk_930 : (.instanceMethod qy_M_superType : Cond) ∈ qtb := qw_in (List.mem_of_getElem? (i := 930) rfl) rfl
set_option maxRecDepth 100000 in
theorem qk_931 : (.code qy_M_superType prog_8_method_41_code 4 (some FieldType.int) : Cond) ∈ qtb := qw_in (List.mem_of_getElem? (i := 931) rfl) rfl
set_option maxRecDepth 100000 in
theorem qk_932 : (.methodLink "CaptureSubtypesModel" 178 qy_M_bare : Cond) ∈ qtb := qw_in (List.mem_of_getElem? (i := 932) rfl) rfl
set_option maxRecDepth 100000 in
theorem qk_934 : (.instanceMethod qy_M_bare : Cond) ∈ qtb := qw_in (List.mem_of_getElem? (i := 934) rfl) rfl
set_option maxRecDepth 100000 in
theorem qk_935 : (.code qy_M_bare prog_8_method_36_code 2 (some FieldType.int) : Cond) ∈ qtb := qw_in (List.mem_of_getElem? (i := 935) rfl) rfl
set_option maxRecDepth 100000 in
theorem qk_936 : (.methodLink "CaptureSubtypesModel" 209 qy_M_stepArguments : Cond) ∈ qtb := qw_in (List.mem_of_getElem? (i := 936) rfl) rfl
set_option maxRecDepth 100000 in
theorem qk_938 : (.instanceMethod qy_M_stepArguments : Cond) ∈ qtb := qw_in (List.mem_of_getElem? (i := 938) rfl) rfl
set_option maxRecDepth 100000 in
theorem qk_939 : (.code qy_M_stepArguments prog_8_method_50_code 7 (some FieldType.int) : Cond) ∈ qtb := qw_in (List.mem_of_getElem? (i := 939) rfl) rfl
set_option maxRecDepth 100000 in
theorem qk_940 : (.methodLink "CaptureSubtypesModel" 231 qy_M_isUnchecked : Cond) ∈ qtb := qw_in (List.mem_of_getElem? (i := 940) rfl) rfl
set_option maxRecDepth 100000 in
theorem qk_942 : (.instanceMethod qy_M_isUnchecked : Cond) ∈ qtb := qw_in (List.mem_of_getElem? (i := 942) rfl) rfl
set_option maxRecDepth 100000 in
theorem qk_943 : (.code qy_M_isUnchecked prog_8_method_51_code 7 (some FieldType.boolean) : Cond) ∈ qtb := qw_in (List.mem_of_getElem? (i := 943) rfl) rfl
set_option maxRecDepth 100000 in
theorem qk_944 : (.methodLink "CaptureSubtypesLaw" 80 qy_M_may : Cond) ∈ qtb := qw_in (List.mem_of_getElem? (i := 944) rfl) rfl
set_option maxRecDepth 100000 in
theorem qk_945 : (.instanceMethod qy_M_may : Cond) ∈ qtb := qw_in (List.mem_of_getElem? (i := 945) rfl) rfl
set_option maxRecDepth 100000 in
theorem qk_946 : (.selects "CaptureSubtypesModel" qy_M_may qy_M_may : Cond) ∈ qtb := qw_in (List.mem_of_getElem? (i := 946) rfl) rfl
set_option maxRecDepth 100000 in
theorem qk_947 : (.code qy_M_may prog_8_method_54_code 9 (some FieldType.int) : Cond) ∈ qtb := qw_in (List.mem_of_getElem? (i := 947) rfl) rfl
set_option maxRecDepth 100000 in
theorem qk_948 : (.methodLink "CaptureSubtypesModel" 234 qy_M_mayClasses : Cond) ∈ qtb := qw_in (List.mem_of_getElem? (i := 948) rfl) rfl
set_option maxRecDepth 100000 in
theorem qk_950 : (.instanceMethod qy_M_mayClasses : Cond) ∈ qtb := qw_in (List.mem_of_getElem? (i := 950) rfl) rfl
set_option maxRecDepth 100000 in
theorem qk_951 : (.code qy_M_mayClasses prog_8_method_55_code 6 (some FieldType.boolean) : Cond) ∈ qtb := qw_in (List.mem_of_getElem? (i := 951) rfl) rfl
set_option maxRecDepth 100000 in
theorem qk_952 : (.methodLink "CaptureSubtypesModel" 237 qy_M_differ : Cond) ∈ qtb := qw_in (List.mem_of_getElem? (i := 952) rfl) rfl
set_option maxRecDepth 100000 in
theorem qk_954 : (.instanceMethod qy_M_differ : Cond) ∈ qtb := qw_in (List.mem_of_getElem? (i := 954) rfl) rfl
set_option maxRecDepth 100000 in
theorem qk_955 : (.code qy_M_differ prog_8_method_56_code 9 (some FieldType.boolean) : Cond) ∈ qtb := qw_in (List.mem_of_getElem? (i := 955) rfl) rfl
set_option maxRecDepth 100000 in
theorem qk_956 : (.methodLink "CaptureSubtypesModel" 240 qy_M_erase : Cond) ∈ qtb := qw_in (List.mem_of_getElem? (i := 956) rfl) rfl
set_option maxRecDepth 100000 in
theorem qk_958 : (.instanceMethod qy_M_erase : Cond) ∈ qtb := qw_in (List.mem_of_getElem? (i := 958) rfl) rfl
set_option maxRecDepth 100000 in
theorem qk_959 : (.code qy_M_erase prog_8_method_43_code 5 (some FieldType.int) : Cond) ∈ qtb := qw_in (List.mem_of_getElem? (i := 959) rfl) rfl
set_option maxRecDepth 100000 in
theorem qk_960 : (.methodLink "CaptureSubtypesLaw" 84 qy_M_as : Cond) ∈ qtb := qw_in (List.mem_of_getElem? (i := 960) rfl) rfl
set_option maxRecDepth 100000 in
theorem qk_961 : (.instanceMethod qy_M_as : Cond) ∈ qtb := qw_in (List.mem_of_getElem? (i := 961) rfl) rfl
set_option maxRecDepth 100000 in
theorem qk_962 : (.selects "CaptureSubtypesModel" qy_M_as qy_M_as : Cond) ∈ qtb := qw_in (List.mem_of_getElem? (i := 962) rfl) rfl
set_option maxRecDepth 100000 in
theorem qk_963 : (.code qy_M_as prog_8_method_58_code 3 (some FieldType.int) : Cond) ∈ qtb := qw_in (List.mem_of_getElem? (i := 963) rfl) rfl
set_option maxRecDepth 100000 in
theorem qk_964 : (.methodLink "CaptureSubtypesModel" 243 qy_M_thereAs : Cond) ∈ qtb := qw_in (List.mem_of_getElem? (i := 964) rfl) rfl
set_option maxRecDepth 100000 in
theorem qk_966 : (.instanceMethod qy_M_thereAs : Cond) ∈ qtb := qw_in (List.mem_of_getElem? (i := 966) rfl) rfl
set_option maxRecDepth 100000 in
theorem qk_967 : (.code qy_M_thereAs prog_8_method_57_code 2 (some FieldType.int) : Cond) ∈ qtb := qw_in (List.mem_of_getElem? (i := 967) rfl) rfl
set_option maxRecDepth 100000 in
theorem qk_968 : (.methodLink "CaptureSubtypesLaw" 88 qy_M_erased : Cond) ∈ qtb := qw_in (List.mem_of_getElem? (i := 968) rfl) rfl
set_option maxRecDepth 100000 in
theorem qk_969 : (.instanceMethod qy_M_erased : Cond) ∈ qtb := qw_in (List.mem_of_getElem? (i := 969) rfl) rfl
set_option maxRecDepth 100000 in
theorem qk_970 : (.selects "CaptureSubtypesModel" qy_M_erased qy_M_erased : Cond) ∈ qtb := qw_in (List.mem_of_getElem? (i := 970) rfl) rfl
set_option maxRecDepth 100000 in
theorem qk_971 : (.code qy_M_erased prog_8_method_59_code 2 (some FieldType.int) : Cond) ∈ qtb := qw_in (List.mem_of_getElem? (i := 971) rfl) rfl
set_option maxRecDepth 100000 in
theorem qk_972 : (.methodLink "CaptureSubtypesLaw" 92 qy_M_good : Cond) ∈ qtb := qw_in (List.mem_of_getElem? (i := 972) rfl) rfl
set_option maxRecDepth 100000 in
theorem qk_973 : (.instanceMethod qy_M_good : Cond) ∈ qtb := qw_in (List.mem_of_getElem? (i := 973) rfl) rfl
set_option maxRecDepth 100000 in
theorem qk_974 : (.selects "CaptureSubtypesModel" qy_M_good qy_M_good : Cond) ∈ qtb := qw_in (List.mem_of_getElem? (i := 974) rfl) rfl
set_option maxRecDepth 100000 in
theorem qk_975 : (.code qy_M_good prog_8_method_60_code 7 (some FieldType.int) : Cond) ∈ qtb := qw_in (List.mem_of_getElem? (i := 975) rfl) rfl
set_option maxRecDepth 100000 in
theorem qk_976 : (.methodLink "CaptureSubtypesLaw" 26 qy_M_inherit : Cond) ∈ qtb := qw_in (List.mem_of_getElem? (i := 976) rfl) rfl
set_option maxRecDepth 100000 in
theorem qk_977 : (.instanceMethod qy_M_inherit : Cond) ∈ qtb := qw_in (List.mem_of_getElem? (i := 977) rfl) rfl
set_option maxRecDepth 100000 in
theorem qk_978 : (.selects "CaptureSubtypesModel" qy_M_inherit qy_M_inherit : Cond) ∈ qtb := qw_in (List.mem_of_getElem? (i := 978) rfl) rfl
set_option maxRecDepth 100000 in
theorem qk_979 : (.code qy_M_inherit prog_8_method_62_code 5 (some FieldType.int) : Cond) ∈ qtb := qw_in (List.mem_of_getElem? (i := 979) rfl) rfl
set_option maxRecDepth 100000 in
theorem qk_980 : (.methodLink "CaptureSubtypesModel" 246 qy_M_isForeign : Cond) ∈ qtb := qw_in (List.mem_of_getElem? (i := 980) rfl) rfl
set_option maxRecDepth 100000 in
theorem qk_982 : (.instanceMethod qy_M_isForeign : Cond) ∈ qtb := qw_in (List.mem_of_getElem? (i := 982) rfl) rfl
set_option maxRecDepth 100000 in
theorem qk_983 : (.code qy_M_isForeign prog_8_method_61_code 5 (some FieldType.boolean) : Cond) ∈ qtb := qw_in (List.mem_of_getElem? (i := 983) rfl) rfl
set_option maxRecDepth 100000 in
theorem qk_984 : (.methodLink "CaptureSubtypesModel" 249 qy_M_areOne : Cond) ∈ qtb := qw_in (List.mem_of_getElem? (i := 984) rfl) rfl
set_option maxRecDepth 100000 in
theorem qk_986 : (.instanceMethod qy_M_areOne : Cond) ∈ qtb := qw_in (List.mem_of_getElem? (i := 986) rfl) rfl
set_option maxRecDepth 100000 in
theorem qk_987 : (.code qy_M_areOne prog_8_method_63_code 8 (some FieldType.boolean) : Cond) ∈ qtb := qw_in (List.mem_of_getElem? (i := 987) rfl) rfl
set_option maxRecDepth 100000 in
theorem qk_988 : (.methodLink "CaptureSubtypesLaw" 31 qy_M_bind : Cond) ∈ qtb := qw_in (List.mem_of_getElem? (i := 988) rfl) rfl
set_option maxRecDepth 100000 in
theorem qk_989 : (.instanceMethod qy_M_bind : Cond) ∈ qtb := qw_in (List.mem_of_getElem? (i := 989) rfl) rfl
set_option maxRecDepth 100000 in
theorem qk_990 : (.selects "CaptureSubtypesModel" qy_M_bind qy_M_bind : Cond) ∈ qtb := qw_in (List.mem_of_getElem? (i := 990) rfl) rfl
set_option maxRecDepth 100000 in
theorem qk_991 : (.code qy_M_bind prog_8_method_64_code 5 (some FieldType.int) : Cond) ∈ qtb := qw_in (List.mem_of_getElem? (i := 991) rfl) rfl
theorem qs_K_write : (.selects "CaptureSubtypes$Classes" qy_K_write qy_K_write : Cond) ∈ qtb := List.mem_filter.mpr ⟨List.mem_append_left _ (by decide +kernel), rfl⟩
theorem qs_K_reckon : (.selects "CaptureSubtypes$Classes" qy_K_reckon qy_K_reckon : Cond) ∈ qtb := List.mem_filter.mpr ⟨List.mem_append_left _ (by decide +kernel), rfl⟩
theorem qs_K_reckonAbove : (.selects "CaptureSubtypes$Classes" qy_K_reckonAbove qy_K_reckonAbove : Cond) ∈ qtb := List.mem_filter.mpr ⟨List.mem_append_left _ (by decide +kernel), rfl⟩
theorem qs_K_reckonApart : (.selects "CaptureSubtypes$Classes" qy_K_reckonApart qy_K_reckonApart : Cond) ∈ qtb := List.mem_filter.mpr ⟨List.mem_append_left _ (by decide +kernel), rfl⟩
theorem qs_K_mustBeApart : (.selects "CaptureSubtypes$Classes" qy_K_mustBeApart qy_K_mustBeApart : Cond) ∈ qtb := List.mem_filter.mpr ⟨List.mem_append_left _ (by decide +kernel), rfl⟩
theorem qs_K_isSealed : (.selects "CaptureSubtypes$Classes" qy_K_isSealed qy_K_isSealed : Cond) ∈ qtb := List.mem_filter.mpr ⟨List.mem_append_left _ (by decide +kernel), rfl⟩
theorem qs_K_heirsApartFrom : (.selects "CaptureSubtypes$Classes" qy_K_heirsApartFrom qy_K_heirsApartFrom : Cond) ∈ qtb := List.mem_filter.mpr ⟨List.mem_append_left _ (by decide +kernel), rfl⟩
theorem qs_K_isHeir : (.selects "CaptureSubtypes$Classes" qy_K_isHeir qy_K_isHeir : Cond) ∈ qtb := List.mem_filter.mpr ⟨List.mem_append_left _ (by decide +kernel), rfl⟩
theorem qs_K_apartFromHeirs : (.selects "CaptureSubtypes$Classes" qy_K_apartFromHeirs qy_K_apartFromHeirs : Cond) ∈ qtb := List.mem_filter.mpr ⟨List.mem_append_left _ (by decide +kernel), rfl⟩
theorem qs_X_mayBeSuper : (.selects "CaptureSubtypes" qy_X_mayBeSuper qy_X_mayBeSuper : Cond) ∈ qtb := List.mem_filter.mpr ⟨List.mem_append_left _ (by decide +kernel), rfl⟩
theorem qs_S_clashesAt : (.selects "CaptureSubtypes$Shapes" qy_S_clashesAt qy_S_clashesAt : Cond) ∈ qtb := List.mem_filter.mpr ⟨List.mem_append_left _ (by decide +kernel), rfl⟩
theorem qs_S_nameAlone : (.selects "CaptureSubtypes$Shapes" qy_S_nameAlone qy_S_nameAlone : Cond) ∈ qtb := List.mem_filter.mpr ⟨List.mem_append_left _ (by decide +kernel), rfl⟩
theorem qs_S_putIn : (.selects "CaptureSubtypes$Shapes" qy_S_putIn qy_S_putIn : Cond) ∈ qtb := List.mem_filter.mpr ⟨List.mem_append_left _ (by decide +kernel), rfl⟩
theorem qs_X_mayBeBound : (.selects "CaptureSubtypes" qy_X_mayBeBound qy_X_mayBeBound : Cond) ∈ qtb := List.mem_filter.mpr ⟨List.mem_append_left _ (by decide +kernel), rfl⟩
theorem qs_O_isOne : (.selects "CaptureSubtypes$Order" qy_O_isOne qy_O_isOne : Cond) ∈ qtb := List.mem_filter.mpr ⟨List.mem_append_left _ (by decide +kernel), rfl⟩
theorem qs_O_isByParts : (.selects "CaptureSubtypes$Order" qy_O_isByParts qy_O_isByParts : Cond) ∈ qtb := List.mem_filter.mpr ⟨List.mem_append_left _ (by decide +kernel), rfl⟩
theorem qs_O_someBoundIs : (.selects "CaptureSubtypes$Order" qy_O_someBoundIs qy_O_someBoundIs : Cond) ∈ qtb := List.mem_filter.mpr ⟨List.mem_append_left _ (by decide +kernel), rfl⟩
theorem qs_O_isByClass : (.selects "CaptureSubtypes$Order" qy_O_isByClass qy_O_isByClass : Cond) ∈ qtb := List.mem_filter.mpr ⟨List.mem_append_left _ (by decide +kernel), rfl⟩
theorem qs_O_isIn : (.selects "CaptureSubtypes$Order" qy_O_isIn qy_O_isIn : Cond) ∈ qtb := List.mem_filter.mpr ⟨List.mem_append_left _ (by decide +kernel), rfl⟩
theorem qs_O_isUnchecked : (.selects "CaptureSubtypes$Order" qy_O_isUnchecked qy_O_isUnchecked : Cond) ∈ qtb := List.mem_filter.mpr ⟨List.mem_append_left _ (by decide +kernel), rfl⟩
theorem qs_O_someBoundIsUnchecked : (.selects "CaptureSubtypes$Order" qy_O_someBoundIsUnchecked qy_O_someBoundIsUnchecked : Cond) ∈ qtb := List.mem_filter.mpr ⟨List.mem_append_left _ (by decide +kernel), rfl⟩
theorem qs_U_mayTurn : (.selects "CaptureSubtypes$Turning" qy_U_mayTurn qy_U_mayTurn : Cond) ∈ qtb := List.mem_filter.mpr ⟨List.mem_append_left _ (by decide +kernel), rfl⟩
theorem qs_U_mayFromBounds : (.selects "CaptureSubtypes$Turning" qy_U_mayFromBounds qy_U_mayFromBounds : Cond) ∈ qtb := List.mem_filter.mpr ⟨List.mem_append_left _ (by decide +kernel), rfl⟩
theorem qs_U_mayIntoBounds : (.selects "CaptureSubtypes$Turning" qy_U_mayIntoBounds qy_U_mayIntoBounds : Cond) ∈ qtb := List.mem_filter.mpr ⟨List.mem_append_left _ (by decide +kernel), rfl⟩
theorem qs_U_mayByClass : (.selects "CaptureSubtypes$Turning" qy_U_mayByClass qy_U_mayByClass : Cond) ∈ qtb := List.mem_filter.mpr ⟨List.mem_append_left _ (by decide +kernel), rfl⟩
theorem qs_U_differ : (.selects "CaptureSubtypes$Turning" qy_U_differ qy_U_differ : Cond) ∈ qtb := List.mem_filter.mpr ⟨List.mem_append_left _ (by decide +kernel), rfl⟩
theorem qs_U_facetCount : (.selects "CaptureSubtypes$Turning" qy_U_facetCount qy_U_facetCount : Cond) ∈ qtb := List.mem_filter.mpr ⟨List.mem_append_left _ (by decide +kernel), rfl⟩
theorem qs_U_facet : (.selects "CaptureSubtypes$Turning" qy_U_facet qy_U_facet : Cond) ∈ qtb := List.mem_filter.mpr ⟨List.mem_append_left _ (by decide +kernel), rfl⟩
theorem qs_U_areStrangers : (.selects "CaptureSubtypes$Turning" qy_U_areStrangers qy_U_areStrangers : Cond) ∈ qtb := List.mem_filter.mpr ⟨List.mem_append_left _ (by decide +kernel), rfl⟩
theorem qs_S_inRows : (.selects "CaptureSubtypes$Shapes" qy_S_inRows qy_S_inRows : Cond) ∈ qtb := List.mem_filter.mpr ⟨List.mem_append_left _ (by decide +kernel), rfl⟩
theorem qs_X_settle : (.selects "CaptureSubtypes" qy_X_settle qy_X_settle : Cond) ∈ qtb := List.mem_filter.mpr ⟨List.mem_append_left _ (by decide +kernel), rfl⟩
theorem qs_O_keepsBoundsAt : (.selects "CaptureSubtypes$Order" qy_O_keepsBoundsAt qy_O_keepsBoundsAt : Cond) ∈ qtb := List.mem_filter.mpr ⟨List.mem_append_left _ (by decide +kernel), rfl⟩
theorem qs_M_begin : (.selects "CaptureSubtypesModel" qy_M_begin qy_M_begin : Cond) ∈ qtb := List.mem_filter.mpr ⟨List.mem_append_left _ (by decide +kernel), rfl⟩
theorem qs_M_put : (.selects "CaptureSubtypesModel" qy_M_put qy_M_put : Cond) ∈ qtb := List.mem_filter.mpr ⟨List.mem_append_left _ (by decide +kernel), rfl⟩
theorem qs_M_fresh : (.selects "CaptureSubtypesModel" qy_M_fresh qy_M_fresh : Cond) ∈ qtb := List.mem_filter.mpr ⟨List.mem_append_left _ (by decide +kernel), rfl⟩
theorem qs_M_isClass : (.selects "CaptureSubtypesModel" qy_M_isClass qy_M_isClass : Cond) ∈ qtb := List.mem_filter.mpr ⟨List.mem_append_left _ (by decide +kernel), rfl⟩
theorem qs_M_enter : (.selects "CaptureSubtypesModel" qy_M_enter qy_M_enter : Cond) ∈ qtb := List.mem_filter.mpr ⟨List.mem_append_left _ (by decide +kernel), rfl⟩
theorem qs_M_find : (.selects "CaptureSubtypesModel" qy_M_find qy_M_find : Cond) ∈ qtb := List.mem_filter.mpr ⟨List.mem_append_left _ (by decide +kernel), rfl⟩
theorem qs_M_isLike : (.selects "CaptureSubtypesModel" qy_M_isLike qy_M_isLike : Cond) ∈ qtb := List.mem_filter.mpr ⟨List.mem_append_left _ (by decide +kernel), rfl⟩
theorem qs_M_isArgument : (.selects "CaptureSubtypesModel" qy_M_isArgument qy_M_isArgument : Cond) ∈ qtb := List.mem_filter.mpr ⟨List.mem_append_left _ (by decide +kernel), rfl⟩
theorem qs_M_isType : (.selects "CaptureSubtypesModel" qy_M_isType qy_M_isType : Cond) ∈ qtb := List.mem_filter.mpr ⟨List.mem_append_left _ (by decide +kernel), rfl⟩
theorem qs_M_order : (.selects "CaptureSubtypesModel" qy_M_order qy_M_order : Cond) ∈ qtb := List.mem_filter.mpr ⟨List.mem_append_left _ (by decide +kernel), rfl⟩
theorem qs_M_superCount : (.selects "CaptureSubtypesModel" qy_M_superCount qy_M_superCount : Cond) ∈ qtb := List.mem_filter.mpr ⟨List.mem_append_left _ (by decide +kernel), rfl⟩
theorem qs_M_superOf : (.selects "CaptureSubtypesModel" qy_M_superOf qy_M_superOf : Cond) ∈ qtb := List.mem_filter.mpr ⟨List.mem_append_left _ (by decide +kernel), rfl⟩
theorem qs_M_isHeir : (.selects "CaptureSubtypesModel" qy_M_isHeir qy_M_isHeir : Cond) ∈ qtb := List.mem_filter.mpr ⟨List.mem_append_left _ (by decide +kernel), rfl⟩
theorem qs_M_part : (.selects "CaptureSubtypesModel" qy_M_part qy_M_part : Cond) ∈ qtb := List.mem_filter.mpr ⟨List.mem_append_left _ (by decide +kernel), rfl⟩
theorem qs_M_isSealed : (.selects "CaptureSubtypesModel" qy_M_isSealed qy_M_isSealed : Cond) ∈ qtb := List.mem_filter.mpr ⟨List.mem_append_left _ (by decide +kernel), rfl⟩
theorem qs_M_areHeirsApart : (.selects "CaptureSubtypesModel" qy_M_areHeirsApart qy_M_areHeirsApart : Cond) ∈ qtb := List.mem_filter.mpr ⟨List.mem_append_left _ (by decide +kernel), rfl⟩
theorem qs_M_isAsked : (.selects "CaptureSubtypesModel" qy_M_isAsked qy_M_isAsked : Cond) ∈ qtb := List.mem_filter.mpr ⟨List.mem_append_left _ (by decide +kernel), rfl⟩
theorem qs_M_isA : (.selects "CaptureSubtypesModel" qy_M_isA qy_M_isA : Cond) ∈ qtb := List.mem_filter.mpr ⟨List.mem_append_left _ (by decide +kernel), rfl⟩
theorem qs_M_ask : (.selects "CaptureSubtypesModel" qy_M_ask qy_M_ask : Cond) ∈ qtb := List.mem_filter.mpr ⟨List.mem_append_left _ (by decide +kernel), rfl⟩
theorem qs_M_step : (.selects "CaptureSubtypesModel" qy_M_step qy_M_step : Cond) ∈ qtb := List.mem_filter.mpr ⟨List.mem_append_left _ (by decide +kernel), rfl⟩
theorem qs_M_stepBounds : (.selects "CaptureSubtypesModel" qy_M_stepBounds qy_M_stepBounds : Cond) ∈ qtb := List.mem_filter.mpr ⟨List.mem_append_left _ (by decide +kernel), rfl⟩
theorem qs_M_boundCount : (.selects "CaptureSubtypesModel" qy_M_boundCount qy_M_boundCount : Cond) ∈ qtb := List.mem_filter.mpr ⟨List.mem_append_left _ (by decide +kernel), rfl⟩
theorem qs_M_boundOf : (.selects "CaptureSubtypesModel" qy_M_boundOf qy_M_boundOf : Cond) ∈ qtb := List.mem_filter.mpr ⟨List.mem_append_left _ (by decide +kernel), rfl⟩
theorem qs_M_stepLow : (.selects "CaptureSubtypesModel" qy_M_stepLow qy_M_stepLow : Cond) ∈ qtb := List.mem_filter.mpr ⟨List.mem_append_left _ (by decide +kernel), rfl⟩
theorem qs_M_lowOf : (.selects "CaptureSubtypesModel" qy_M_lowOf qy_M_lowOf : Cond) ∈ qtb := List.mem_filter.mpr ⟨List.mem_append_left _ (by decide +kernel), rfl⟩
theorem qs_M_stepParts : (.selects "CaptureSubtypesModel" qy_M_stepParts qy_M_stepParts : Cond) ∈ qtb := List.mem_filter.mpr ⟨List.mem_append_left _ (by decide +kernel), rfl⟩
theorem qs_M_isOfClass : (.selects "CaptureSubtypesModel" qy_M_isOfClass qy_M_isOfClass : Cond) ∈ qtb := List.mem_filter.mpr ⟨List.mem_append_left _ (by decide +kernel), rfl⟩
theorem qs_M_asClass : (.selects "CaptureSubtypesModel" qy_M_asClass qy_M_asClass : Cond) ∈ qtb := List.mem_filter.mpr ⟨List.mem_append_left _ (by decide +kernel), rfl⟩
theorem qs_M_catchIt : (.selects "CaptureSubtypesModel" qy_M_catchIt qy_M_catchIt : Cond) ∈ qtb := List.mem_filter.mpr ⟨List.mem_append_left _ (by decide +kernel), rfl⟩
theorem qs_M_hasWild : (.selects "CaptureSubtypesModel" qy_M_hasWild qy_M_hasWild : Cond) ∈ qtb := List.mem_filter.mpr ⟨List.mem_append_left _ (by decide +kernel), rfl⟩
theorem qs_M_come : (.selects "CaptureSubtypesModel" qy_M_come qy_M_come : Cond) ∈ qtb := List.mem_filter.mpr ⟨List.mem_append_left _ (by decide +kernel), rfl⟩
theorem qs_M_replace : (.selects "CaptureSubtypesModel" qy_M_replace qy_M_replace : Cond) ∈ qtb := List.mem_filter.mpr ⟨List.mem_append_left _ (by decide +kernel), rfl⟩
theorem qs_M_hasFirst : (.selects "CaptureSubtypesModel" qy_M_hasFirst qy_M_hasFirst : Cond) ∈ qtb := List.mem_filter.mpr ⟨List.mem_append_left _ (by decide +kernel), rfl⟩
theorem qs_M_superType : (.selects "CaptureSubtypesModel" qy_M_superType qy_M_superType : Cond) ∈ qtb := List.mem_filter.mpr ⟨List.mem_append_left _ (by decide +kernel), rfl⟩
theorem qs_M_bare : (.selects "CaptureSubtypesModel" qy_M_bare qy_M_bare : Cond) ∈ qtb := List.mem_filter.mpr ⟨List.mem_append_left _ (by decide +kernel), rfl⟩
theorem qs_M_stepArguments : (.selects "CaptureSubtypesModel" qy_M_stepArguments qy_M_stepArguments : Cond) ∈ qtb := List.mem_filter.mpr ⟨List.mem_append_left _ (by decide +kernel), rfl⟩
theorem qs_M_isUnchecked : (.selects "CaptureSubtypesModel" qy_M_isUnchecked qy_M_isUnchecked : Cond) ∈ qtb := List.mem_filter.mpr ⟨List.mem_append_left _ (by decide +kernel), rfl⟩
theorem qs_M_mayClasses : (.selects "CaptureSubtypesModel" qy_M_mayClasses qy_M_mayClasses : Cond) ∈ qtb := List.mem_filter.mpr ⟨List.mem_append_left _ (by decide +kernel), rfl⟩
theorem qs_M_differ : (.selects "CaptureSubtypesModel" qy_M_differ qy_M_differ : Cond) ∈ qtb := List.mem_filter.mpr ⟨List.mem_append_left _ (by decide +kernel), rfl⟩
theorem qs_M_erase : (.selects "CaptureSubtypesModel" qy_M_erase qy_M_erase : Cond) ∈ qtb := List.mem_filter.mpr ⟨List.mem_append_left _ (by decide +kernel), rfl⟩
theorem qs_M_thereAs : (.selects "CaptureSubtypesModel" qy_M_thereAs qy_M_thereAs : Cond) ∈ qtb := List.mem_filter.mpr ⟨List.mem_append_left _ (by decide +kernel), rfl⟩
theorem qs_M_isForeign : (.selects "CaptureSubtypesModel" qy_M_isForeign qy_M_isForeign : Cond) ∈ qtb := List.mem_filter.mpr ⟨List.mem_append_left _ (by decide +kernel), rfl⟩
theorem qs_M_areOne : (.selects "CaptureSubtypesModel" qy_M_areOne qy_M_areOne : Cond) ∈ qtb := List.mem_filter.mpr ⟨List.mem_append_left _ (by decide +kernel), rfl⟩
theorem qi_K : ∀ w ∈ u_ws qR_K qF_K 10, w ∈ qtb := by decide +kernel
theorem qi_T : ∀ w ∈ u_ws qR_T qF_T 10, w ∈ qtb := by decide +kernel
theorem qi_S : ∀ w ∈ u_ws qR_S qF_S 2, w ∈ qtb := by decide +kernel
theorem qi_O : ∀ w ∈ u_ws qR_O qF_O 3, w ∈ qtb := by decide +kernel
theorem qi_U : ∀ w ∈ u_ws qR_U qF_U 4, w ∈ qtb := by decide +kernel
theorem qi_X : ∀ w ∈ u_ws qR_X qF_X 5, w ∈ qtb := by decide +kernel
theorem qi_M : ∀ w ∈ u_ws qR_M qF_M 32, w ∈ qtb := by decide +kernel
