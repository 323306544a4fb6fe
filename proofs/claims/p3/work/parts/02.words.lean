/-- the words that every method of mine has: all that keep -/
def bigW : List Cond := lw_tbl.filter goodWord
theorem big_r {w : Cond} {i : Nat} (h : tables_1[i]? = some w) (hg : goodWord w = true) : w ∈ bigW := List.mem_filter.mpr ⟨List.mem_append_right _ (List.mem_of_getElem? h), hg⟩
theorem big_s {w : Cond} {i : Nat} (h : (k2_sels lw_privs)[i]? = some w) (hg : goodWord w = true) : w ∈ bigW := List.mem_filter.mpr ⟨List.mem_append_left _ (List.mem_of_getElem? h), hg⟩
theorem big_good {w : Cond} (h : w ∈ bigW) : (w.onTables && w.keeps) = true ∨ ∃ ty, w = .arrayClass ty := good_of_word (List.mem_filter.mp h).2
theorem ms_0 : Cond.selects R_Reader y_Reader_object y_Reader_object ∈ bigW := big_s (i := 0) (by decide +kernel) (by decide +kernel)
theorem ms_1 : Cond.selects R_Reader y_Reader_afterWhite y_Reader_afterWhite ∈ bigW := big_s (i := 1) (by decide +kernel) (by decide +kernel)
theorem ms_2 : Cond.selects R_Reader y_Reader_name y_Reader_name ∈ bigW := big_s (i := 2) (by decide +kernel) (by decide +kernel)
theorem ms_3 : Cond.selects R_Reader y_Reader_wordLength y_Reader_wordLength ∈ bigW := big_s (i := 3) (by decide +kernel) (by decide +kernel)
theorem ms_4 : Cond.selects R_Reader y_Reader_plainString y_Reader_plainString ∈ bigW := big_s (i := 4) (by decide +kernel) (by decide +kernel)
theorem ms_5 : Cond.selects R_Reader y_Reader_escaped y_Reader_escaped ∈ bigW := big_s (i := 5) (by decide +kernel) (by decide +kernel)
theorem ms_6 : Cond.selects R_Reader y_Reader_octalDigit y_Reader_octalDigit ∈ bigW := big_s (i := 6) (by decide +kernel) (by decide +kernel)
theorem ms_7 : Cond.selects R_Reader y_Reader_dict y_Reader_dict ∈ bigW := big_s (i := 7) (by decide +kernel) (by decide +kernel)
theorem ms_8 : Cond.selects R_Tree y_Tree_holds y_Tree_holds ∈ bigW := big_s (i := 8) (by decide +kernel) (by decide +kernel)
theorem ms_9 : Cond.selects R_Reader y_Reader_hexString y_Reader_hexString ∈ bigW := big_s (i := 9) (by decide +kernel) (by decide +kernel)
theorem ms_10 : Cond.selects R_Reader y_Reader_hexDigit y_Reader_hexDigit ∈ bigW := big_s (i := 10) (by decide +kernel) (by decide +kernel)
theorem ms_11 : Cond.selects R_Reader y_Reader_array y_Reader_array ∈ bigW := big_s (i := 11) (by decide +kernel) (by decide +kernel)
theorem ms_12 : Cond.selects R_Reader y_Reader_number y_Reader_number ∈ bigW := big_s (i := 12) (by decide +kernel) (by decide +kernel)
theorem ms_13 : Cond.selects R_Reader y_Reader_isInt y_Reader_isInt ∈ bigW := big_s (i := 13) (by decide +kernel) (by decide +kernel)
theorem ms_14 : Cond.selects R_Reader y_Reader_isBelow y_Reader_isBelow ∈ bigW := big_s (i := 14) (by decide +kernel) (by decide +kernel)
theorem ms_15 : Cond.selects R_Reader y_Reader_numberAt y_Reader_numberAt ∈ bigW := big_s (i := 15) (by decide +kernel) (by decide +kernel)
theorem ms_16 : Cond.selects R_Reader y_Reader_word y_Reader_word ∈ bigW := big_s (i := 16) (by decide +kernel) (by decide +kernel)
theorem ms_17 : Cond.selects R_Reader y_Reader_kindOfWord y_Reader_kindOfWord ∈ bigW := big_s (i := 17) (by decide +kernel) (by decide +kernel)
theorem ms_18 : Cond.selects R_Reader y_Reader_isWord y_Reader_isWord ∈ bigW := big_s (i := 18) (by decide +kernel) (by decide +kernel)
theorem ms_19 : Cond.selects R_Writer y_Writer_addValue y_Writer_addValue ∈ bigW := big_s (i := 19) (by decide +kernel) (by decide +kernel)
theorem ms_20 : Cond.selects R_Writer y_Writer_addInt y_Writer_addInt ∈ bigW := big_s (i := 20) (by decide +kernel) (by decide +kernel)
theorem ms_21 : Cond.selects R_Writer y_Writer_addName y_Writer_addName ∈ bigW := big_s (i := 21) (by decide +kernel) (by decide +kernel)
theorem ms_22 : Cond.selects R_Writer y_Writer_addString y_Writer_addString ∈ bigW := big_s (i := 22) (by decide +kernel) (by decide +kernel)
theorem ms_23 : Cond.selects R_Writer y_Writer_addArray y_Writer_addArray ∈ bigW := big_s (i := 23) (by decide +kernel) (by decide +kernel)
theorem ms_24 : Cond.selects R_Writer y_Writer_addSpaceBefore y_Writer_addSpaceBefore ∈ bigW := big_s (i := 24) (by decide +kernel) (by decide +kernel)
theorem ms_25 : Cond.selects R_Writer y_Writer_addDict y_Writer_addDict ∈ bigW := big_s (i := 25) (by decide +kernel) (by decide +kernel)
theorem ms_26 : Cond.selects R_Writer y_Writer_addRef y_Writer_addRef ∈ bigW := big_s (i := 26) (by decide +kernel) (by decide +kernel)
theorem ms_27 : Cond.selects R_V y_V_pointAt y_V_pointAt ∈ bigW := big_s (i := 27) (by decide +kernel) (by decide +kernel)
theorem ms_28 : Cond.selects R_Tree y_Tree_nameNode y_Tree_nameNode ∈ bigW := big_s (i := 28) (by decide +kernel) (by decide +kernel)
theorem ms_29 : Cond.selects R_Tree y_Tree_itemNode y_Tree_itemNode ∈ bigW := big_s (i := 29) (by decide +kernel) (by decide +kernel)
theorem ms_30 : Cond.selects R_M y_M_used y_M_used ∈ bigW := big_s (i := 30) (by decide +kernel) (by decide +kernel)
theorem ms_31 : Cond.selects R_M y_M_object y_M_object ∈ bigW := big_s (i := 31) (by decide +kernel) (by decide +kernel)
theorem ms_32 : Cond.selects R_M y_M_white y_M_white ∈ bigW := big_s (i := 32) (by decide +kernel) (by decide +kernel)
theorem ms_33 : Cond.selects R_M y_M_name y_M_name ∈ bigW := big_s (i := 33) (by decide +kernel) (by decide +kernel)
theorem ms_34 : Cond.selects R_M y_M_wordEnd y_M_wordEnd ∈ bigW := big_s (i := 34) (by decide +kernel) (by decide +kernel)
theorem ms_35 : Cond.selects R_M y_M_string y_M_string ∈ bigW := big_s (i := 35) (by decide +kernel) (by decide +kernel)
theorem ms_36 : Cond.selects R_M y_M_escaped y_M_escaped ∈ bigW := big_s (i := 36) (by decide +kernel) (by decide +kernel)
theorem ms_37 : Cond.selects R_M y_M_takeByte y_M_takeByte ∈ bigW := big_s (i := 37) (by decide +kernel) (by decide +kernel)
theorem ms_38 : Cond.selects R_M y_M_ofBytes y_M_ofBytes ∈ bigW := big_s (i := 38) (by decide +kernel) (by decide +kernel)
theorem ms_39 : Cond.selects R_M y_M_array y_M_array ∈ bigW := big_s (i := 39) (by decide +kernel) (by decide +kernel)
theorem ms_40 : Cond.selects R_M y_M_dict y_M_dict ∈ bigW := big_s (i := 40) (by decide +kernel) (by decide +kernel)
theorem ms_41 : Cond.selects R_M y_M_digits y_M_digits ∈ bigW := big_s (i := 41) (by decide +kernel) (by decide +kernel)
theorem ms_42 : Cond.selects R_M y_M_isWord y_M_isWord ∈ bigW := big_s (i := 42) (by decide +kernel) (by decide +kernel)
theorem ms_43 : Cond.selects R_M y_M_isAt_s y_M_isAt_s ∈ bigW := big_s (i := 43) (by decide +kernel) (by decide +kernel)
theorem ms_44 : Cond.selects R_M y_M_numberOf y_M_numberOf ∈ bigW := big_s (i := 44) (by decide +kernel) (by decide +kernel)
theorem ms_45 : Cond.selects R_M y_M_reference y_M_reference ∈ bigW := big_s (i := 45) (by decide +kernel) (by decide +kernel)
theorem ms_46 : Cond.selects R_M y_M_takeNumber y_M_takeNumber ∈ bigW := big_s (i := 46) (by decide +kernel) (by decide +kernel)
theorem ms_47 : Cond.selects R_M y_M_takeWord y_M_takeWord ∈ bigW := big_s (i := 47) (by decide +kernel) (by decide +kernel)
theorem ms_48 : Cond.selects R_M y_M_isAt_p y_M_isAt_p ∈ bigW := big_s (i := 48) (by decide +kernel) (by decide +kernel)
theorem ms_49 : Cond.selects R_M y_M_tell y_M_tell ∈ bigW := big_s (i := 49) (by decide +kernel) (by decide +kernel)
theorem ms_50 : Cond.selects R_M y_M_write_p y_M_write_p ∈ bigW := big_s (i := 50) (by decide +kernel) (by decide +kernel)
theorem ms_51 : Cond.selects R_M y_M_say_s y_M_say_s ∈ bigW := big_s (i := 51) (by decide +kernel) (by decide +kernel)
theorem ms_52 : Cond.selects R_M y_M_say_i y_M_say_i ∈ bigW := big_s (i := 52) (by decide +kernel) (by decide +kernel)
theorem ms_53 : Cond.selects R_M y_M_number y_M_number ∈ bigW := big_s (i := 53) (by decide +kernel) (by decide +kernel)
theorem ms_54 : Cond.selects R_M y_M_say_b y_M_say_b ∈ bigW := big_s (i := 54) (by decide +kernel) (by decide +kernel)
theorem ms_55 : Cond.selects R_M y_M_hexDigit y_M_hexDigit ∈ bigW := big_s (i := 55) (by decide +kernel) (by decide +kernel)
theorem m_0 : Cond.initialized R_L ∈ bigW := big_r (i := 0) (by decide +kernel) (by decide +kernel)
theorem m_1 : Cond.initialized R_V ∈ bigW := big_r (i := 1) (by decide +kernel) (by decide +kernel)
theorem m_2 : Cond.initialized R_Row ∈ bigW := big_r (i := 2) (by decide +kernel) (by decide +kernel)
theorem m_3 : Cond.initialized R_Tree ∈ bigW := big_r (i := 3) (by decide +kernel) (by decide +kernel)
theorem m_4 : Cond.initialized R_M ∈ bigW := big_r (i := 4) (by decide +kernel) (by decide +kernel)
theorem m_5 : Cond.initialized R_Reader ∈ bigW := big_r (i := 5) (by decide +kernel) (by decide +kernel)
theorem m_6 : Cond.initialized R_Str ∈ bigW := big_r (i := 6) (by decide +kernel) (by decide +kernel)
theorem m_7 : Cond.initialized R_SL ∈ bigW := big_r (i := 7) (by decide +kernel) (by decide +kernel)
theorem m_8 : Cond.initialized R_Pre ∈ bigW := big_r (i := 8) (by decide +kernel) (by decide +kernel)
theorem m_9 : Cond.initialized "java/lang/StringUTF16" ∈ bigW := big_r (i := 9) (by decide +kernel) (by decide +kernel)
theorem m_10 : Cond.initialized R_Part ∈ bigW := big_r (i := 10) (by decide +kernel) (by decide +kernel)
theorem m_11 : Cond.initialized R_Arr ∈ bigW := big_r (i := 11) (by decide +kernel) (by decide +kernel)
theorem m_12 : Cond.initialized R_Math ∈ bigW := big_r (i := 12) (by decide +kernel) (by decide +kernel)
theorem m_13 : Cond.initialized R_Sys ∈ bigW := big_r (i := 13) (by decide +kernel) (by decide +kernel)
theorem m_14 : Cond.initialized R_Writer ∈ bigW := big_r (i := 14) (by decide +kernel) (by decide +kernel)
theorem m_15 : Cond.classLink R_L 7 R_V ∈ bigW := big_r (i := 15) (by decide +kernel) (by decide +kernel)
theorem m_16 : Cond.instantiable R_V 5 ∈ bigW := big_r (i := 16) (by decide +kernel) (by decide +kernel)
theorem m_17 : Cond.methodLink R_L 9 y_V_init ∈ bigW := big_r (i := 17) (by decide +kernel) (by decide +kernel)
theorem m_18 : Cond.instanceMethod y_V_init ∈ bigW := big_r (i := 18) (by decide +kernel) (by decide +kernel)
theorem m_19 : Cond.code y_V_init b_V_init 1 none ∈ bigW := big_r (i := 19) (by decide +kernel) (by decide +kernel)
theorem m_20 : Cond.methodLink R_V 3 objectInit ∈ bigW := big_r (i := 20) (by decide +kernel) (by decide +kernel)
theorem m_21 : Cond.instanceMethod objectInit ∈ bigW := big_r (i := 21) (by decide +kernel) (by decide +kernel)
theorem m_23 : Cond.classLink R_V 9 R_Row ∈ bigW := big_r (i := 23) (by decide +kernel) (by decide +kernel)
theorem m_24 : Cond.instantiable R_Row 2 ∈ bigW := big_r (i := 24) (by decide +kernel) (by decide +kernel)
theorem m_25 : Cond.methodLink R_V 11 y_Row_init ∈ bigW := big_r (i := 25) (by decide +kernel) (by decide +kernel)
theorem m_26 : Cond.instanceMethod y_Row_init ∈ bigW := big_r (i := 26) (by decide +kernel) (by decide +kernel)
theorem m_27 : Cond.code y_Row_init b_Row_init 2 none ∈ bigW := big_r (i := 27) (by decide +kernel) (by decide +kernel)
theorem m_28 : Cond.methodLink R_Row 1 objectInit ∈ bigW := big_r (i := 28) (by decide +kernel) (by decide +kernel)
theorem m_29 : Cond.fieldLink R_Row 7 "ValueTexts$Row" "cells" "[B" ∈ bigW := big_r (i := 29) (by decide +kernel) (by decide +kernel)
theorem m_30 : Cond.fieldLink R_Row 13 "ValueTexts$Row" "size" "I" ∈ bigW := big_r (i := 30) (by decide +kernel) (by decide +kernel)
theorem m_36 : Cond.arrayClass .byte ∈ bigW := big_r (i := 36) (by decide +kernel) (by decide +kernel)
theorem m_37 : Cond.classLink R_V 25 R_Tree ∈ bigW := big_r (i := 37) (by decide +kernel) (by decide +kernel)
theorem m_38 : Cond.instantiable R_Tree 6 ∈ bigW := big_r (i := 38) (by decide +kernel) (by decide +kernel)
theorem m_39 : Cond.methodLink R_V 27 y_Tree_init ∈ bigW := big_r (i := 39) (by decide +kernel) (by decide +kernel)
theorem m_40 : Cond.instanceMethod y_Tree_init ∈ bigW := big_r (i := 40) (by decide +kernel) (by decide +kernel)
theorem m_41 : Cond.code y_Tree_init b_Tree_init 1 none ∈ bigW := big_r (i := 41) (by decide +kernel) (by decide +kernel)
theorem m_42 : Cond.methodLink R_Tree 3 objectInit ∈ bigW := big_r (i := 42) (by decide +kernel) (by decide +kernel)
theorem m_43 : Cond.classLink R_Tree 25 R_Row ∈ bigW := big_r (i := 43) (by decide +kernel) (by decide +kernel)
theorem m_44 : Cond.methodLink R_Tree 27 y_Row_init ∈ bigW := big_r (i := 44) (by decide +kernel) (by decide +kernel)
theorem m_45 : Cond.fieldLink R_Tree 9 "ValueTexts$Tree" "kinds" "[B" ∈ bigW := big_r (i := 45) (by decide +kernel) (by decide +kernel)
theorem m_46 : Cond.fieldLink R_Tree 15 "ValueTexts$Tree" "numbers" "[I" ∈ bigW := big_r (i := 46) (by decide +kernel) (by decide +kernel)
theorem m_47 : Cond.fieldLink R_Tree 19 "ValueTexts$Tree" "others" "[I" ∈ bigW := big_r (i := 47) (by decide +kernel) (by decide +kernel)
theorem m_48 : Cond.fieldLink R_Tree 22 "ValueTexts$Tree" "spans" "[I" ∈ bigW := big_r (i := 48) (by decide +kernel) (by decide +kernel)
theorem m_49 : Cond.fieldLink R_Tree 30 "ValueTexts$Tree" "text" "LValueTexts$Row;" ∈ bigW := big_r (i := 49) (by decide +kernel) (by decide +kernel)
theorem m_50 : Cond.fieldLink R_Tree 34 "ValueTexts$Tree" "size" "I" ∈ bigW := big_r (i := 50) (by decide +kernel) (by decide +kernel)
theorem m_64 : Cond.arrayClass .int ∈ bigW := big_r (i := 64) (by decide +kernel) (by decide +kernel)
theorem m_65 : Cond.fieldLink R_V 14 "ValueTexts" "tape" "LValueTexts$Row;" ∈ bigW := big_r (i := 65) (by decide +kernel) (by decide +kernel)
theorem m_66 : Cond.fieldLink R_V 18 "ValueTexts" "out" "LValueTexts$Row;" ∈ bigW := big_r (i := 66) (by decide +kernel) (by decide +kernel)
theorem m_67 : Cond.fieldLink R_V 21 "ValueTexts" "value" "LValueTexts$Tree;" ∈ bigW := big_r (i := 67) (by decide +kernel) (by decide +kernel)
theorem m_68 : Cond.fieldLink R_V 28 "ValueTexts" "spare" "LValueTexts$Tree;" ∈ bigW := big_r (i := 68) (by decide +kernel) (by decide +kernel)
theorem m_69 : Cond.fieldLink R_V 31 "ValueTexts" "point" "I" ∈ bigW := big_r (i := 69) (by decide +kernel) (by decide +kernel)
theorem m_81 : Cond.methodLink R_L 13 y_V_feed ∈ bigW := big_r (i := 81) (by decide +kernel) (by decide +kernel)
theorem m_82 : Cond.instanceMethod y_V_feed ∈ bigW := big_r (i := 82) (by decide +kernel) (by decide +kernel)
theorem m_83 : Cond.selects R_V y_V_feed y_V_feed ∈ bigW := big_r (i := 83) (by decide +kernel) (by decide +kernel)
theorem m_84 : Cond.code y_V_feed b_V_feed 6 (some .int) ∈ bigW := big_r (i := 84) (by decide +kernel) (by decide +kernel)
theorem m_85 : Cond.methodLink R_V 35 y_Row_size ∈ bigW := big_r (i := 85) (by decide +kernel) (by decide +kernel)
theorem m_86 : Cond.instanceMethod y_Row_size ∈ bigW := big_r (i := 86) (by decide +kernel) (by decide +kernel)
theorem m_87 : Cond.selects R_Row y_Row_size y_Row_size ∈ bigW := big_r (i := 87) (by decide +kernel) (by decide +kernel)
theorem m_88 : Cond.code y_Row_size b_Row_size 1 (some .int) ∈ bigW := big_r (i := 88) (by decide +kernel) (by decide +kernel)
theorem m_89 : Cond.methodLink R_V 39 y_Row_addFour ∈ bigW := big_r (i := 89) (by decide +kernel) (by decide +kernel)
theorem m_90 : Cond.instanceMethod y_Row_addFour ∈ bigW := big_r (i := 90) (by decide +kernel) (by decide +kernel)
theorem m_91 : Cond.selects R_Row y_Row_addFour y_Row_addFour ∈ bigW := big_r (i := 91) (by decide +kernel) (by decide +kernel)
theorem m_92 : Cond.code y_Row_addFour b_Row_addFour 2 none ∈ bigW := big_r (i := 92) (by decide +kernel) (by decide +kernel)
theorem m_93 : Cond.methodLink R_Row 17 y_Row_add ∈ bigW := big_r (i := 93) (by decide +kernel) (by decide +kernel)
theorem m_94 : Cond.instanceMethod y_Row_add ∈ bigW := big_r (i := 94) (by decide +kernel) (by decide +kernel)
theorem m_95 : Cond.selects R_Row y_Row_add y_Row_add ∈ bigW := big_r (i := 95) (by decide +kernel) (by decide +kernel)
theorem m_96 : Cond.code y_Row_add b_Row_add 2 none ∈ bigW := big_r (i := 96) (by decide +kernel) (by decide +kernel)
theorem m_97 : Cond.methodLink R_L 18 y_V_end ∈ bigW := big_r (i := 97) (by decide +kernel) (by decide +kernel)
theorem m_98 : Cond.instanceMethod y_V_end ∈ bigW := big_r (i := 98) (by decide +kernel) (by decide +kernel)
theorem m_99 : Cond.selects R_V y_V_end y_V_end ∈ bigW := big_r (i := 99) (by decide +kernel) (by decide +kernel)
theorem m_100 : Cond.code y_V_end b_V_end 2 (some .int) ∈ bigW := big_r (i := 100) (by decide +kernel) (by decide +kernel)
theorem m_101 : Cond.methodLink R_V 42 y_Row_cut ∈ bigW := big_r (i := 101) (by decide +kernel) (by decide +kernel)
theorem m_102 : Cond.instanceMethod y_Row_cut ∈ bigW := big_r (i := 102) (by decide +kernel) (by decide +kernel)
theorem m_103 : Cond.selects R_Row y_Row_cut y_Row_cut ∈ bigW := big_r (i := 103) (by decide +kernel) (by decide +kernel)
theorem m_104 : Cond.code y_Row_cut b_Row_cut 2 none ∈ bigW := big_r (i := 104) (by decide +kernel) (by decide +kernel)
theorem m_105 : Cond.methodLink R_L 23 y_V_read ∈ bigW := big_r (i := 105) (by decide +kernel) (by decide +kernel)
theorem m_106 : Cond.instanceMethod y_V_read ∈ bigW := big_r (i := 106) (by decide +kernel) (by decide +kernel)
theorem m_107 : Cond.selects R_V y_V_read y_V_read ∈ bigW := big_r (i := 107) (by decide +kernel) (by decide +kernel)
theorem m_108 : Cond.code y_V_read b_V_read 3 (some .int) ∈ bigW := big_r (i := 108) (by decide +kernel) (by decide +kernel)
theorem m_109 : Cond.classLink R_V 45 R_Reader ∈ bigW := big_r (i := 109) (by decide +kernel) (by decide +kernel)
theorem m_110 : Cond.instantiable R_Reader 3 ∈ bigW := big_r (i := 110) (by decide +kernel) (by decide +kernel)
theorem m_111 : Cond.methodLink R_V 47 y_Reader_init ∈ bigW := big_r (i := 111) (by decide +kernel) (by decide +kernel)
theorem m_112 : Cond.instanceMethod y_Reader_init ∈ bigW := big_r (i := 112) (by decide +kernel) (by decide +kernel)
theorem m_113 : Cond.code y_Reader_init b_Reader_init 3 none ∈ bigW := big_r (i := 113) (by decide +kernel) (by decide +kernel)
theorem m_114 : Cond.methodLink R_Reader 3 objectInit ∈ bigW := big_r (i := 114) (by decide +kernel) (by decide +kernel)
theorem m_115 : Cond.fieldLink R_Reader 9 "ValueTexts$Reader" "tape" "LValueTexts$Row;" ∈ bigW := big_r (i := 115) (by decide +kernel) (by decide +kernel)
theorem m_116 : Cond.fieldLink R_Reader 15 "ValueTexts$Reader" "tree" "LValueTexts$Tree;" ∈ bigW := big_r (i := 116) (by decide +kernel) (by decide +kernel)
theorem m_117 : Cond.fieldLink R_Reader 19 "ValueTexts$Reader" "at" "I" ∈ bigW := big_r (i := 117) (by decide +kernel) (by decide +kernel)
theorem m_125 : Cond.methodLink R_V 50 y_Reader_readsAll ∈ bigW := big_r (i := 125) (by decide +kernel) (by decide +kernel)
theorem m_126 : Cond.instanceMethod y_Reader_readsAll ∈ bigW := big_r (i := 126) (by decide +kernel) (by decide +kernel)
theorem m_127 : Cond.selects R_Reader y_Reader_readsAll y_Reader_readsAll ∈ bigW := big_r (i := 127) (by decide +kernel) (by decide +kernel)
theorem m_128 : Cond.code y_Reader_readsAll b_Reader_readsAll 1 (some .boolean) ∈ bigW := big_r (i := 128) (by decide +kernel) (by decide +kernel)
theorem m_129 : Cond.methodLink R_Reader 23 y_Tree_clear ∈ bigW := big_r (i := 129) (by decide +kernel) (by decide +kernel)
theorem m_130 : Cond.instanceMethod y_Tree_clear ∈ bigW := big_r (i := 130) (by decide +kernel) (by decide +kernel)
theorem m_131 : Cond.selects R_Tree y_Tree_clear y_Tree_clear ∈ bigW := big_r (i := 131) (by decide +kernel) (by decide +kernel)
theorem m_132 : Cond.code y_Tree_clear b_Tree_clear 1 none ∈ bigW := big_r (i := 132) (by decide +kernel) (by decide +kernel)
theorem m_133 : Cond.methodLink R_Tree 38 y_Row_cut ∈ bigW := big_r (i := 133) (by decide +kernel) (by decide +kernel)
theorem m_134 : Cond.methodLink R_Reader 28 y_Reader_object ∈ bigW := big_r (i := 134) (by decide +kernel) (by decide +kernel)
theorem m_136 : Cond.instanceMethod y_Reader_object ∈ bigW := big_r (i := 136) (by decide +kernel) (by decide +kernel)
theorem m_137 : Cond.code y_Reader_object b_Reader_object 2 (some .boolean) ∈ bigW := big_r (i := 137) (by decide +kernel) (by decide +kernel)
theorem m_138 : Cond.methodLink R_Reader 32 y_Reader_afterWhite ∈ bigW := big_r (i := 138) (by decide +kernel) (by decide +kernel)
theorem m_140 : Cond.instanceMethod y_Reader_afterWhite ∈ bigW := big_r (i := 140) (by decide +kernel) (by decide +kernel)
theorem m_141 : Cond.code y_Reader_afterWhite b_Reader_afterWhite 3 (some .int) ∈ bigW := big_r (i := 141) (by decide +kernel) (by decide +kernel)
theorem m_142 : Cond.methodLink R_Reader 36 y_Row_size ∈ bigW := big_r (i := 142) (by decide +kernel) (by decide +kernel)
theorem m_143 : Cond.methodLink R_Reader 42 y_Row_get ∈ bigW := big_r (i := 143) (by decide +kernel) (by decide +kernel)
theorem m_144 : Cond.instanceMethod y_Row_get ∈ bigW := big_r (i := 144) (by decide +kernel) (by decide +kernel)
theorem m_145 : Cond.selects R_Row y_Row_get y_Row_get ∈ bigW := big_r (i := 145) (by decide +kernel) (by decide +kernel)
theorem m_146 : Cond.code y_Row_get b_Row_get 2 (some .int) ∈ bigW := big_r (i := 146) (by decide +kernel) (by decide +kernel)
theorem m_147 : Cond.methodLink R_Reader 139 y_Reader_isWhite ∈ bigW := big_r (i := 147) (by decide +kernel) (by decide +kernel)
theorem m_148 : Cond.static y_Reader_isWhite ∈ bigW := big_r (i := 148) (by decide +kernel) (by decide +kernel)
theorem m_149 : Cond.code y_Reader_isWhite b_Reader_isWhite 1 (some .boolean) ∈ bigW := big_r (i := 149) (by decide +kernel) (by decide +kernel)
theorem m_150 : Cond.methodLink R_Reader 45 y_Reader_name ∈ bigW := big_r (i := 150) (by decide +kernel) (by decide +kernel)
theorem m_152 : Cond.instanceMethod y_Reader_name ∈ bigW := big_r (i := 152) (by decide +kernel) (by decide +kernel)
theorem m_153 : Cond.code y_Reader_name b_Reader_name 2 (some .boolean) ∈ bigW := big_r (i := 153) (by decide +kernel) (by decide +kernel)
theorem m_154 : Cond.methodLink R_Reader 75 y_Reader_wordLength ∈ bigW := big_r (i := 154) (by decide +kernel) (by decide +kernel)
theorem m_156 : Cond.instanceMethod y_Reader_wordLength ∈ bigW := big_r (i := 156) (by decide +kernel) (by decide +kernel)
theorem m_157 : Cond.code y_Reader_wordLength b_Reader_wordLength 3 (some .int) ∈ bigW := big_r (i := 157) (by decide +kernel) (by decide +kernel)
theorem m_158 : Cond.methodLink R_Reader 136 y_Reader_isRegular ∈ bigW := big_r (i := 158) (by decide +kernel) (by decide +kernel)
theorem m_159 : Cond.static y_Reader_isRegular ∈ bigW := big_r (i := 159) (by decide +kernel) (by decide +kernel)
theorem m_160 : Cond.code y_Reader_isRegular b_Reader_isRegular 1 (some .boolean) ∈ bigW := big_r (i := 160) (by decide +kernel) (by decide +kernel)
theorem m_161 : Cond.methodLink R_Reader 82 y_Tree_text ∈ bigW := big_r (i := 161) (by decide +kernel) (by decide +kernel)
theorem m_162 : Cond.instanceMethod y_Tree_text ∈ bigW := big_r (i := 162) (by decide +kernel) (by decide +kernel)
theorem m_163 : Cond.selects R_Tree y_Tree_text y_Tree_text ∈ bigW := big_r (i := 163) (by decide +kernel) (by decide +kernel)
theorem m_164 : Cond.code y_Tree_text b_Tree_text 1 (some (.object "ValueTexts$Row")) ∈ bigW := big_r (i := 164) (by decide +kernel) (by decide +kernel)
theorem m_165 : Cond.methodLink R_Reader 67 y_Tree_add ∈ bigW := big_r (i := 165) (by decide +kernel) (by decide +kernel)
theorem m_166 : Cond.instanceMethod y_Tree_add ∈ bigW := big_r (i := 166) (by decide +kernel) (by decide +kernel)
theorem m_167 : Cond.selects R_Tree y_Tree_add y_Tree_add ∈ bigW := big_r (i := 167) (by decide +kernel) (by decide +kernel)
theorem m_168 : Cond.code y_Tree_add b_Tree_add 5 (some .int) ∈ bigW := big_r (i := 168) (by decide +kernel) (by decide +kernel)
theorem m_169 : Cond.methodLink R_Reader 86 y_Row_addFrom ∈ bigW := big_r (i := 169) (by decide +kernel) (by decide +kernel)
theorem m_170 : Cond.instanceMethod y_Row_addFrom ∈ bigW := big_r (i := 170) (by decide +kernel) (by decide +kernel)
theorem m_171 : Cond.selects R_Row y_Row_addFrom y_Row_addFrom ∈ bigW := big_r (i := 171) (by decide +kernel) (by decide +kernel)
theorem m_172 : Cond.code y_Row_addFrom b_Row_addFrom 5 none ∈ bigW := big_r (i := 172) (by decide +kernel) (by decide +kernel)
theorem m_173 : Cond.methodLink R_Row 31 y_Row_get ∈ bigW := big_r (i := 173) (by decide +kernel) (by decide +kernel)
theorem m_174 : Cond.methodLink R_Reader 49 y_Reader_plainString ∈ bigW := big_r (i := 174) (by decide +kernel) (by decide +kernel)
theorem m_176 : Cond.instanceMethod y_Reader_plainString ∈ bigW := big_r (i := 176) (by decide +kernel) (by decide +kernel)
theorem m_177 : Cond.code y_Reader_plainString b_Reader_plainString 4 (some .boolean) ∈ bigW := big_r (i := 177) (by decide +kernel) (by decide +kernel)
theorem m_178 : Cond.methodLink R_Reader 90 y_Reader_escaped ∈ bigW := big_r (i := 178) (by decide +kernel) (by decide +kernel)
theorem m_180 : Cond.instanceMethod y_Reader_escaped ∈ bigW := big_r (i := 180) (by decide +kernel) (by decide +kernel)
theorem m_181 : Cond.code y_Reader_escaped b_Reader_escaped 5 (some .int) ∈ bigW := big_r (i := 181) (by decide +kernel) (by decide +kernel)
theorem m_182 : Cond.methodLink R_Reader 95 y_Reader_octalDigit ∈ bigW := big_r (i := 182) (by decide +kernel) (by decide +kernel)
theorem m_184 : Cond.instanceMethod y_Reader_octalDigit ∈ bigW := big_r (i := 184) (by decide +kernel) (by decide +kernel)
theorem m_185 : Cond.code y_Reader_octalDigit b_Reader_octalDigit 3 (some .int) ∈ bigW := big_r (i := 185) (by decide +kernel) (by decide +kernel)
theorem m_186 : Cond.methodLink R_Reader 93 y_Row_add ∈ bigW := big_r (i := 186) (by decide +kernel) (by decide +kernel)
theorem m_187 : Cond.methodLink R_Reader 52 y_Reader_dict ∈ bigW := big_r (i := 187) (by decide +kernel) (by decide +kernel)
theorem m_189 : Cond.instanceMethod y_Reader_dict ∈ bigW := big_r (i := 189) (by decide +kernel) (by decide +kernel)
theorem m_190 : Cond.code y_Reader_dict b_Reader_dict 5 (some .boolean) ∈ bigW := big_r (i := 190) (by decide +kernel) (by decide +kernel)
theorem m_191 : Cond.methodLink R_Reader 78 y_Tree_valueNamed ∈ bigW := big_r (i := 191) (by decide +kernel) (by decide +kernel)
theorem m_192 : Cond.instanceMethod y_Tree_valueNamed ∈ bigW := big_r (i := 192) (by decide +kernel) (by decide +kernel)
theorem m_193 : Cond.selects R_Tree y_Tree_valueNamed y_Tree_valueNamed ∈ bigW := big_r (i := 193) (by decide +kernel) (by decide +kernel)
theorem m_194 : Cond.code y_Tree_valueNamed b_Tree_valueNamed 8 (some .int) ∈ bigW := big_r (i := 194) (by decide +kernel) (by decide +kernel)
theorem m_195 : Cond.methodLink R_Tree 49 y_Tree_kind ∈ bigW := big_r (i := 195) (by decide +kernel) (by decide +kernel)
theorem m_196 : Cond.instanceMethod y_Tree_kind ∈ bigW := big_r (i := 196) (by decide +kernel) (by decide +kernel)
theorem m_197 : Cond.selects R_Tree y_Tree_kind y_Tree_kind ∈ bigW := big_r (i := 197) (by decide +kernel) (by decide +kernel)
theorem m_198 : Cond.code y_Tree_kind b_Tree_kind 2 (some .int) ∈ bigW := big_r (i := 198) (by decide +kernel) (by decide +kernel)
theorem m_199 : Cond.methodLink R_Tree 41 y_Tree_holds ∈ bigW := big_r (i := 199) (by decide +kernel) (by decide +kernel)
theorem m_201 : Cond.instanceMethod y_Tree_holds ∈ bigW := big_r (i := 201) (by decide +kernel) (by decide +kernel)
theorem m_202 : Cond.code y_Tree_holds b_Tree_holds 2 (some .boolean) ∈ bigW := big_r (i := 202) (by decide +kernel) (by decide +kernel)
theorem m_203 : Cond.methodLink R_Tree 45 y_Tree_number ∈ bigW := big_r (i := 203) (by decide +kernel) (by decide +kernel)
theorem m_204 : Cond.instanceMethod y_Tree_number ∈ bigW := big_r (i := 204) (by decide +kernel) (by decide +kernel)
theorem m_205 : Cond.selects R_Tree y_Tree_number y_Tree_number ∈ bigW := big_r (i := 205) (by decide +kernel) (by decide +kernel)
theorem m_206 : Cond.code y_Tree_number b_Tree_number 2 (some .int) ∈ bigW := big_r (i := 206) (by decide +kernel) (by decide +kernel)
theorem m_207 : Cond.methodLink R_Tree 62 y_Tree_other ∈ bigW := big_r (i := 207) (by decide +kernel) (by decide +kernel)
theorem m_208 : Cond.instanceMethod y_Tree_other ∈ bigW := big_r (i := 208) (by decide +kernel) (by decide +kernel)
theorem m_209 : Cond.selects R_Tree y_Tree_other y_Tree_other ∈ bigW := big_r (i := 209) (by decide +kernel) (by decide +kernel)
theorem m_210 : Cond.code y_Tree_other b_Tree_other 2 (some .int) ∈ bigW := big_r (i := 210) (by decide +kernel) (by decide +kernel)
theorem m_211 : Cond.methodLink R_Tree 65 y_Row_hasAt ∈ bigW := big_r (i := 211) (by decide +kernel) (by decide +kernel)
theorem m_212 : Cond.instanceMethod y_Row_hasAt ∈ bigW := big_r (i := 212) (by decide +kernel) (by decide +kernel)
theorem m_213 : Cond.selects R_Row y_Row_hasAt y_Row_hasAt ∈ bigW := big_r (i := 213) (by decide +kernel) (by decide +kernel)
theorem m_214 : Cond.code y_Row_hasAt b_Row_hasAt 6 (some .boolean) ∈ bigW := big_r (i := 214) (by decide +kernel) (by decide +kernel)
theorem m_215 : Cond.methodLink R_Tree 59 y_Tree_after ∈ bigW := big_r (i := 215) (by decide +kernel) (by decide +kernel)
theorem m_216 : Cond.instanceMethod y_Tree_after ∈ bigW := big_r (i := 216) (by decide +kernel) (by decide +kernel)
theorem m_217 : Cond.selects R_Tree y_Tree_after y_Tree_after ∈ bigW := big_r (i := 217) (by decide +kernel) (by decide +kernel)
theorem m_218 : Cond.code y_Tree_after b_Tree_after 2 (some .int) ∈ bigW := big_r (i := 218) (by decide +kernel) (by decide +kernel)
theorem m_219 : Cond.methodLink R_Reader 71 y_Tree_countPart ∈ bigW := big_r (i := 219) (by decide +kernel) (by decide +kernel)
theorem m_220 : Cond.instanceMethod y_Tree_countPart ∈ bigW := big_r (i := 220) (by decide +kernel) (by decide +kernel)
theorem m_221 : Cond.selects R_Tree y_Tree_countPart y_Tree_countPart ∈ bigW := big_r (i := 221) (by decide +kernel) (by decide +kernel)
theorem m_222 : Cond.code y_Tree_countPart b_Tree_countPart 2 none ∈ bigW := big_r (i := 222) (by decide +kernel) (by decide +kernel)
theorem m_223 : Cond.methodLink R_Reader 55 y_Reader_hexString ∈ bigW := big_r (i := 223) (by decide +kernel) (by decide +kernel)
theorem m_225 : Cond.instanceMethod y_Reader_hexString ∈ bigW := big_r (i := 225) (by decide +kernel) (by decide +kernel)
theorem m_226 : Cond.code y_Reader_hexString b_Reader_hexString 5 (some .boolean) ∈ bigW := big_r (i := 226) (by decide +kernel) (by decide +kernel)
theorem m_227 : Cond.methodLink R_Reader 98 y_Reader_hexDigit ∈ bigW := big_r (i := 227) (by decide +kernel) (by decide +kernel)
theorem m_229 : Cond.instanceMethod y_Reader_hexDigit ∈ bigW := big_r (i := 229) (by decide +kernel) (by decide +kernel)
theorem m_230 : Cond.code y_Reader_hexDigit b_Reader_hexDigit 3 (some .int) ∈ bigW := big_r (i := 230) (by decide +kernel) (by decide +kernel)
theorem m_231 : Cond.methodLink R_Reader 58 y_Reader_array ∈ bigW := big_r (i := 231) (by decide +kernel) (by decide +kernel)
theorem m_233 : Cond.instanceMethod y_Reader_array ∈ bigW := big_r (i := 233) (by decide +kernel) (by decide +kernel)
theorem m_234 : Cond.code y_Reader_array b_Reader_array 4 (some .boolean) ∈ bigW := big_r (i := 234) (by decide +kernel) (by decide +kernel)
theorem m_235 : Cond.methodLink R_Reader 61 y_Reader_number ∈ bigW := big_r (i := 235) (by decide +kernel) (by decide +kernel)
theorem m_237 : Cond.instanceMethod y_Reader_number ∈ bigW := big_r (i := 237) (by decide +kernel) (by decide +kernel)
theorem m_238 : Cond.code y_Reader_number b_Reader_number 6 (some .boolean) ∈ bigW := big_r (i := 238) (by decide +kernel) (by decide +kernel)
theorem m_239 : Cond.methodLink R_Reader 123 y_Reader_isInt ∈ bigW := big_r (i := 239) (by decide +kernel) (by decide +kernel)
theorem m_241 : Cond.instanceMethod y_Reader_isInt ∈ bigW := big_r (i := 241) (by decide +kernel) (by decide +kernel)
theorem m_242 : Cond.code y_Reader_isInt b_Reader_isInt 7 (some .boolean) ∈ bigW := big_r (i := 242) (by decide +kernel) (by decide +kernel)
theorem m_243 : Cond.methodLink R_Reader 127 y_Reader_isBelow ∈ bigW := big_r (i := 243) (by decide +kernel) (by decide +kernel)
theorem m_245 : Cond.instanceMethod y_Reader_isBelow ∈ bigW := big_r (i := 245) (by decide +kernel) (by decide +kernel)
theorem m_246 : Cond.code y_Reader_isBelow b_Reader_isBelow 4 (some .boolean) ∈ bigW := big_r (i := 246) (by decide +kernel) (by decide +kernel)
theorem m_247 : Cond.methodLink R_Reader 132 y_Reader_numberAt ∈ bigW := big_r (i := 247) (by decide +kernel) (by decide +kernel)
theorem m_249 : Cond.instanceMethod y_Reader_numberAt ∈ bigW := big_r (i := 249) (by decide +kernel) (by decide +kernel)
theorem m_250 : Cond.code y_Reader_numberAt b_Reader_numberAt 6 (some .int) ∈ bigW := big_r (i := 250) (by decide +kernel) (by decide +kernel)
theorem m_251 : Cond.constant R_Reader 131 65536 ∈ bigW := big_r (i := 251) (by decide +kernel) (by decide +kernel)
theorem m_252 : Cond.methodLink R_Reader 64 y_Reader_word ∈ bigW := big_r (i := 252) (by decide +kernel) (by decide +kernel)
theorem m_254 : Cond.instanceMethod y_Reader_word ∈ bigW := big_r (i := 254) (by decide +kernel) (by decide +kernel)
theorem m_255 : Cond.code y_Reader_word b_Reader_word 3 (some .boolean) ∈ bigW := big_r (i := 255) (by decide +kernel) (by decide +kernel)
theorem m_256 : Cond.methodLink R_Reader 101 y_Reader_kindOfWord ∈ bigW := big_r (i := 256) (by decide +kernel) (by decide +kernel)
theorem m_258 : Cond.instanceMethod y_Reader_kindOfWord ∈ bigW := big_r (i := 258) (by decide +kernel) (by decide +kernel)
theorem m_259 : Cond.code y_Reader_kindOfWord b_Reader_kindOfWord 2 (some .int) ∈ bigW := big_r (i := 259) (by decide +kernel) (by decide +kernel)
theorem m_261 : Cond.methodLink R_Reader 106 y_Reader_isWord ∈ bigW := big_r (i := 261) (by decide +kernel) (by decide +kernel)
theorem m_263 : Cond.instanceMethod y_Reader_isWord ∈ bigW := big_r (i := 263) (by decide +kernel) (by decide +kernel)
theorem m_264 : Cond.code y_Reader_isWord b_Reader_isWord 4 (some .boolean) ∈ bigW := big_r (i := 264) (by decide +kernel) (by decide +kernel)
theorem m_265 : Cond.methodLink R_Reader 114 y_Str_length ∈ bigW := big_r (i := 265) (by decide +kernel) (by decide +kernel)
theorem m_266 : Cond.instanceMethod y_Str_length ∈ bigW := big_r (i := 266) (by decide +kernel) (by decide +kernel)
theorem m_267 : Cond.selects R_Str y_Str_length y_Str_length ∈ bigW := big_r (i := 267) (by decide +kernel) (by decide +kernel)
theorem m_268 : Cond.code y_Str_length b_Str_length 1 (some .int) ∈ bigW := big_r (i := 268) (by decide +kernel) (by decide +kernel)
theorem m_269 : Cond.methodLink R_Str 335 y_Str_coder ∈ bigW := big_r (i := 269) (by decide +kernel) (by decide +kernel)
theorem m_270 : Cond.instanceMethod y_Str_coder ∈ bigW := big_r (i := 270) (by decide +kernel) (by decide +kernel)
theorem m_271 : Cond.selects R_Str y_Str_coder y_Str_coder ∈ bigW := big_r (i := 271) (by decide +kernel) (by decide +kernel)
theorem m_272 : Cond.code y_Str_coder b_Str_coder 1 (some .byte) ∈ bigW := big_r (i := 272) (by decide +kernel) (by decide +kernel)
theorem m_273 : Cond.fieldLink R_Str 38 "java/lang/String" "COMPACT_STRINGS" "Z" ∈ bigW := big_r (i := 273) (by decide +kernel) (by decide +kernel)
theorem m_275 : Cond.methodLink R_Reader 119 y_Str_charAt ∈ bigW := big_r (i := 275) (by decide +kernel) (by decide +kernel)
theorem m_276 : Cond.instanceMethod y_Str_charAt ∈ bigW := big_r (i := 276) (by decide +kernel) (by decide +kernel)
theorem m_277 : Cond.selects R_Str y_Str_charAt y_Str_charAt ∈ bigW := big_r (i := 277) (by decide +kernel) (by decide +kernel)
theorem m_278 : Cond.code y_Str_charAt b_Str_charAt 2 (some .char) ∈ bigW := big_r (i := 278) (by decide +kernel) (by decide +kernel)
theorem m_279 : Cond.methodLink R_Str 492 y_Str_isLatin1 ∈ bigW := big_r (i := 279) (by decide +kernel) (by decide +kernel)
theorem m_280 : Cond.instanceMethod y_Str_isLatin1 ∈ bigW := big_r (i := 280) (by decide +kernel) (by decide +kernel)
theorem m_281 : Cond.selects R_Str y_Str_isLatin1 y_Str_isLatin1 ∈ bigW := big_r (i := 281) (by decide +kernel) (by decide +kernel)
theorem m_282 : Cond.code y_Str_isLatin1 b_Str_isLatin1 1 (some .boolean) ∈ bigW := big_r (i := 282) (by decide +kernel) (by decide +kernel)
theorem m_283 : Cond.methodLink R_Str 495 y_SL_charAt ∈ bigW := big_r (i := 283) (by decide +kernel) (by decide +kernel)
theorem m_284 : Cond.static y_SL_charAt ∈ bigW := big_r (i := 284) (by decide +kernel) (by decide +kernel)
theorem m_285 : Cond.code y_SL_charAt b_SL_charAt 2 (some .char) ∈ bigW := big_r (i := 285) (by decide +kernel) (by decide +kernel)
theorem m_286 : Cond.methodLink R_SL 9 y_Str_checkIndex ∈ bigW := big_r (i := 286) (by decide +kernel) (by decide +kernel)
theorem m_287 : Cond.static y_Str_checkIndex ∈ bigW := big_r (i := 287) (by decide +kernel) (by decide +kernel)
theorem m_288 : Cond.code y_Str_checkIndex b_Str_checkIndex 2 none ∈ bigW := big_r (i := 288) (by decide +kernel) (by decide +kernel)
theorem m_289 : Cond.fieldLink R_Str 1053 "jdk/internal/util/Preconditions" "SIOOBE_FORMATTER" "Ljava/util/function/BiFunction;" ∈ bigW := big_r (i := 289) (by decide +kernel) (by decide +kernel)
theorem m_291 : Cond.methodLink R_Str 1059 y_Pre_checkIndex ∈ bigW := big_r (i := 291) (by decide +kernel) (by decide +kernel)
theorem m_292 : Cond.static y_Pre_checkIndex ∈ bigW := big_r (i := 292) (by decide +kernel) (by decide +kernel)
theorem m_293 : Cond.code y_Pre_checkIndex b_Pre_checkIndex 3 (some .int) ∈ bigW := big_r (i := 293) (by decide +kernel) (by decide +kernel)
theorem m_303 : Cond.methodLink "java/lang/StringUTF16" 414 y_Str_checkIndex ∈ bigW := big_r (i := 303) (by decide +kernel) (by decide +kernel)
theorem m_307 : Cond.fieldLink "java/lang/StringUTF16" 44 "java/lang/StringUTF16" "$assertionsDisabled" "Z" ∈ bigW := big_r (i := 307) (by decide +kernel) (by decide +kernel)
theorem m_309 : Cond.fieldLink "java/lang/StringUTF16" 59 "java/lang/StringUTF16" "HI_BYTE_SHIFT" "I" ∈ bigW := big_r (i := 309) (by decide +kernel) (by decide +kernel)
theorem m_311 : Cond.fieldLink "java/lang/StringUTF16" 63 "java/lang/StringUTF16" "LO_BYTE_SHIFT" "I" ∈ bigW := big_r (i := 311) (by decide +kernel) (by decide +kernel)
theorem m_315 : Cond.methodLink R_V 54 y_Tree_kind ∈ bigW := big_r (i := 315) (by decide +kernel) (by decide +kernel)
theorem m_316 : Cond.methodLink R_L 28 y_V_write ∈ bigW := big_r (i := 316) (by decide +kernel) (by decide +kernel)
theorem m_317 : Cond.instanceMethod y_V_write ∈ bigW := big_r (i := 317) (by decide +kernel) (by decide +kernel)
theorem m_318 : Cond.selects R_V y_V_write y_V_write ∈ bigW := big_r (i := 318) (by decide +kernel) (by decide +kernel)
theorem m_319 : Cond.code y_V_write b_V_write 1 (some .int) ∈ bigW := big_r (i := 319) (by decide +kernel) (by decide +kernel)
theorem m_320 : Cond.classLink R_V 58 R_Writer ∈ bigW := big_r (i := 320) (by decide +kernel) (by decide +kernel)
theorem m_321 : Cond.instantiable R_Writer 2 ∈ bigW := big_r (i := 321) (by decide +kernel) (by decide +kernel)
theorem m_322 : Cond.methodLink R_V 60 y_Writer_init ∈ bigW := big_r (i := 322) (by decide +kernel) (by decide +kernel)
theorem m_323 : Cond.instanceMethod y_Writer_init ∈ bigW := big_r (i := 323) (by decide +kernel) (by decide +kernel)
theorem m_324 : Cond.code y_Writer_init b_Writer_init 3 none ∈ bigW := big_r (i := 324) (by decide +kernel) (by decide +kernel)
theorem m_325 : Cond.methodLink R_Writer 3 objectInit ∈ bigW := big_r (i := 325) (by decide +kernel) (by decide +kernel)
theorem m_326 : Cond.fieldLink R_Writer 9 "ValueTexts$Writer" "tree" "LValueTexts$Tree;" ∈ bigW := big_r (i := 326) (by decide +kernel) (by decide +kernel)
theorem m_327 : Cond.fieldLink R_Writer 15 "ValueTexts$Writer" "out" "LValueTexts$Row;" ∈ bigW := big_r (i := 327) (by decide +kernel) (by decide +kernel)
theorem m_333 : Cond.methodLink R_V 63 y_Writer_addAll ∈ bigW := big_r (i := 333) (by decide +kernel) (by decide +kernel)
theorem m_334 : Cond.instanceMethod y_Writer_addAll ∈ bigW := big_r (i := 334) (by decide +kernel) (by decide +kernel)
theorem m_335 : Cond.selects R_Writer y_Writer_addAll y_Writer_addAll ∈ bigW := big_r (i := 335) (by decide +kernel) (by decide +kernel)
theorem m_336 : Cond.code y_Writer_addAll b_Writer_addAll 2 none ∈ bigW := big_r (i := 336) (by decide +kernel) (by decide +kernel)
theorem m_337 : Cond.methodLink R_Writer 19 y_Writer_addValue ∈ bigW := big_r (i := 337) (by decide +kernel) (by decide +kernel)
theorem m_339 : Cond.instanceMethod y_Writer_addValue ∈ bigW := big_r (i := 339) (by decide +kernel) (by decide +kernel)
theorem m_340 : Cond.code y_Writer_addValue b_Writer_addValue 3 none ∈ bigW := big_r (i := 340) (by decide +kernel) (by decide +kernel)
theorem m_341 : Cond.methodLink R_Writer 23 y_Tree_kind ∈ bigW := big_r (i := 341) (by decide +kernel) (by decide +kernel)
theorem m_343 : Cond.methodLink R_Writer 31 y_Row_addWord ∈ bigW := big_r (i := 343) (by decide +kernel) (by decide +kernel)
theorem m_344 : Cond.instanceMethod y_Row_addWord ∈ bigW := big_r (i := 344) (by decide +kernel) (by decide +kernel)
theorem m_345 : Cond.selects R_Row y_Row_addWord y_Row_addWord ∈ bigW := big_r (i := 345) (by decide +kernel) (by decide +kernel)
theorem m_346 : Cond.code y_Row_addWord b_Row_addWord 3 none ∈ bigW := big_r (i := 346) (by decide +kernel) (by decide +kernel)
theorem m_347 : Cond.methodLink R_Row 21 y_Str_length ∈ bigW := big_r (i := 347) (by decide +kernel) (by decide +kernel)
theorem m_348 : Cond.methodLink R_Row 27 y_Str_charAt ∈ bigW := big_r (i := 348) (by decide +kernel) (by decide +kernel)
theorem m_351 : Cond.methodLink R_Writer 41 y_Tree_number ∈ bigW := big_r (i := 351) (by decide +kernel) (by decide +kernel)
theorem m_352 : Cond.methodLink R_Writer 44 y_Writer_addInt ∈ bigW := big_r (i := 352) (by decide +kernel) (by decide +kernel)
theorem m_354 : Cond.instanceMethod y_Writer_addInt ∈ bigW := big_r (i := 354) (by decide +kernel) (by decide +kernel)
theorem m_355 : Cond.code y_Writer_addInt b_Writer_addInt 6 none ∈ bigW := big_r (i := 355) (by decide +kernel) (by decide +kernel)
theorem m_356 : Cond.methodLink R_Writer 63 y_Row_add ∈ bigW := big_r (i := 356) (by decide +kernel) (by decide +kernel)
theorem m_357 : Cond.constant R_Writer 66 100000000 ∈ bigW := big_r (i := 357) (by decide +kernel) (by decide +kernel)
theorem m_358 : Cond.methodLink R_Writer 48 y_Writer_addName ∈ bigW := big_r (i := 358) (by decide +kernel) (by decide +kernel)
theorem m_360 : Cond.instanceMethod y_Writer_addName ∈ bigW := big_r (i := 360) (by decide +kernel) (by decide +kernel)
theorem m_361 : Cond.code y_Writer_addName b_Writer_addName 2 none ∈ bigW := big_r (i := 361) (by decide +kernel) (by decide +kernel)
theorem m_362 : Cond.methodLink R_Writer 67 y_Tree_text ∈ bigW := big_r (i := 362) (by decide +kernel) (by decide +kernel)
theorem m_363 : Cond.methodLink R_Writer 71 y_Tree_other ∈ bigW := big_r (i := 363) (by decide +kernel) (by decide +kernel)
theorem m_364 : Cond.methodLink R_Writer 74 y_Row_addFrom ∈ bigW := big_r (i := 364) (by decide +kernel) (by decide +kernel)
theorem m_365 : Cond.methodLink R_Writer 51 y_Writer_addString ∈ bigW := big_r (i := 365) (by decide +kernel) (by decide +kernel)
theorem m_367 : Cond.instanceMethod y_Writer_addString ∈ bigW := big_r (i := 367) (by decide +kernel) (by decide +kernel)
theorem m_368 : Cond.code y_Writer_addString b_Writer_addString 4 none ∈ bigW := big_r (i := 368) (by decide +kernel) (by decide +kernel)
theorem m_369 : Cond.methodLink R_Writer 78 y_Row_get ∈ bigW := big_r (i := 369) (by decide +kernel) (by decide +kernel)
theorem m_370 : Cond.methodLink R_Writer 81 y_Writer_hexDigit ∈ bigW := big_r (i := 370) (by decide +kernel) (by decide +kernel)
theorem m_371 : Cond.static y_Writer_hexDigit ∈ bigW := big_r (i := 371) (by decide +kernel) (by decide +kernel)
theorem m_372 : Cond.code y_Writer_hexDigit b_Writer_hexDigit 1 (some .int) ∈ bigW := big_r (i := 372) (by decide +kernel) (by decide +kernel)
theorem m_373 : Cond.methodLink R_Writer 54 y_Writer_addArray ∈ bigW := big_r (i := 373) (by decide +kernel) (by decide +kernel)
theorem m_375 : Cond.instanceMethod y_Writer_addArray ∈ bigW := big_r (i := 375) (by decide +kernel) (by decide +kernel)
theorem m_376 : Cond.code y_Writer_addArray b_Writer_addArray 5 none ∈ bigW := big_r (i := 376) (by decide +kernel) (by decide +kernel)
theorem m_377 : Cond.methodLink R_Writer 86 y_Writer_addSpaceBefore ∈ bigW := big_r (i := 377) (by decide +kernel) (by decide +kernel)
theorem m_379 : Cond.instanceMethod y_Writer_addSpaceBefore ∈ bigW := big_r (i := 379) (by decide +kernel) (by decide +kernel)
theorem m_380 : Cond.code y_Writer_addSpaceBefore b_Writer_addSpaceBefore 2 none ∈ bigW := big_r (i := 380) (by decide +kernel) (by decide +kernel)
theorem m_381 : Cond.methodLink R_Writer 89 y_Tree_after ∈ bigW := big_r (i := 381) (by decide +kernel) (by decide +kernel)
theorem m_382 : Cond.methodLink R_Writer 57 y_Writer_addDict ∈ bigW := big_r (i := 382) (by decide +kernel) (by decide +kernel)
theorem m_384 : Cond.instanceMethod y_Writer_addDict ∈ bigW := big_r (i := 384) (by decide +kernel) (by decide +kernel)
theorem m_385 : Cond.code y_Writer_addDict b_Writer_addDict 5 none ∈ bigW := big_r (i := 385) (by decide +kernel) (by decide +kernel)
theorem m_388 : Cond.methodLink R_Writer 60 y_Writer_addRef ∈ bigW := big_r (i := 388) (by decide +kernel) (by decide +kernel)
theorem m_390 : Cond.instanceMethod y_Writer_addRef ∈ bigW := big_r (i := 390) (by decide +kernel) (by decide +kernel)
theorem m_391 : Cond.code y_Writer_addRef b_Writer_addRef 2 none ∈ bigW := big_r (i := 391) (by decide +kernel) (by decide +kernel)
theorem m_393 : Cond.methodLink R_L 32 y_V_top ∈ bigW := big_r (i := 393) (by decide +kernel) (by decide +kernel)
theorem m_394 : Cond.instanceMethod y_V_top ∈ bigW := big_r (i := 394) (by decide +kernel) (by decide +kernel)
theorem m_395 : Cond.selects R_V y_V_top y_V_top ∈ bigW := big_r (i := 395) (by decide +kernel) (by decide +kernel)
theorem m_396 : Cond.code y_V_top b_V_top 1 (some .int) ∈ bigW := big_r (i := 396) (by decide +kernel) (by decide +kernel)
theorem m_397 : Cond.methodLink R_V 66 y_V_pointAt ∈ bigW := big_r (i := 397) (by decide +kernel) (by decide +kernel)
theorem m_399 : Cond.instanceMethod y_V_pointAt ∈ bigW := big_r (i := 399) (by decide +kernel) (by decide +kernel)
theorem m_400 : Cond.code y_V_pointAt b_V_pointAt 2 (some .int) ∈ bigW := big_r (i := 400) (by decide +kernel) (by decide +kernel)
theorem m_401 : Cond.methodLink R_L 36 y_V_item ∈ bigW := big_r (i := 401) (by decide +kernel) (by decide +kernel)
theorem m_402 : Cond.instanceMethod y_V_item ∈ bigW := big_r (i := 402) (by decide +kernel) (by decide +kernel)
theorem m_403 : Cond.selects R_V y_V_item y_V_item ∈ bigW := big_r (i := 403) (by decide +kernel) (by decide +kernel)
theorem m_404 : Cond.code y_V_item b_V_item 2 (some .int) ∈ bigW := big_r (i := 404) (by decide +kernel) (by decide +kernel)
theorem m_405 : Cond.methodLink R_V 69 y_Tree_part ∈ bigW := big_r (i := 405) (by decide +kernel) (by decide +kernel)
theorem m_406 : Cond.instanceMethod y_Tree_part ∈ bigW := big_r (i := 406) (by decide +kernel) (by decide +kernel)
theorem m_407 : Cond.selects R_Tree y_Tree_part y_Tree_part ∈ bigW := big_r (i := 407) (by decide +kernel) (by decide +kernel)
theorem m_408 : Cond.code y_Tree_part b_Tree_part 3 (some .int) ∈ bigW := big_r (i := 408) (by decide +kernel) (by decide +kernel)
theorem m_409 : Cond.methodLink R_Tree 52 y_Tree_nameNode ∈ bigW := big_r (i := 409) (by decide +kernel) (by decide +kernel)
theorem m_411 : Cond.instanceMethod y_Tree_nameNode ∈ bigW := big_r (i := 411) (by decide +kernel) (by decide +kernel)
theorem m_412 : Cond.code y_Tree_nameNode b_Tree_nameNode 5 (some .int) ∈ bigW := big_r (i := 412) (by decide +kernel) (by decide +kernel)
theorem m_413 : Cond.methodLink R_Tree 56 y_Tree_itemNode ∈ bigW := big_r (i := 413) (by decide +kernel) (by decide +kernel)
theorem m_415 : Cond.instanceMethod y_Tree_itemNode ∈ bigW := big_r (i := 415) (by decide +kernel) (by decide +kernel)
theorem m_416 : Cond.code y_Tree_itemNode b_Tree_itemNode 5 (some .int) ∈ bigW := big_r (i := 416) (by decide +kernel) (by decide +kernel)
theorem m_417 : Cond.methodLink R_L 40 y_V_find ∈ bigW := big_r (i := 417) (by decide +kernel) (by decide +kernel)
theorem m_418 : Cond.instanceMethod y_V_find ∈ bigW := big_r (i := 418) (by decide +kernel) (by decide +kernel)
theorem m_419 : Cond.selects R_V y_V_find y_V_find ∈ bigW := big_r (i := 419) (by decide +kernel) (by decide +kernel)
theorem m_420 : Cond.code y_V_find b_V_find 2 (some .int) ∈ bigW := big_r (i := 420) (by decide +kernel) (by decide +kernel)
theorem m_421 : Cond.methodLink R_V 73 y_Tree_valueNamed ∈ bigW := big_r (i := 421) (by decide +kernel) (by decide +kernel)
theorem m_422 : Cond.methodLink R_L 44 y_V_look ∈ bigW := big_r (i := 422) (by decide +kernel) (by decide +kernel)
theorem m_423 : Cond.instanceMethod y_V_look ∈ bigW := big_r (i := 423) (by decide +kernel) (by decide +kernel)
theorem m_424 : Cond.selects R_V y_V_look y_V_look ∈ bigW := big_r (i := 424) (by decide +kernel) (by decide +kernel)
theorem m_425 : Cond.code y_V_look b_V_look 2 (some .int) ∈ bigW := big_r (i := 425) (by decide +kernel) (by decide +kernel)
theorem m_426 : Cond.methodLink R_V 77 y_Tree_number ∈ bigW := big_r (i := 426) (by decide +kernel) (by decide +kernel)
theorem m_427 : Cond.methodLink R_V 80 y_Tree_other ∈ bigW := big_r (i := 427) (by decide +kernel) (by decide +kernel)
theorem m_428 : Cond.methodLink R_V 83 y_Tree_countValues ∈ bigW := big_r (i := 428) (by decide +kernel) (by decide +kernel)
theorem m_429 : Cond.instanceMethod y_Tree_countValues ∈ bigW := big_r (i := 429) (by decide +kernel) (by decide +kernel)
theorem m_430 : Cond.selects R_Tree y_Tree_countValues y_Tree_countValues ∈ bigW := big_r (i := 430) (by decide +kernel) (by decide +kernel)
theorem m_431 : Cond.code y_Tree_countValues b_Tree_countValues 5 (some .int) ∈ bigW := big_r (i := 431) (by decide +kernel) (by decide +kernel)
theorem m_432 : Cond.methodLink R_L 48 y_V_bytes ∈ bigW := big_r (i := 432) (by decide +kernel) (by decide +kernel)
theorem m_433 : Cond.instanceMethod y_V_bytes ∈ bigW := big_r (i := 433) (by decide +kernel) (by decide +kernel)
theorem m_434 : Cond.selects R_V y_V_bytes y_V_bytes ∈ bigW := big_r (i := 434) (by decide +kernel) (by decide +kernel)
theorem m_435 : Cond.code y_V_bytes b_V_bytes 3 (some .int) ∈ bigW := big_r (i := 435) (by decide +kernel) (by decide +kernel)
theorem m_436 : Cond.methodLink R_V 86 y_Tree_nodeWithText ∈ bigW := big_r (i := 436) (by decide +kernel) (by decide +kernel)
theorem m_437 : Cond.instanceMethod y_Tree_nodeWithText ∈ bigW := big_r (i := 437) (by decide +kernel) (by decide +kernel)
theorem m_438 : Cond.selects R_Tree y_Tree_nodeWithText y_Tree_nodeWithText ∈ bigW := big_r (i := 438) (by decide +kernel) (by decide +kernel)
theorem m_439 : Cond.code y_Tree_nodeWithText b_Tree_nodeWithText 4 (some .int) ∈ bigW := big_r (i := 439) (by decide +kernel) (by decide +kernel)
theorem m_440 : Cond.methodLink R_V 89 y_Tree_text ∈ bigW := big_r (i := 440) (by decide +kernel) (by decide +kernel)
theorem m_441 : Cond.methodLink R_V 93 y_Row_addFrom ∈ bigW := big_r (i := 441) (by decide +kernel) (by decide +kernel)
theorem m_442 : Cond.methodLink R_L 52 y_V_octet ∈ bigW := big_r (i := 442) (by decide +kernel) (by decide +kernel)
theorem m_443 : Cond.instanceMethod y_V_octet ∈ bigW := big_r (i := 443) (by decide +kernel) (by decide +kernel)
theorem m_444 : Cond.selects R_V y_V_octet y_V_octet ∈ bigW := big_r (i := 444) (by decide +kernel) (by decide +kernel)
theorem m_445 : Cond.code y_V_octet b_V_octet 2 (some .int) ∈ bigW := big_r (i := 445) (by decide +kernel) (by decide +kernel)
theorem m_446 : Cond.methodLink R_V 97 y_Row_get ∈ bigW := big_r (i := 446) (by decide +kernel) (by decide +kernel)
theorem m_447 : Cond.classLink R_L 10 R_M ∈ bigW := big_r (i := 447) (by decide +kernel) (by decide +kernel)
theorem m_448 : Cond.instantiable R_M 12 ∈ bigW := big_r (i := 448) (by decide +kernel) (by decide +kernel)
theorem m_449 : Cond.methodLink R_L 12 y_M_init ∈ bigW := big_r (i := 449) (by decide +kernel) (by decide +kernel)
theorem m_450 : Cond.instanceMethod y_M_init ∈ bigW := big_r (i := 450) (by decide +kernel) (by decide +kernel)
theorem m_451 : Cond.code y_M_init b_M_init 1 none ∈ bigW := big_r (i := 451) (by decide +kernel) (by decide +kernel)
theorem m_452 : Cond.methodLink R_M 163 objectInit ∈ bigW := big_r (i := 452) (by decide +kernel) (by decide +kernel)
theorem m_453 : Cond.fieldLink R_M 14 "ValueTextsModel" "text" "[B" ∈ bigW := big_r (i := 453) (by decide +kernel) (by decide +kernel)
theorem m_454 : Cond.fieldLink R_M 11 "ValueTextsModel" "size" "I" ∈ bigW := big_r (i := 454) (by decide +kernel) (by decide +kernel)
theorem m_455 : Cond.fieldLink R_M 7 "ValueTextsModel" "at" "I" ∈ bigW := big_r (i := 455) (by decide +kernel) (by decide +kernel)
theorem m_456 : Cond.fieldLink R_M 122 "ValueTextsModel" "taken" "[B" ∈ bigW := big_r (i := 456) (by decide +kernel) (by decide +kernel)
theorem m_457 : Cond.fieldLink R_M 167 "ValueTextsModel" "tape" "[B" ∈ bigW := big_r (i := 457) (by decide +kernel) (by decide +kernel)
theorem m_458 : Cond.fieldLink R_M 170 "ValueTextsModel" "out" "[B" ∈ bigW := big_r (i := 458) (by decide +kernel) (by decide +kernel)
theorem m_459 : Cond.fieldLink R_M 176 "ValueTextsModel" "tapeMany" "I" ∈ bigW := big_r (i := 459) (by decide +kernel) (by decide +kernel)
theorem m_460 : Cond.fieldLink R_M 206 "ValueTextsModel" "outMany" "I" ∈ bigW := big_r (i := 460) (by decide +kernel) (by decide +kernel)
theorem m_461 : Cond.fieldLink R_M 182 "ValueTextsModel" "all" "LValueTextsModel$Part;" ∈ bigW := big_r (i := 461) (by decide +kernel) (by decide +kernel)
theorem m_462 : Cond.fieldLink R_M 186 "ValueTextsModel" "point" "LValueTextsModel$Part;" ∈ bigW := big_r (i := 462) (by decide +kernel) (by decide +kernel)
theorem m_463 : Cond.fieldLink R_M 173 "ValueTextsModel" "page" "[B" ∈ bigW := big_r (i := 463) (by decide +kernel) (by decide +kernel)
theorem m_464 : Cond.fieldLink R_M 215 "ValueTextsModel" "written" "I" ∈ bigW := big_r (i := 464) (by decide +kernel) (by decide +kernel)
theorem m_490 : Cond.methodLink R_L 17 y_M_feed ∈ bigW := big_r (i := 490) (by decide +kernel) (by decide +kernel)
theorem m_491 : Cond.instanceMethod y_M_feed ∈ bigW := big_r (i := 491) (by decide +kernel) (by decide +kernel)
theorem m_492 : Cond.selects R_M y_M_feed y_M_feed ∈ bigW := big_r (i := 492) (by decide +kernel) (by decide +kernel)
theorem m_493 : Cond.code y_M_feed b_M_feed 8 (some .int) ∈ bigW := big_r (i := 493) (by decide +kernel) (by decide +kernel)
theorem m_494 : Cond.methodLink R_L 22 y_M_end ∈ bigW := big_r (i := 494) (by decide +kernel) (by decide +kernel)
theorem m_495 : Cond.instanceMethod y_M_end ∈ bigW := big_r (i := 495) (by decide +kernel) (by decide +kernel)
theorem m_496 : Cond.selects R_M y_M_end y_M_end ∈ bigW := big_r (i := 496) (by decide +kernel) (by decide +kernel)
theorem m_497 : Cond.code y_M_end b_M_end 2 (some .int) ∈ bigW := big_r (i := 497) (by decide +kernel) (by decide +kernel)
theorem m_498 : Cond.methodLink R_M 48 y_M_in ∈ bigW := big_r (i := 498) (by decide +kernel) (by decide +kernel)
theorem m_499 : Cond.static y_M_in ∈ bigW := big_r (i := 499) (by decide +kernel) (by decide +kernel)
theorem m_500 : Cond.code y_M_in b_M_in 6 (some .boolean) ∈ bigW := big_r (i := 500) (by decide +kernel) (by decide +kernel)
theorem m_501 : Cond.methodLink R_L 27 y_M_read ∈ bigW := big_r (i := 501) (by decide +kernel) (by decide +kernel)
theorem m_502 : Cond.instanceMethod y_M_read ∈ bigW := big_r (i := 502) (by decide +kernel) (by decide +kernel)
theorem m_503 : Cond.selects R_M y_M_read y_M_read ∈ bigW := big_r (i := 503) (by decide +kernel) (by decide +kernel)
theorem m_504 : Cond.code y_M_read b_M_read 2 (some .int) ∈ bigW := big_r (i := 504) (by decide +kernel) (by decide +kernel)
theorem m_505 : Cond.methodLink R_M 179 y_M_used ∈ bigW := big_r (i := 505) (by decide +kernel) (by decide +kernel)
theorem m_507 : Cond.instanceMethod y_M_used ∈ bigW := big_r (i := 507) (by decide +kernel) (by decide +kernel)
theorem m_508 : Cond.code y_M_used b_M_used 2 (some .int) ∈ bigW := big_r (i := 508) (by decide +kernel) (by decide +kernel)
theorem m_509 : Cond.methodLink R_M 148 y_M_object ∈ bigW := big_r (i := 509) (by decide +kernel) (by decide +kernel)
theorem m_511 : Cond.instanceMethod y_M_object ∈ bigW := big_r (i := 511) (by decide +kernel) (by decide +kernel)
theorem m_512 : Cond.code y_M_object b_M_object 9 (some (.object "ValueTextsModel$Part")) ∈ bigW := big_r (i := 512) (by decide +kernel) (by decide +kernel)
theorem m_513 : Cond.methodLink R_M 59 y_M_white ∈ bigW := big_r (i := 513) (by decide +kernel) (by decide +kernel)
theorem m_515 : Cond.instanceMethod y_M_white ∈ bigW := big_r (i := 515) (by decide +kernel) (by decide +kernel)
theorem m_516 : Cond.code y_M_white b_M_white 1 none ∈ bigW := big_r (i := 516) (by decide +kernel) (by decide +kernel)
theorem m_517 : Cond.methodLink R_M 18 y_M_isWhite ∈ bigW := big_r (i := 517) (by decide +kernel) (by decide +kernel)
theorem m_518 : Cond.static y_M_isWhite ∈ bigW := big_r (i := 518) (by decide +kernel) (by decide +kernel)
theorem m_519 : Cond.code y_M_isWhite b_M_isWhite 1 (some .boolean) ∈ bigW := big_r (i := 519) (by decide +kernel) (by decide +kernel)
theorem m_520 : Cond.methodLink R_M 63 y_M_name ∈ bigW := big_r (i := 520) (by decide +kernel) (by decide +kernel)
theorem m_522 : Cond.instanceMethod y_M_name ∈ bigW := big_r (i := 522) (by decide +kernel) (by decide +kernel)
theorem m_523 : Cond.code y_M_name b_M_name 3 (some (.object "ValueTextsModel$Part")) ∈ bigW := big_r (i := 523) (by decide +kernel) (by decide +kernel)
theorem m_524 : Cond.methodLink R_M 38 y_M_wordEnd ∈ bigW := big_r (i := 524) (by decide +kernel) (by decide +kernel)
theorem m_526 : Cond.instanceMethod y_M_wordEnd ∈ bigW := big_r (i := 526) (by decide +kernel) (by decide +kernel)
theorem m_527 : Cond.code y_M_wordEnd b_M_wordEnd 3 (some .int) ∈ bigW := big_r (i := 527) (by decide +kernel) (by decide +kernel)
theorem m_528 : Cond.methodLink R_M 21 y_M_isRegular ∈ bigW := big_r (i := 528) (by decide +kernel) (by decide +kernel)
theorem m_529 : Cond.static y_M_isRegular ∈ bigW := big_r (i := 529) (by decide +kernel) (by decide +kernel)
theorem m_530 : Cond.code y_M_isRegular b_M_isRegular 1 (some .boolean) ∈ bigW := big_r (i := 530) (by decide +kernel) (by decide +kernel)
theorem m_531 : Cond.methodLink R_M 1 y_M_isDelimiter ∈ bigW := big_r (i := 531) (by decide +kernel) (by decide +kernel)
theorem m_532 : Cond.static y_M_isDelimiter ∈ bigW := big_r (i := 532) (by decide +kernel) (by decide +kernel)
theorem m_533 : Cond.code y_M_isDelimiter b_M_isDelimiter 1 (some .boolean) ∈ bigW := big_r (i := 533) (by decide +kernel) (by decide +kernel)
theorem m_534 : Cond.constantLong R_M 111 20 ∈ bigW := big_r (i := 534) (by decide +kernel) (by decide +kernel)
theorem m_535 : Cond.classLink R_M 82 R_Part ∈ bigW := big_r (i := 535) (by decide +kernel) (by decide +kernel)
theorem m_536 : Cond.instantiable R_Part 7 ∈ bigW := big_r (i := 536) (by decide +kernel) (by decide +kernel)
theorem m_537 : Cond.methodLink R_M 84 y_Part_init ∈ bigW := big_r (i := 537) (by decide +kernel) (by decide +kernel)
theorem m_538 : Cond.instanceMethod y_Part_init ∈ bigW := big_r (i := 538) (by decide +kernel) (by decide +kernel)
theorem m_539 : Cond.code y_Part_init b_Part_init 2 none ∈ bigW := big_r (i := 539) (by decide +kernel) (by decide +kernel)
theorem m_540 : Cond.methodLink R_Part 1 objectInit ∈ bigW := big_r (i := 540) (by decide +kernel) (by decide +kernel)
theorem m_541 : Cond.fieldLink R_Part 7 "ValueTextsModel$Part" "kind" "I" ∈ bigW := big_r (i := 541) (by decide +kernel) (by decide +kernel)
theorem m_542 : Cond.fieldLink R_M 189 "ValueTextsModel$Part" "kind" "I" ∈ bigW := big_r (i := 542) (by decide +kernel) (by decide +kernel)
theorem m_543 : Cond.fieldLink R_M 95 "ValueTextsModel$Part" "x" "I" ∈ bigW := big_r (i := 543) (by decide +kernel) (by decide +kernel)
theorem m_544 : Cond.fieldLink R_M 108 "ValueTextsModel$Part" "y" "I" ∈ bigW := big_r (i := 544) (by decide +kernel) (by decide +kernel)
theorem m_545 : Cond.fieldLink R_Part 13 "ValueTextsModel$Part" "many" "I" ∈ bigW := big_r (i := 545) (by decide +kernel) (by decide +kernel)
theorem m_546 : Cond.fieldLink R_M 145 "ValueTextsModel$Part" "many" "I" ∈ bigW := big_r (i := 546) (by decide +kernel) (by decide +kernel)
theorem m_547 : Cond.fieldLink R_M 119 "ValueTextsModel$Part" "bytes" "[B" ∈ bigW := big_r (i := 547) (by decide +kernel) (by decide +kernel)
theorem m_548 : Cond.fieldLink R_Part 16 "ValueTextsModel$Part" "item" "[LValueTextsModel$Part;" ∈ bigW := big_r (i := 548) (by decide +kernel) (by decide +kernel)
theorem m_549 : Cond.fieldLink R_M 141 "ValueTextsModel$Part" "item" "[LValueTextsModel$Part;" ∈ bigW := big_r (i := 549) (by decide +kernel) (by decide +kernel)
theorem m_550 : Cond.fieldLink R_Part 24 "ValueTextsModel$Part" "name" "[[B" ∈ bigW := big_r (i := 550) (by decide +kernel) (by decide +kernel)
theorem m_551 : Cond.fieldLink R_M 156 "ValueTextsModel$Part" "name" "[[B" ∈ bigW := big_r (i := 551) (by decide +kernel) (by decide +kernel)
theorem m_567 : Cond.methodLink R_M 113 y_Arr_copyOfRange ∈ bigW := big_r (i := 567) (by decide +kernel) (by decide +kernel)
theorem m_568 : Cond.static y_Arr_copyOfRange ∈ bigW := big_r (i := 568) (by decide +kernel) (by decide +kernel)
theorem m_569 : Cond.code y_Arr_copyOfRange b_Arr_copyOfRange 3 (some (.array .byte)) ∈ bigW := big_r (i := 569) (by decide +kernel) (by decide +kernel)
theorem m_570 : Cond.methodLink R_Arr 339 y_Arr_copyOfRangeByte ∈ bigW := big_r (i := 570) (by decide +kernel) (by decide +kernel)
theorem m_571 : Cond.static y_Arr_copyOfRangeByte ∈ bigW := big_r (i := 571) (by decide +kernel) (by decide +kernel)
theorem m_572 : Cond.code y_Arr_copyOfRangeByte b_Arr_copyOfRangeByte 5 (some (.array .byte)) ∈ bigW := big_r (i := 572) (by decide +kernel) (by decide +kernel)
theorem m_573 : Cond.methodLink R_Arr 343 y_Arr_checkLength ∈ bigW := big_r (i := 573) (by decide +kernel) (by decide +kernel)
theorem m_574 : Cond.static y_Arr_checkLength ∈ bigW := big_r (i := 574) (by decide +kernel) (by decide +kernel)
theorem m_575 : Cond.code y_Arr_checkLength b_Arr_checkLength 2 none ∈ bigW := big_r (i := 575) (by decide +kernel) (by decide +kernel)
theorem m_576 : Cond.methodLink R_Arr 304 y_Math_min ∈ bigW := big_r (i := 576) (by decide +kernel) (by decide +kernel)
theorem m_577 : Cond.static y_Math_min ∈ bigW := big_r (i := 577) (by decide +kernel) (by decide +kernel)
theorem m_578 : Cond.code y_Math_min b_Math_min 2 (some .int) ∈ bigW := big_r (i := 578) (by decide +kernel) (by decide +kernel)
theorem m_579 : Cond.methodLink R_Arr 150 ⟨"java/lang/System", "arraycopy", "(Ljava/lang/Object;ILjava/lang/Object;II)V"⟩ ∈ bigW := big_r (i := 579) (by decide +kernel) (by decide +kernel)
theorem m_580 : Cond.static ⟨"java/lang/System", "arraycopy", "(Ljava/lang/Object;ILjava/lang/Object;II)V"⟩ ∈ bigW := big_r (i := 580) (by decide +kernel) (by decide +kernel)
theorem m_582 : Cond.methodLink R_Arr 310 ⟨"[B", "clone", "()Ljava/lang/Object;"⟩ ∈ bigW := big_r (i := 582) (by decide +kernel) (by decide +kernel)
theorem m_585 : Cond.instanceMethod ⟨"java/lang/Object", "clone", "()Ljava/lang/Object;"⟩ ∈ bigW := big_r (i := 585) (by decide +kernel) (by decide +kernel)
theorem m_586 : Cond.selects "[B" ⟨"[B", "clone", "()Ljava/lang/Object;"⟩ ⟨"java/lang/Object", "clone", "()Ljava/lang/Object;"⟩ ∈ bigW := big_r (i := 586) (by decide +kernel) (by decide +kernel)
theorem m_588 : Cond.classLink R_Arr 311 "[B" ∈ bigW := big_r (i := 588) (by decide +kernel) (by decide +kernel)
theorem m_589 : Cond.methodLink R_M 67 y_M_string ∈ bigW := big_r (i := 589) (by decide +kernel) (by decide +kernel)
theorem m_591 : Cond.instanceMethod y_M_string ∈ bigW := big_r (i := 591) (by decide +kernel) (by decide +kernel)
theorem m_592 : Cond.code y_M_string b_M_string 3 (some (.object "ValueTextsModel$Part")) ∈ bigW := big_r (i := 592) (by decide +kernel) (by decide +kernel)
theorem m_593 : Cond.methodLink R_M 129 y_M_escaped ∈ bigW := big_r (i := 593) (by decide +kernel) (by decide +kernel)
theorem m_595 : Cond.instanceMethod y_M_escaped ∈ bigW := big_r (i := 595) (by decide +kernel) (by decide +kernel)
theorem m_596 : Cond.code y_M_escaped b_M_escaped 3 (some .int) ∈ bigW := big_r (i := 596) (by decide +kernel) (by decide +kernel)
theorem m_597 : Cond.methodLink R_M 132 y_M_takeByte ∈ bigW := big_r (i := 597) (by decide +kernel) (by decide +kernel)
theorem m_599 : Cond.instanceMethod y_M_takeByte ∈ bigW := big_r (i := 599) (by decide +kernel) (by decide +kernel)
theorem m_600 : Cond.code y_M_takeByte b_M_takeByte 2 (some .boolean) ∈ bigW := big_r (i := 600) (by decide +kernel) (by decide +kernel)
theorem m_601 : Cond.methodLink R_M 135 y_M_ofBytes ∈ bigW := big_r (i := 601) (by decide +kernel) (by decide +kernel)
theorem m_603 : Cond.instanceMethod y_M_ofBytes ∈ bigW := big_r (i := 603) (by decide +kernel) (by decide +kernel)
theorem m_604 : Cond.code y_M_ofBytes b_M_ofBytes 3 (some (.object "ValueTextsModel$Part")) ∈ bigW := big_r (i := 604) (by decide +kernel) (by decide +kernel)
theorem m_605 : Cond.methodLink R_M 125 y_Arr_copyOf ∈ bigW := big_r (i := 605) (by decide +kernel) (by decide +kernel)
theorem m_606 : Cond.static y_Arr_copyOf ∈ bigW := big_r (i := 606) (by decide +kernel) (by decide +kernel)
theorem m_607 : Cond.code y_Arr_copyOf b_Arr_copyOf 3 (some (.array .byte)) ∈ bigW := big_r (i := 607) (by decide +kernel) (by decide +kernel)
theorem m_608 : Cond.methodLink R_M 70 y_M_array ∈ bigW := big_r (i := 608) (by decide +kernel) (by decide +kernel)
theorem m_610 : Cond.instanceMethod y_M_array ∈ bigW := big_r (i := 610) (by decide +kernel) (by decide +kernel)
theorem m_611 : Cond.code y_M_array b_M_array 4 (some (.object "ValueTextsModel$Part")) ∈ bigW := big_r (i := 611) (by decide +kernel) (by decide +kernel)
theorem m_613 : Cond.methodLink R_M 151 y_M_longer ∈ bigW := big_r (i := 613) (by decide +kernel) (by decide +kernel)
theorem m_614 : Cond.static y_M_longer ∈ bigW := big_r (i := 614) (by decide +kernel) (by decide +kernel)
theorem m_615 : Cond.code y_M_longer b_M_longer 3 (some (.array (.object "ValueTextsModel$Part"))) ∈ bigW := big_r (i := 615) (by decide +kernel) (by decide +kernel)
theorem m_616 : Cond.methodLink R_M 74 y_M_dict ∈ bigW := big_r (i := 616) (by decide +kernel) (by decide +kernel)
theorem m_618 : Cond.instanceMethod y_M_dict ∈ bigW := big_r (i := 618) (by decide +kernel) (by decide +kernel)
theorem m_619 : Cond.code y_M_dict b_M_dict 7 (some (.object "ValueTextsModel$Part")) ∈ bigW := big_r (i := 619) (by decide +kernel) (by decide +kernel)
theorem m_620 : Cond.classLink R_M 155 "[B" ∈ bigW := big_r (i := 620) (by decide +kernel) (by decide +kernel)
theorem m_622 : Cond.methodLink R_M 159 y_Part_get ∈ bigW := big_r (i := 622) (by decide +kernel) (by decide +kernel)
theorem m_623 : Cond.instanceMethod y_Part_get ∈ bigW := big_r (i := 623) (by decide +kernel) (by decide +kernel)
theorem m_624 : Cond.selects R_Part y_Part_get y_Part_get ∈ bigW := big_r (i := 624) (by decide +kernel) (by decide +kernel)
theorem m_625 : Cond.code y_Part_get b_Part_get 5 (some (.object "ValueTextsModel$Part")) ∈ bigW := big_r (i := 625) (by decide +kernel) (by decide +kernel)
theorem m_627 : Cond.static y_M_isLike ∈ bigW := big_r (i := 627) (by decide +kernel) (by decide +kernel)
theorem m_628 : Cond.code y_M_isLike b_M_isLike 5 (some .boolean) ∈ bigW := big_r (i := 628) (by decide +kernel) (by decide +kernel)
theorem m_629 : Cond.methodLink R_M 77 y_M_digits ∈ bigW := big_r (i := 629) (by decide +kernel) (by decide +kernel)
theorem m_631 : Cond.instanceMethod y_M_digits ∈ bigW := big_r (i := 631) (by decide +kernel) (by decide +kernel)
theorem m_632 : Cond.code y_M_digits b_M_digits 2 (some (.object "ValueTextsModel$Part")) ∈ bigW := big_r (i := 632) (by decide +kernel) (by decide +kernel)
theorem m_633 : Cond.methodLink R_M 138 y_M_hexOf ∈ bigW := big_r (i := 633) (by decide +kernel) (by decide +kernel)
theorem m_634 : Cond.static y_M_hexOf ∈ bigW := big_r (i := 634) (by decide +kernel) (by decide +kernel)
theorem m_635 : Cond.code y_M_hexOf b_M_hexOf 1 (some .int) ∈ bigW := big_r (i := 635) (by decide +kernel) (by decide +kernel)
theorem m_636 : Cond.methodLink R_M 52 y_M_isDigit ∈ bigW := big_r (i := 636) (by decide +kernel) (by decide +kernel)
theorem m_637 : Cond.static y_M_isDigit ∈ bigW := big_r (i := 637) (by decide +kernel) (by decide +kernel)
theorem m_638 : Cond.code y_M_isDigit b_M_isDigit 1 (some .boolean) ∈ bigW := big_r (i := 638) (by decide +kernel) (by decide +kernel)
theorem m_640 : Cond.methodLink R_M 42 y_M_isWord ∈ bigW := big_r (i := 640) (by decide +kernel) (by decide +kernel)
theorem m_642 : Cond.instanceMethod y_M_isWord ∈ bigW := big_r (i := 642) (by decide +kernel) (by decide +kernel)
theorem m_643 : Cond.code y_M_isWord b_M_isWord 4 (some .boolean) ∈ bigW := big_r (i := 643) (by decide +kernel) (by decide +kernel)
theorem m_644 : Cond.methodLink R_M 24 y_Str_length ∈ bigW := big_r (i := 644) (by decide +kernel) (by decide +kernel)
theorem m_645 : Cond.methodLink R_M 34 y_M_isAt_s ∈ bigW := big_r (i := 645) (by decide +kernel) (by decide +kernel)
theorem m_647 : Cond.instanceMethod y_M_isAt_s ∈ bigW := big_r (i := 647) (by decide +kernel) (by decide +kernel)
theorem m_648 : Cond.code y_M_isAt_s b_M_isAt_s 4 (some .boolean) ∈ bigW := big_r (i := 648) (by decide +kernel) (by decide +kernel)
theorem m_649 : Cond.methodLink R_M 30 y_Str_charAt ∈ bigW := big_r (i := 649) (by decide +kernel) (by decide +kernel)
theorem m_652 : Cond.methodLink R_M 55 y_M_numberOf ∈ bigW := big_r (i := 652) (by decide +kernel) (by decide +kernel)
theorem m_654 : Cond.instanceMethod y_M_numberOf ∈ bigW := big_r (i := 654) (by decide +kernel) (by decide +kernel)
theorem m_655 : Cond.code y_M_numberOf b_M_numberOf 5 (some .int) ∈ bigW := big_r (i := 655) (by decide +kernel) (by decide +kernel)
theorem m_656 : Cond.constantLong R_M 46 9 ∈ bigW := big_r (i := 656) (by decide +kernel) (by decide +kernel)
theorem m_657 : Cond.methodLink R_M 92 y_M_reference ∈ bigW := big_r (i := 657) (by decide +kernel) (by decide +kernel)
theorem m_659 : Cond.instanceMethod y_M_reference ∈ bigW := big_r (i := 659) (by decide +kernel) (by decide +kernel)
theorem m_660 : Cond.code y_M_reference b_M_reference 5 (some (.object "ValueTextsModel$Part")) ∈ bigW := big_r (i := 660) (by decide +kernel) (by decide +kernel)
theorem m_661 : Cond.methodLink R_M 98 y_M_takeNumber ∈ bigW := big_r (i := 661) (by decide +kernel) (by decide +kernel)
theorem m_663 : Cond.instanceMethod y_M_takeNumber ∈ bigW := big_r (i := 663) (by decide +kernel) (by decide +kernel)
theorem m_664 : Cond.code y_M_takeNumber b_M_takeNumber 3 (some .int) ∈ bigW := big_r (i := 664) (by decide +kernel) (by decide +kernel)
theorem m_666 : Cond.methodLink R_M 103 y_M_takeWord ∈ bigW := big_r (i := 666) (by decide +kernel) (by decide +kernel)
theorem m_668 : Cond.instanceMethod y_M_takeWord ∈ bigW := big_r (i := 668) (by decide +kernel) (by decide +kernel)
theorem m_669 : Cond.code y_M_takeWord b_M_takeWord 3 (some .boolean) ∈ bigW := big_r (i := 669) (by decide +kernel) (by decide +kernel)
theorem m_670 : Cond.constant R_M 107 65535 ∈ bigW := big_r (i := 670) (by decide +kernel) (by decide +kernel)
theorem m_671 : Cond.methodLink R_L 35 y_M_top ∈ bigW := big_r (i := 671) (by decide +kernel) (by decide +kernel)
theorem m_672 : Cond.instanceMethod y_M_top ∈ bigW := big_r (i := 672) (by decide +kernel) (by decide +kernel)
theorem m_673 : Cond.selects R_M y_M_top y_M_top ∈ bigW := big_r (i := 673) (by decide +kernel) (by decide +kernel)
theorem m_674 : Cond.code y_M_top b_M_top 1 (some .int) ∈ bigW := big_r (i := 674) (by decide +kernel) (by decide +kernel)
theorem m_675 : Cond.methodLink R_M 192 y_M_isAt_p ∈ bigW := big_r (i := 675) (by decide +kernel) (by decide +kernel)
theorem m_677 : Cond.instanceMethod y_M_isAt_p ∈ bigW := big_r (i := 677) (by decide +kernel) (by decide +kernel)
theorem m_678 : Cond.code y_M_isAt_p b_M_isAt_p 2 (some .int) ∈ bigW := big_r (i := 678) (by decide +kernel) (by decide +kernel)
theorem m_679 : Cond.methodLink R_L 39 y_M_item ∈ bigW := big_r (i := 679) (by decide +kernel) (by decide +kernel)
theorem m_680 : Cond.instanceMethod y_M_item ∈ bigW := big_r (i := 680) (by decide +kernel) (by decide +kernel)
theorem m_681 : Cond.selects R_M y_M_item y_M_item ∈ bigW := big_r (i := 681) (by decide +kernel) (by decide +kernel)
theorem m_682 : Cond.code y_M_item b_M_item 2 (some .int) ∈ bigW := big_r (i := 682) (by decide +kernel) (by decide +kernel)
theorem m_683 : Cond.methodLink R_L 43 y_M_find ∈ bigW := big_r (i := 683) (by decide +kernel) (by decide +kernel)
theorem m_684 : Cond.instanceMethod y_M_find ∈ bigW := big_r (i := 684) (by decide +kernel) (by decide +kernel)
theorem m_685 : Cond.selects R_M y_M_find y_M_find ∈ bigW := big_r (i := 685) (by decide +kernel) (by decide +kernel)
theorem m_686 : Cond.code y_M_find b_M_find 2 (some .int) ∈ bigW := big_r (i := 686) (by decide +kernel) (by decide +kernel)
theorem m_687 : Cond.methodLink R_L 47 y_M_look ∈ bigW := big_r (i := 687) (by decide +kernel) (by decide +kernel)
theorem m_688 : Cond.instanceMethod y_M_look ∈ bigW := big_r (i := 688) (by decide +kernel) (by decide +kernel)
theorem m_689 : Cond.selects R_M y_M_look y_M_look ∈ bigW := big_r (i := 689) (by decide +kernel) (by decide +kernel)
theorem m_690 : Cond.code y_M_look b_M_look 2 (some .int) ∈ bigW := big_r (i := 690) (by decide +kernel) (by decide +kernel)
theorem m_691 : Cond.constantLong R_M 195 3 ∈ bigW := big_r (i := 691) (by decide +kernel) (by decide +kernel)
theorem m_692 : Cond.methodLink R_M 197 y_Part_parts ∈ bigW := big_r (i := 692) (by decide +kernel) (by decide +kernel)
theorem m_693 : Cond.instanceMethod y_Part_parts ∈ bigW := big_r (i := 693) (by decide +kernel) (by decide +kernel)
theorem m_694 : Cond.selects R_Part y_Part_parts y_Part_parts ∈ bigW := big_r (i := 694) (by decide +kernel) (by decide +kernel)
theorem m_695 : Cond.code y_Part_parts b_Part_parts 3 (some .int) ∈ bigW := big_r (i := 695) (by decide +kernel) (by decide +kernel)
theorem m_696 : Cond.methodLink R_Part 20 y_Part_parts ∈ bigW := big_r (i := 696) (by decide +kernel) (by decide +kernel)
theorem m_697 : Cond.methodLink R_L 51 y_M_bytes ∈ bigW := big_r (i := 697) (by decide +kernel) (by decide +kernel)
theorem m_698 : Cond.instanceMethod y_M_bytes ∈ bigW := big_r (i := 698) (by decide +kernel) (by decide +kernel)
theorem m_699 : Cond.selects R_M y_M_bytes y_M_bytes ∈ bigW := big_r (i := 699) (by decide +kernel) (by decide +kernel)
theorem m_700 : Cond.code y_M_bytes b_M_bytes 2 (some .int) ∈ bigW := big_r (i := 700) (by decide +kernel) (by decide +kernel)
theorem m_701 : Cond.methodLink R_M 209 y_M_tell ∈ bigW := big_r (i := 701) (by decide +kernel) (by decide +kernel)
theorem m_703 : Cond.instanceMethod y_M_tell ∈ bigW := big_r (i := 703) (by decide +kernel) (by decide +kernel)
theorem m_704 : Cond.code y_M_tell b_M_tell 2 (some .int) ∈ bigW := big_r (i := 704) (by decide +kernel) (by decide +kernel)
theorem m_705 : Cond.methodLink R_M 200 ⟨"java/lang/System", "arraycopy", "(Ljava/lang/Object;ILjava/lang/Object;II)V"⟩ ∈ bigW := big_r (i := 705) (by decide +kernel) (by decide +kernel)
theorem m_706 : Cond.methodLink R_L 55 y_M_octet ∈ bigW := big_r (i := 706) (by decide +kernel) (by decide +kernel)
theorem m_707 : Cond.instanceMethod y_M_octet ∈ bigW := big_r (i := 707) (by decide +kernel) (by decide +kernel)
theorem m_708 : Cond.selects R_M y_M_octet y_M_octet ∈ bigW := big_r (i := 708) (by decide +kernel) (by decide +kernel)
theorem m_709 : Cond.code y_M_octet b_M_octet 2 (some .int) ∈ bigW := big_r (i := 709) (by decide +kernel) (by decide +kernel)
theorem m_710 : Cond.constantLong R_M 213 (-1) ∈ bigW := big_r (i := 710) (by decide +kernel) (by decide +kernel)
theorem m_711 : Cond.methodLink R_L 31 y_M_write ∈ bigW := big_r (i := 711) (by decide +kernel) (by decide +kernel)
theorem m_712 : Cond.instanceMethod y_M_write ∈ bigW := big_r (i := 712) (by decide +kernel) (by decide +kernel)
theorem m_713 : Cond.selects R_M y_M_write y_M_write ∈ bigW := big_r (i := 713) (by decide +kernel) (by decide +kernel)
theorem m_714 : Cond.code y_M_write b_M_write 1 (some .int) ∈ bigW := big_r (i := 714) (by decide +kernel) (by decide +kernel)
theorem m_715 : Cond.methodLink R_M 240 y_M_write_p ∈ bigW := big_r (i := 715) (by decide +kernel) (by decide +kernel)
theorem m_717 : Cond.instanceMethod y_M_write_p ∈ bigW := big_r (i := 717) (by decide +kernel) (by decide +kernel)
theorem m_718 : Cond.code y_M_write_p b_M_write_p 6 none ∈ bigW := big_r (i := 718) (by decide +kernel) (by decide +kernel)
theorem m_719 : Cond.methodLink R_M 221 y_M_say_s ∈ bigW := big_r (i := 719) (by decide +kernel) (by decide +kernel)
theorem m_721 : Cond.instanceMethod y_M_say_s ∈ bigW := big_r (i := 721) (by decide +kernel) (by decide +kernel)
theorem m_722 : Cond.code y_M_say_s b_M_say_s 3 none ∈ bigW := big_r (i := 722) (by decide +kernel) (by decide +kernel)
theorem m_723 : Cond.methodLink R_M 218 y_M_say_i ∈ bigW := big_r (i := 723) (by decide +kernel) (by decide +kernel)
theorem m_725 : Cond.instanceMethod y_M_say_i ∈ bigW := big_r (i := 725) (by decide +kernel) (by decide +kernel)
theorem m_726 : Cond.code y_M_say_i b_M_say_i 2 none ∈ bigW := big_r (i := 726) (by decide +kernel) (by decide +kernel)
theorem m_727 : Cond.methodLink R_M 224 y_M_number ∈ bigW := big_r (i := 727) (by decide +kernel) (by decide +kernel)
theorem m_729 : Cond.instanceMethod y_M_number ∈ bigW := big_r (i := 729) (by decide +kernel) (by decide +kernel)
theorem m_730 : Cond.code y_M_number b_M_number 7 none ∈ bigW := big_r (i := 730) (by decide +kernel) (by decide +kernel)
theorem m_731 : Cond.methodLink R_M 228 y_M_say_b ∈ bigW := big_r (i := 731) (by decide +kernel) (by decide +kernel)
theorem m_733 : Cond.instanceMethod y_M_say_b ∈ bigW := big_r (i := 733) (by decide +kernel) (by decide +kernel)
theorem m_734 : Cond.code y_M_say_b b_M_say_b 6 none ∈ bigW := big_r (i := 734) (by decide +kernel) (by decide +kernel)
theorem m_735 : Cond.methodLink R_M 231 y_M_hexDigit ∈ bigW := big_r (i := 735) (by decide +kernel) (by decide +kernel)
theorem m_737 : Cond.instanceMethod y_M_hexDigit ∈ bigW := big_r (i := 737) (by decide +kernel) (by decide +kernel)
theorem m_738 : Cond.code y_M_hexDigit b_M_hexDigit 2 none ∈ bigW := big_r (i := 738) (by decide +kernel) (by decide +kernel)
theorem m_744 : Cond.fieldLink R_Str 9 "java/lang/String" "value" "[B" ∈ bigW := big_r (i := 744) (by decide +kernel) (by decide +kernel)
theorem m_745 : Cond.fieldLink R_Str 15 "java/lang/String" "coder" "B" ∈ bigW := big_r (i := 745) (by decide +kernel) (by decide +kernel)
theorem i_V : ∀ w ∈ u_ws R_V F_V 5, w ∈ bigW := by
  intro w hw
  have e : u_ws R_V F_V 5 = [u_lay R_V F_V 0, u_lay R_V F_V 1, u_lay R_V F_V 2, u_lay R_V F_V 3, u_lay R_V F_V 4] := rfl
  rw [e] at hw
  simp only [List.mem_cons, List.not_mem_nil, or_false] at hw
  rcases hw with rfl | rfl | rfl | rfl | rfl
  · exact big_r (i := 70) (by decide +kernel) (by decide +kernel)
  · exact big_r (i := 72) (by decide +kernel) (by decide +kernel)
  · exact big_r (i := 74) (by decide +kernel) (by decide +kernel)
  · exact big_r (i := 76) (by decide +kernel) (by decide +kernel)
  · exact big_r (i := 78) (by decide +kernel) (by decide +kernel)
theorem i_Row : ∀ w ∈ u_ws R_Row F_Row 2, w ∈ bigW := by
  intro w hw
  have e : u_ws R_Row F_Row 2 = [u_lay R_Row F_Row 0, u_lay R_Row F_Row 1] := rfl
  rw [e] at hw
  simp only [List.mem_cons, List.not_mem_nil, or_false] at hw
  rcases hw with rfl | rfl
  · exact big_r (i := 31) (by decide +kernel) (by decide +kernel)
  · exact big_r (i := 33) (by decide +kernel) (by decide +kernel)
theorem i_Tree : ∀ w ∈ u_ws R_Tree F_Tree 6, w ∈ bigW := by
  intro w hw
  have e : u_ws R_Tree F_Tree 6 = [u_lay R_Tree F_Tree 0, u_lay R_Tree F_Tree 1, u_lay R_Tree F_Tree 2, u_lay R_Tree F_Tree 3, u_lay R_Tree F_Tree 4, u_lay R_Tree F_Tree 5] := rfl
  rw [e] at hw
  simp only [List.mem_cons, List.not_mem_nil, or_false] at hw
  rcases hw with rfl | rfl | rfl | rfl | rfl | rfl
  · exact big_r (i := 51) (by decide +kernel) (by decide +kernel)
  · exact big_r (i := 53) (by decide +kernel) (by decide +kernel)
  · exact big_r (i := 55) (by decide +kernel) (by decide +kernel)
  · exact big_r (i := 57) (by decide +kernel) (by decide +kernel)
  · exact big_r (i := 59) (by decide +kernel) (by decide +kernel)
  · exact big_r (i := 61) (by decide +kernel) (by decide +kernel)
theorem i_Reader : ∀ w ∈ u_ws R_Reader F_Reader 3, w ∈ bigW := by
  intro w hw
  have e : u_ws R_Reader F_Reader 3 = [u_lay R_Reader F_Reader 0, u_lay R_Reader F_Reader 1, u_lay R_Reader F_Reader 2] := rfl
  rw [e] at hw
  simp only [List.mem_cons, List.not_mem_nil, or_false] at hw
  rcases hw with rfl | rfl | rfl
  · exact big_r (i := 118) (by decide +kernel) (by decide +kernel)
  · exact big_r (i := 120) (by decide +kernel) (by decide +kernel)
  · exact big_r (i := 122) (by decide +kernel) (by decide +kernel)
theorem i_Writer : ∀ w ∈ u_ws R_Writer F_Writer 2, w ∈ bigW := by
  intro w hw
  have e : u_ws R_Writer F_Writer 2 = [u_lay R_Writer F_Writer 0, u_lay R_Writer F_Writer 1] := rfl
  rw [e] at hw
  simp only [List.mem_cons, List.not_mem_nil, or_false] at hw
  rcases hw with rfl | rfl
  · exact big_r (i := 328) (by decide +kernel) (by decide +kernel)
  · exact big_r (i := 330) (by decide +kernel) (by decide +kernel)
theorem i_M : ∀ w ∈ u_ws R_M F_M 12, w ∈ bigW := by
  intro w hw
  have e : u_ws R_M F_M 12 = [u_lay R_M F_M 0, u_lay R_M F_M 1, u_lay R_M F_M 2, u_lay R_M F_M 3, u_lay R_M F_M 4, u_lay R_M F_M 5, u_lay R_M F_M 6, u_lay R_M F_M 7, u_lay R_M F_M 8, u_lay R_M F_M 9, u_lay R_M F_M 10, u_lay R_M F_M 11] := rfl
  rw [e] at hw
  simp only [List.mem_cons, List.not_mem_nil, or_false] at hw
  rcases hw with rfl | rfl | rfl | rfl | rfl | rfl | rfl | rfl | rfl | rfl | rfl | rfl
  · exact big_r (i := 465) (by decide +kernel) (by decide +kernel)
  · exact big_r (i := 467) (by decide +kernel) (by decide +kernel)
  · exact big_r (i := 469) (by decide +kernel) (by decide +kernel)
  · exact big_r (i := 471) (by decide +kernel) (by decide +kernel)
  · exact big_r (i := 473) (by decide +kernel) (by decide +kernel)
  · exact big_r (i := 475) (by decide +kernel) (by decide +kernel)
  · exact big_r (i := 477) (by decide +kernel) (by decide +kernel)
  · exact big_r (i := 479) (by decide +kernel) (by decide +kernel)
  · exact big_r (i := 481) (by decide +kernel) (by decide +kernel)
  · exact big_r (i := 483) (by decide +kernel) (by decide +kernel)
  · exact big_r (i := 485) (by decide +kernel) (by decide +kernel)
  · exact big_r (i := 487) (by decide +kernel) (by decide +kernel)
theorem i_Part : ∀ w ∈ u_ws R_Part F_Part 7, w ∈ bigW := by
  intro w hw
  have e : u_ws R_Part F_Part 7 = [u_lay R_Part F_Part 0, u_lay R_Part F_Part 1, u_lay R_Part F_Part 2, u_lay R_Part F_Part 3, u_lay R_Part F_Part 4, u_lay R_Part F_Part 5, u_lay R_Part F_Part 6] := rfl
  rw [e] at hw
  simp only [List.mem_cons, List.not_mem_nil, or_false] at hw
  rcases hw with rfl | rfl | rfl | rfl | rfl | rfl | rfl
  · exact big_r (i := 552) (by decide +kernel) (by decide +kernel)
  · exact big_r (i := 554) (by decide +kernel) (by decide +kernel)
  · exact big_r (i := 556) (by decide +kernel) (by decide +kernel)
  · exact big_r (i := 558) (by decide +kernel) (by decide +kernel)
  · exact big_r (i := 560) (by decide +kernel) (by decide +kernel)
  · exact big_r (i := 562) (by decide +kernel) (by decide +kernel)
  · exact big_r (i := 564) (by decide +kernel) (by decide +kernel)
theorem m_oi : Cond.code objectInit ⟨#[0xb1]⟩ 1 none ∈ bigW := big_r (i := 22) rfl (by decide +kernel)
theorem hy_Arr_checkLength : y_Arr_checkLength.cls = R_Arr ∧ y_Arr_checkLength.cls ≠ "java/lang/invoke/MethodHandle" ∧ y_Arr_checkLength.cls ≠ "java/lang/invoke/VarHandle" ∧ (parseMethodDescriptor y_Arr_checkLength.desc).map (fun d => d.parameters.length) = some 2 := by decide +kernel
theorem hy_Arr_copyOf : y_Arr_copyOf.cls = R_Arr ∧ y_Arr_copyOf.cls ≠ "java/lang/invoke/MethodHandle" ∧ y_Arr_copyOf.cls ≠ "java/lang/invoke/VarHandle" ∧ (parseMethodDescriptor y_Arr_copyOf.desc).map (fun d => d.parameters.length) = some 2 := by decide +kernel
theorem hy_Arr_copyOfRange : y_Arr_copyOfRange.cls = R_Arr ∧ y_Arr_copyOfRange.cls ≠ "java/lang/invoke/MethodHandle" ∧ y_Arr_copyOfRange.cls ≠ "java/lang/invoke/VarHandle" ∧ (parseMethodDescriptor y_Arr_copyOfRange.desc).map (fun d => d.parameters.length) = some 3 := by decide +kernel
theorem hy_Arr_copyOfRangeByte : y_Arr_copyOfRangeByte.cls = R_Arr ∧ y_Arr_copyOfRangeByte.cls ≠ "java/lang/invoke/MethodHandle" ∧ y_Arr_copyOfRangeByte.cls ≠ "java/lang/invoke/VarHandle" ∧ (parseMethodDescriptor y_Arr_copyOfRangeByte.desc).map (fun d => d.parameters.length) = some 3 := by decide +kernel
theorem hy_M_init : y_M_init.cls = R_M ∧ y_M_init.cls ≠ "java/lang/invoke/MethodHandle" ∧ y_M_init.cls ≠ "java/lang/invoke/VarHandle" ∧ (parseMethodDescriptor y_M_init.desc).map (fun d => d.parameters.length) = some 0 := by decide +kernel
theorem hy_M_array : y_M_array.cls = R_M ∧ y_M_array.cls ≠ "java/lang/invoke/MethodHandle" ∧ y_M_array.cls ≠ "java/lang/invoke/VarHandle" ∧ (parseMethodDescriptor y_M_array.desc).map (fun d => d.parameters.length) = some 1 := by decide +kernel
theorem hy_M_bytes : y_M_bytes.cls = R_M ∧ y_M_bytes.cls ≠ "java/lang/invoke/MethodHandle" ∧ y_M_bytes.cls ≠ "java/lang/invoke/VarHandle" ∧ (parseMethodDescriptor y_M_bytes.desc).map (fun d => d.parameters.length) = some 1 := by decide +kernel
theorem hy_M_dict : y_M_dict.cls = R_M ∧ y_M_dict.cls ≠ "java/lang/invoke/MethodHandle" ∧ y_M_dict.cls ≠ "java/lang/invoke/VarHandle" ∧ (parseMethodDescriptor y_M_dict.desc).map (fun d => d.parameters.length) = some 1 := by decide +kernel
theorem hy_M_digits : y_M_digits.cls = R_M ∧ y_M_digits.cls ≠ "java/lang/invoke/MethodHandle" ∧ y_M_digits.cls ≠ "java/lang/invoke/VarHandle" ∧ (parseMethodDescriptor y_M_digits.desc).map (fun d => d.parameters.length) = some 0 := by decide +kernel
theorem hy_M_end : y_M_end.cls = R_M ∧ y_M_end.cls ≠ "java/lang/invoke/MethodHandle" ∧ y_M_end.cls ≠ "java/lang/invoke/VarHandle" ∧ (parseMethodDescriptor y_M_end.desc).map (fun d => d.parameters.length) = some 1 := by decide +kernel
theorem hy_M_escaped : y_M_escaped.cls = R_M ∧ y_M_escaped.cls ≠ "java/lang/invoke/MethodHandle" ∧ y_M_escaped.cls ≠ "java/lang/invoke/VarHandle" ∧ (parseMethodDescriptor y_M_escaped.desc).map (fun d => d.parameters.length) = some 0 := by decide +kernel
theorem hy_M_feed : y_M_feed.cls = R_M ∧ y_M_feed.cls ≠ "java/lang/invoke/MethodHandle" ∧ y_M_feed.cls ≠ "java/lang/invoke/VarHandle" ∧ (parseMethodDescriptor y_M_feed.desc).map (fun d => d.parameters.length) = some 5 := by decide +kernel
theorem hy_M_find : y_M_find.cls = R_M ∧ y_M_find.cls ≠ "java/lang/invoke/MethodHandle" ∧ y_M_find.cls ≠ "java/lang/invoke/VarHandle" ∧ (parseMethodDescriptor y_M_find.desc).map (fun d => d.parameters.length) = some 0 := by decide +kernel
theorem hy_M_hexDigit : y_M_hexDigit.cls = R_M ∧ y_M_hexDigit.cls ≠ "java/lang/invoke/MethodHandle" ∧ y_M_hexDigit.cls ≠ "java/lang/invoke/VarHandle" ∧ (parseMethodDescriptor y_M_hexDigit.desc).map (fun d => d.parameters.length) = some 1 := by decide +kernel
theorem hy_M_hexOf : y_M_hexOf.cls = R_M ∧ y_M_hexOf.cls ≠ "java/lang/invoke/MethodHandle" ∧ y_M_hexOf.cls ≠ "java/lang/invoke/VarHandle" ∧ (parseMethodDescriptor y_M_hexOf.desc).map (fun d => d.parameters.length) = some 1 := by decide +kernel
theorem hy_M_in : y_M_in.cls = R_M ∧ y_M_in.cls ≠ "java/lang/invoke/MethodHandle" ∧ y_M_in.cls ≠ "java/lang/invoke/VarHandle" ∧ (parseMethodDescriptor y_M_in.desc).map (fun d => d.parameters.length) = some 3 := by decide +kernel
theorem hy_M_isAt_p : y_M_isAt_p.cls = R_M ∧ y_M_isAt_p.cls ≠ "java/lang/invoke/MethodHandle" ∧ y_M_isAt_p.cls ≠ "java/lang/invoke/VarHandle" ∧ (parseMethodDescriptor y_M_isAt_p.desc).map (fun d => d.parameters.length) = some 1 := by decide +kernel
theorem hy_M_isAt_s : y_M_isAt_s.cls = R_M ∧ y_M_isAt_s.cls ≠ "java/lang/invoke/MethodHandle" ∧ y_M_isAt_s.cls ≠ "java/lang/invoke/VarHandle" ∧ (parseMethodDescriptor y_M_isAt_s.desc).map (fun d => d.parameters.length) = some 2 := by decide +kernel
theorem hy_M_isDelimiter : y_M_isDelimiter.cls = R_M ∧ y_M_isDelimiter.cls ≠ "java/lang/invoke/MethodHandle" ∧ y_M_isDelimiter.cls ≠ "java/lang/invoke/VarHandle" ∧ (parseMethodDescriptor y_M_isDelimiter.desc).map (fun d => d.parameters.length) = some 1 := by decide +kernel
theorem hy_M_isDigit : y_M_isDigit.cls = R_M ∧ y_M_isDigit.cls ≠ "java/lang/invoke/MethodHandle" ∧ y_M_isDigit.cls ≠ "java/lang/invoke/VarHandle" ∧ (parseMethodDescriptor y_M_isDigit.desc).map (fun d => d.parameters.length) = some 1 := by decide +kernel
theorem hy_M_isLike : y_M_isLike.cls = R_M ∧ y_M_isLike.cls ≠ "java/lang/invoke/MethodHandle" ∧ y_M_isLike.cls ≠ "java/lang/invoke/VarHandle" ∧ (parseMethodDescriptor y_M_isLike.desc).map (fun d => d.parameters.length) = some 4 := by decide +kernel
theorem hy_M_isRegular : y_M_isRegular.cls = R_M ∧ y_M_isRegular.cls ≠ "java/lang/invoke/MethodHandle" ∧ y_M_isRegular.cls ≠ "java/lang/invoke/VarHandle" ∧ (parseMethodDescriptor y_M_isRegular.desc).map (fun d => d.parameters.length) = some 1 := by decide +kernel
theorem hy_M_isWhite : y_M_isWhite.cls = R_M ∧ y_M_isWhite.cls ≠ "java/lang/invoke/MethodHandle" ∧ y_M_isWhite.cls ≠ "java/lang/invoke/VarHandle" ∧ (parseMethodDescriptor y_M_isWhite.desc).map (fun d => d.parameters.length) = some 1 := by decide +kernel
theorem hy_M_isWord : y_M_isWord.cls = R_M ∧ y_M_isWord.cls ≠ "java/lang/invoke/MethodHandle" ∧ y_M_isWord.cls ≠ "java/lang/invoke/VarHandle" ∧ (parseMethodDescriptor y_M_isWord.desc).map (fun d => d.parameters.length) = some 3 := by decide +kernel
theorem hy_M_item : y_M_item.cls = R_M ∧ y_M_item.cls ≠ "java/lang/invoke/MethodHandle" ∧ y_M_item.cls ≠ "java/lang/invoke/VarHandle" ∧ (parseMethodDescriptor y_M_item.desc).map (fun d => d.parameters.length) = some 1 := by decide +kernel
theorem hy_M_longer : y_M_longer.cls = R_M ∧ y_M_longer.cls ≠ "java/lang/invoke/MethodHandle" ∧ y_M_longer.cls ≠ "java/lang/invoke/VarHandle" ∧ (parseMethodDescriptor y_M_longer.desc).map (fun d => d.parameters.length) = some 1 := by decide +kernel
theorem hy_M_look : y_M_look.cls = R_M ∧ y_M_look.cls ≠ "java/lang/invoke/MethodHandle" ∧ y_M_look.cls ≠ "java/lang/invoke/VarHandle" ∧ (parseMethodDescriptor y_M_look.desc).map (fun d => d.parameters.length) = some 1 := by decide +kernel
theorem hy_M_name : y_M_name.cls = R_M ∧ y_M_name.cls ≠ "java/lang/invoke/MethodHandle" ∧ y_M_name.cls ≠ "java/lang/invoke/VarHandle" ∧ (parseMethodDescriptor y_M_name.desc).map (fun d => d.parameters.length) = some 0 := by decide +kernel
theorem hy_M_number : y_M_number.cls = R_M ∧ y_M_number.cls ≠ "java/lang/invoke/MethodHandle" ∧ y_M_number.cls ≠ "java/lang/invoke/VarHandle" ∧ (parseMethodDescriptor y_M_number.desc).map (fun d => d.parameters.length) = some 2 := by decide +kernel
theorem hy_M_numberOf : y_M_numberOf.cls = R_M ∧ y_M_numberOf.cls ≠ "java/lang/invoke/MethodHandle" ∧ y_M_numberOf.cls ≠ "java/lang/invoke/VarHandle" ∧ (parseMethodDescriptor y_M_numberOf.desc).map (fun d => d.parameters.length) = some 2 := by decide +kernel
theorem hy_M_object : y_M_object.cls = R_M ∧ y_M_object.cls ≠ "java/lang/invoke/MethodHandle" ∧ y_M_object.cls ≠ "java/lang/invoke/VarHandle" ∧ (parseMethodDescriptor y_M_object.desc).map (fun d => d.parameters.length) = some 1 := by decide +kernel
theorem hy_M_octet : y_M_octet.cls = R_M ∧ y_M_octet.cls ≠ "java/lang/invoke/MethodHandle" ∧ y_M_octet.cls ≠ "java/lang/invoke/VarHandle" ∧ (parseMethodDescriptor y_M_octet.desc).map (fun d => d.parameters.length) = some 1 := by decide +kernel
theorem hy_M_ofBytes : y_M_ofBytes.cls = R_M ∧ y_M_ofBytes.cls ≠ "java/lang/invoke/MethodHandle" ∧ y_M_ofBytes.cls ≠ "java/lang/invoke/VarHandle" ∧ (parseMethodDescriptor y_M_ofBytes.desc).map (fun d => d.parameters.length) = some 1 := by decide +kernel
theorem hy_M_read : y_M_read.cls = R_M ∧ y_M_read.cls ≠ "java/lang/invoke/MethodHandle" ∧ y_M_read.cls ≠ "java/lang/invoke/VarHandle" ∧ (parseMethodDescriptor y_M_read.desc).map (fun d => d.parameters.length) = some 0 := by decide +kernel
theorem hy_M_reference : y_M_reference.cls = R_M ∧ y_M_reference.cls ≠ "java/lang/invoke/MethodHandle" ∧ y_M_reference.cls ≠ "java/lang/invoke/VarHandle" ∧ (parseMethodDescriptor y_M_reference.desc).map (fun d => d.parameters.length) = some 1 := by decide +kernel
theorem hy_M_say_b : y_M_say_b.cls = R_M ∧ y_M_say_b.cls ≠ "java/lang/invoke/MethodHandle" ∧ y_M_say_b.cls ≠ "java/lang/invoke/VarHandle" ∧ (parseMethodDescriptor y_M_say_b.desc).map (fun d => d.parameters.length) = some 1 := by decide +kernel
theorem hy_M_say_i : y_M_say_i.cls = R_M ∧ y_M_say_i.cls ≠ "java/lang/invoke/MethodHandle" ∧ y_M_say_i.cls ≠ "java/lang/invoke/VarHandle" ∧ (parseMethodDescriptor y_M_say_i.desc).map (fun d => d.parameters.length) = some 1 := by decide +kernel
theorem hy_M_say_s : y_M_say_s.cls = R_M ∧ y_M_say_s.cls ≠ "java/lang/invoke/MethodHandle" ∧ y_M_say_s.cls ≠ "java/lang/invoke/VarHandle" ∧ (parseMethodDescriptor y_M_say_s.desc).map (fun d => d.parameters.length) = some 1 := by decide +kernel
theorem hy_M_string : y_M_string.cls = R_M ∧ y_M_string.cls ≠ "java/lang/invoke/MethodHandle" ∧ y_M_string.cls ≠ "java/lang/invoke/VarHandle" ∧ (parseMethodDescriptor y_M_string.desc).map (fun d => d.parameters.length) = some 0 := by decide +kernel
theorem hy_M_takeByte : y_M_takeByte.cls = R_M ∧ y_M_takeByte.cls ≠ "java/lang/invoke/MethodHandle" ∧ y_M_takeByte.cls ≠ "java/lang/invoke/VarHandle" ∧ (parseMethodDescriptor y_M_takeByte.desc).map (fun d => d.parameters.length) = some 1 := by decide +kernel
theorem hy_M_takeNumber : y_M_takeNumber.cls = R_M ∧ y_M_takeNumber.cls ≠ "java/lang/invoke/MethodHandle" ∧ y_M_takeNumber.cls ≠ "java/lang/invoke/VarHandle" ∧ (parseMethodDescriptor y_M_takeNumber.desc).map (fun d => d.parameters.length) = some 0 := by decide +kernel
theorem hy_M_takeWord : y_M_takeWord.cls = R_M ∧ y_M_takeWord.cls ≠ "java/lang/invoke/MethodHandle" ∧ y_M_takeWord.cls ≠ "java/lang/invoke/VarHandle" ∧ (parseMethodDescriptor y_M_takeWord.desc).map (fun d => d.parameters.length) = some 1 := by decide +kernel
theorem hy_M_tell : y_M_tell.cls = R_M ∧ y_M_tell.cls ≠ "java/lang/invoke/MethodHandle" ∧ y_M_tell.cls ≠ "java/lang/invoke/VarHandle" ∧ (parseMethodDescriptor y_M_tell.desc).map (fun d => d.parameters.length) = some 1 := by decide +kernel
theorem hy_M_top : y_M_top.cls = R_M ∧ y_M_top.cls ≠ "java/lang/invoke/MethodHandle" ∧ y_M_top.cls ≠ "java/lang/invoke/VarHandle" ∧ (parseMethodDescriptor y_M_top.desc).map (fun d => d.parameters.length) = some 0 := by decide +kernel
theorem hy_M_used : y_M_used.cls = R_M ∧ y_M_used.cls ≠ "java/lang/invoke/MethodHandle" ∧ y_M_used.cls ≠ "java/lang/invoke/VarHandle" ∧ (parseMethodDescriptor y_M_used.desc).map (fun d => d.parameters.length) = some 0 := by decide +kernel
theorem hy_M_white : y_M_white.cls = R_M ∧ y_M_white.cls ≠ "java/lang/invoke/MethodHandle" ∧ y_M_white.cls ≠ "java/lang/invoke/VarHandle" ∧ (parseMethodDescriptor y_M_white.desc).map (fun d => d.parameters.length) = some 0 := by decide +kernel
theorem hy_M_wordEnd : y_M_wordEnd.cls = R_M ∧ y_M_wordEnd.cls ≠ "java/lang/invoke/MethodHandle" ∧ y_M_wordEnd.cls ≠ "java/lang/invoke/VarHandle" ∧ (parseMethodDescriptor y_M_wordEnd.desc).map (fun d => d.parameters.length) = some 1 := by decide +kernel
theorem hy_M_write : y_M_write.cls = R_M ∧ y_M_write.cls ≠ "java/lang/invoke/MethodHandle" ∧ y_M_write.cls ≠ "java/lang/invoke/VarHandle" ∧ (parseMethodDescriptor y_M_write.desc).map (fun d => d.parameters.length) = some 0 := by decide +kernel
theorem hy_M_write_p : y_M_write_p.cls = R_M ∧ y_M_write_p.cls ≠ "java/lang/invoke/MethodHandle" ∧ y_M_write_p.cls ≠ "java/lang/invoke/VarHandle" ∧ (parseMethodDescriptor y_M_write_p.desc).map (fun d => d.parameters.length) = some 1 := by decide +kernel
theorem hy_Math_min : y_Math_min.cls = R_Math ∧ y_Math_min.cls ≠ "java/lang/invoke/MethodHandle" ∧ y_Math_min.cls ≠ "java/lang/invoke/VarHandle" ∧ (parseMethodDescriptor y_Math_min.desc).map (fun d => d.parameters.length) = some 2 := by decide +kernel
theorem hy_Part_init : y_Part_init.cls = R_Part ∧ y_Part_init.cls ≠ "java/lang/invoke/MethodHandle" ∧ y_Part_init.cls ≠ "java/lang/invoke/VarHandle" ∧ (parseMethodDescriptor y_Part_init.desc).map (fun d => d.parameters.length) = some 1 := by decide +kernel
theorem hy_Part_get : y_Part_get.cls = R_Part ∧ y_Part_get.cls ≠ "java/lang/invoke/MethodHandle" ∧ y_Part_get.cls ≠ "java/lang/invoke/VarHandle" ∧ (parseMethodDescriptor y_Part_get.desc).map (fun d => d.parameters.length) = some 3 := by decide +kernel
theorem hy_Part_parts : y_Part_parts.cls = R_Part ∧ y_Part_parts.cls ≠ "java/lang/invoke/MethodHandle" ∧ y_Part_parts.cls ≠ "java/lang/invoke/VarHandle" ∧ (parseMethodDescriptor y_Part_parts.desc).map (fun d => d.parameters.length) = some 0 := by decide +kernel
theorem hy_Pre_checkIndex : y_Pre_checkIndex.cls = R_Pre ∧ y_Pre_checkIndex.cls ≠ "java/lang/invoke/MethodHandle" ∧ y_Pre_checkIndex.cls ≠ "java/lang/invoke/VarHandle" ∧ (parseMethodDescriptor y_Pre_checkIndex.desc).map (fun d => d.parameters.length) = some 3 := by decide +kernel
theorem hy_Reader_init : y_Reader_init.cls = R_Reader ∧ y_Reader_init.cls ≠ "java/lang/invoke/MethodHandle" ∧ y_Reader_init.cls ≠ "java/lang/invoke/VarHandle" ∧ (parseMethodDescriptor y_Reader_init.desc).map (fun d => d.parameters.length) = some 2 := by decide +kernel
theorem hy_Reader_afterWhite : y_Reader_afterWhite.cls = R_Reader ∧ y_Reader_afterWhite.cls ≠ "java/lang/invoke/MethodHandle" ∧ y_Reader_afterWhite.cls ≠ "java/lang/invoke/VarHandle" ∧ (parseMethodDescriptor y_Reader_afterWhite.desc).map (fun d => d.parameters.length) = some 1 := by decide +kernel
theorem hy_Reader_array : y_Reader_array.cls = R_Reader ∧ y_Reader_array.cls ≠ "java/lang/invoke/MethodHandle" ∧ y_Reader_array.cls ≠ "java/lang/invoke/VarHandle" ∧ (parseMethodDescriptor y_Reader_array.desc).map (fun d => d.parameters.length) = some 1 := by decide +kernel
theorem hy_Reader_dict : y_Reader_dict.cls = R_Reader ∧ y_Reader_dict.cls ≠ "java/lang/invoke/MethodHandle" ∧ y_Reader_dict.cls ≠ "java/lang/invoke/VarHandle" ∧ (parseMethodDescriptor y_Reader_dict.desc).map (fun d => d.parameters.length) = some 1 := by decide +kernel
theorem hy_Reader_escaped : y_Reader_escaped.cls = R_Reader ∧ y_Reader_escaped.cls ≠ "java/lang/invoke/MethodHandle" ∧ y_Reader_escaped.cls ≠ "java/lang/invoke/VarHandle" ∧ (parseMethodDescriptor y_Reader_escaped.desc).map (fun d => d.parameters.length) = some 0 := by decide +kernel
theorem hy_Reader_hexDigit : y_Reader_hexDigit.cls = R_Reader ∧ y_Reader_hexDigit.cls ≠ "java/lang/invoke/MethodHandle" ∧ y_Reader_hexDigit.cls ≠ "java/lang/invoke/VarHandle" ∧ (parseMethodDescriptor y_Reader_hexDigit.desc).map (fun d => d.parameters.length) = some 1 := by decide +kernel
theorem hy_Reader_hexString : y_Reader_hexString.cls = R_Reader ∧ y_Reader_hexString.cls ≠ "java/lang/invoke/MethodHandle" ∧ y_Reader_hexString.cls ≠ "java/lang/invoke/VarHandle" ∧ (parseMethodDescriptor y_Reader_hexString.desc).map (fun d => d.parameters.length) = some 0 := by decide +kernel
theorem hy_Reader_isBelow : y_Reader_isBelow.cls = R_Reader ∧ y_Reader_isBelow.cls ≠ "java/lang/invoke/MethodHandle" ∧ y_Reader_isBelow.cls ≠ "java/lang/invoke/VarHandle" ∧ (parseMethodDescriptor y_Reader_isBelow.desc).map (fun d => d.parameters.length) = some 3 := by decide +kernel
theorem hy_Reader_isInt : y_Reader_isInt.cls = R_Reader ∧ y_Reader_isInt.cls ≠ "java/lang/invoke/MethodHandle" ∧ y_Reader_isInt.cls ≠ "java/lang/invoke/VarHandle" ∧ (parseMethodDescriptor y_Reader_isInt.desc).map (fun d => d.parameters.length) = some 2 := by decide +kernel
theorem hy_Reader_isRegular : y_Reader_isRegular.cls = R_Reader ∧ y_Reader_isRegular.cls ≠ "java/lang/invoke/MethodHandle" ∧ y_Reader_isRegular.cls ≠ "java/lang/invoke/VarHandle" ∧ (parseMethodDescriptor y_Reader_isRegular.desc).map (fun d => d.parameters.length) = some 1 := by decide +kernel
theorem hy_Reader_isWhite : y_Reader_isWhite.cls = R_Reader ∧ y_Reader_isWhite.cls ≠ "java/lang/invoke/MethodHandle" ∧ y_Reader_isWhite.cls ≠ "java/lang/invoke/VarHandle" ∧ (parseMethodDescriptor y_Reader_isWhite.desc).map (fun d => d.parameters.length) = some 1 := by decide +kernel
theorem hy_Reader_isWord : y_Reader_isWord.cls = R_Reader ∧ y_Reader_isWord.cls ≠ "java/lang/invoke/MethodHandle" ∧ y_Reader_isWord.cls ≠ "java/lang/invoke/VarHandle" ∧ (parseMethodDescriptor y_Reader_isWord.desc).map (fun d => d.parameters.length) = some 2 := by decide +kernel
theorem hy_Reader_kindOfWord : y_Reader_kindOfWord.cls = R_Reader ∧ y_Reader_kindOfWord.cls ≠ "java/lang/invoke/MethodHandle" ∧ y_Reader_kindOfWord.cls ≠ "java/lang/invoke/VarHandle" ∧ (parseMethodDescriptor y_Reader_kindOfWord.desc).map (fun d => d.parameters.length) = some 1 := by decide +kernel
theorem hy_Reader_name : y_Reader_name.cls = R_Reader ∧ y_Reader_name.cls ≠ "java/lang/invoke/MethodHandle" ∧ y_Reader_name.cls ≠ "java/lang/invoke/VarHandle" ∧ (parseMethodDescriptor y_Reader_name.desc).map (fun d => d.parameters.length) = some 0 := by decide +kernel
theorem hy_Reader_number : y_Reader_number.cls = R_Reader ∧ y_Reader_number.cls ≠ "java/lang/invoke/MethodHandle" ∧ y_Reader_number.cls ≠ "java/lang/invoke/VarHandle" ∧ (parseMethodDescriptor y_Reader_number.desc).map (fun d => d.parameters.length) = some 0 := by decide +kernel
theorem hy_Reader_numberAt : y_Reader_numberAt.cls = R_Reader ∧ y_Reader_numberAt.cls ≠ "java/lang/invoke/MethodHandle" ∧ y_Reader_numberAt.cls ≠ "java/lang/invoke/VarHandle" ∧ (parseMethodDescriptor y_Reader_numberAt.desc).map (fun d => d.parameters.length) = some 2 := by decide +kernel
theorem hy_Reader_object : y_Reader_object.cls = R_Reader ∧ y_Reader_object.cls ≠ "java/lang/invoke/MethodHandle" ∧ y_Reader_object.cls ≠ "java/lang/invoke/VarHandle" ∧ (parseMethodDescriptor y_Reader_object.desc).map (fun d => d.parameters.length) = some 1 := by decide +kernel
theorem hy_Reader_octalDigit : y_Reader_octalDigit.cls = R_Reader ∧ y_Reader_octalDigit.cls ≠ "java/lang/invoke/MethodHandle" ∧ y_Reader_octalDigit.cls ≠ "java/lang/invoke/VarHandle" ∧ (parseMethodDescriptor y_Reader_octalDigit.desc).map (fun d => d.parameters.length) = some 1 := by decide +kernel
theorem hy_Reader_plainString : y_Reader_plainString.cls = R_Reader ∧ y_Reader_plainString.cls ≠ "java/lang/invoke/MethodHandle" ∧ y_Reader_plainString.cls ≠ "java/lang/invoke/VarHandle" ∧ (parseMethodDescriptor y_Reader_plainString.desc).map (fun d => d.parameters.length) = some 0 := by decide +kernel
theorem hy_Reader_readsAll : y_Reader_readsAll.cls = R_Reader ∧ y_Reader_readsAll.cls ≠ "java/lang/invoke/MethodHandle" ∧ y_Reader_readsAll.cls ≠ "java/lang/invoke/VarHandle" ∧ (parseMethodDescriptor y_Reader_readsAll.desc).map (fun d => d.parameters.length) = some 0 := by decide +kernel
theorem hy_Reader_word : y_Reader_word.cls = R_Reader ∧ y_Reader_word.cls ≠ "java/lang/invoke/MethodHandle" ∧ y_Reader_word.cls ≠ "java/lang/invoke/VarHandle" ∧ (parseMethodDescriptor y_Reader_word.desc).map (fun d => d.parameters.length) = some 0 := by decide +kernel
theorem hy_Reader_wordLength : y_Reader_wordLength.cls = R_Reader ∧ y_Reader_wordLength.cls ≠ "java/lang/invoke/MethodHandle" ∧ y_Reader_wordLength.cls ≠ "java/lang/invoke/VarHandle" ∧ (parseMethodDescriptor y_Reader_wordLength.desc).map (fun d => d.parameters.length) = some 1 := by decide +kernel
theorem hy_Row_init : y_Row_init.cls = R_Row ∧ y_Row_init.cls ≠ "java/lang/invoke/MethodHandle" ∧ y_Row_init.cls ≠ "java/lang/invoke/VarHandle" ∧ (parseMethodDescriptor y_Row_init.desc).map (fun d => d.parameters.length) = some 1 := by decide +kernel
theorem hy_Row_add : y_Row_add.cls = R_Row ∧ y_Row_add.cls ≠ "java/lang/invoke/MethodHandle" ∧ y_Row_add.cls ≠ "java/lang/invoke/VarHandle" ∧ (parseMethodDescriptor y_Row_add.desc).map (fun d => d.parameters.length) = some 1 := by decide +kernel
theorem hy_Row_addFour : y_Row_addFour.cls = R_Row ∧ y_Row_addFour.cls ≠ "java/lang/invoke/MethodHandle" ∧ y_Row_addFour.cls ≠ "java/lang/invoke/VarHandle" ∧ (parseMethodDescriptor y_Row_addFour.desc).map (fun d => d.parameters.length) = some 1 := by decide +kernel
theorem hy_Row_addFrom : y_Row_addFrom.cls = R_Row ∧ y_Row_addFrom.cls ≠ "java/lang/invoke/MethodHandle" ∧ y_Row_addFrom.cls ≠ "java/lang/invoke/VarHandle" ∧ (parseMethodDescriptor y_Row_addFrom.desc).map (fun d => d.parameters.length) = some 3 := by decide +kernel
theorem hy_Row_addWord : y_Row_addWord.cls = R_Row ∧ y_Row_addWord.cls ≠ "java/lang/invoke/MethodHandle" ∧ y_Row_addWord.cls ≠ "java/lang/invoke/VarHandle" ∧ (parseMethodDescriptor y_Row_addWord.desc).map (fun d => d.parameters.length) = some 1 := by decide +kernel
theorem hy_Row_cut : y_Row_cut.cls = R_Row ∧ y_Row_cut.cls ≠ "java/lang/invoke/MethodHandle" ∧ y_Row_cut.cls ≠ "java/lang/invoke/VarHandle" ∧ (parseMethodDescriptor y_Row_cut.desc).map (fun d => d.parameters.length) = some 1 := by decide +kernel
theorem hy_Row_get : y_Row_get.cls = R_Row ∧ y_Row_get.cls ≠ "java/lang/invoke/MethodHandle" ∧ y_Row_get.cls ≠ "java/lang/invoke/VarHandle" ∧ (parseMethodDescriptor y_Row_get.desc).map (fun d => d.parameters.length) = some 1 := by decide +kernel
theorem hy_Row_hasAt : y_Row_hasAt.cls = R_Row ∧ y_Row_hasAt.cls ≠ "java/lang/invoke/MethodHandle" ∧ y_Row_hasAt.cls ≠ "java/lang/invoke/VarHandle" ∧ (parseMethodDescriptor y_Row_hasAt.desc).map (fun d => d.parameters.length) = some 4 := by decide +kernel
theorem hy_Row_size : y_Row_size.cls = R_Row ∧ y_Row_size.cls ≠ "java/lang/invoke/MethodHandle" ∧ y_Row_size.cls ≠ "java/lang/invoke/VarHandle" ∧ (parseMethodDescriptor y_Row_size.desc).map (fun d => d.parameters.length) = some 0 := by decide +kernel
theorem hy_SL_charAt : y_SL_charAt.cls = R_SL ∧ y_SL_charAt.cls ≠ "java/lang/invoke/MethodHandle" ∧ y_SL_charAt.cls ≠ "java/lang/invoke/VarHandle" ∧ (parseMethodDescriptor y_SL_charAt.desc).map (fun d => d.parameters.length) = some 2 := by decide +kernel
theorem hy_Str_charAt : y_Str_charAt.cls = R_Str ∧ y_Str_charAt.cls ≠ "java/lang/invoke/MethodHandle" ∧ y_Str_charAt.cls ≠ "java/lang/invoke/VarHandle" ∧ (parseMethodDescriptor y_Str_charAt.desc).map (fun d => d.parameters.length) = some 1 := by decide +kernel
theorem hy_Str_checkIndex : y_Str_checkIndex.cls = R_Str ∧ y_Str_checkIndex.cls ≠ "java/lang/invoke/MethodHandle" ∧ y_Str_checkIndex.cls ≠ "java/lang/invoke/VarHandle" ∧ (parseMethodDescriptor y_Str_checkIndex.desc).map (fun d => d.parameters.length) = some 2 := by decide +kernel
theorem hy_Str_coder : y_Str_coder.cls = R_Str ∧ y_Str_coder.cls ≠ "java/lang/invoke/MethodHandle" ∧ y_Str_coder.cls ≠ "java/lang/invoke/VarHandle" ∧ (parseMethodDescriptor y_Str_coder.desc).map (fun d => d.parameters.length) = some 0 := by decide +kernel
theorem hy_Str_isLatin1 : y_Str_isLatin1.cls = R_Str ∧ y_Str_isLatin1.cls ≠ "java/lang/invoke/MethodHandle" ∧ y_Str_isLatin1.cls ≠ "java/lang/invoke/VarHandle" ∧ (parseMethodDescriptor y_Str_isLatin1.desc).map (fun d => d.parameters.length) = some 0 := by decide +kernel
theorem hy_Str_length : y_Str_length.cls = R_Str ∧ y_Str_length.cls ≠ "java/lang/invoke/MethodHandle" ∧ y_Str_length.cls ≠ "java/lang/invoke/VarHandle" ∧ (parseMethodDescriptor y_Str_length.desc).map (fun d => d.parameters.length) = some 0 := by decide +kernel
theorem hy_Tree_init : y_Tree_init.cls = R_Tree ∧ y_Tree_init.cls ≠ "java/lang/invoke/MethodHandle" ∧ y_Tree_init.cls ≠ "java/lang/invoke/VarHandle" ∧ (parseMethodDescriptor y_Tree_init.desc).map (fun d => d.parameters.length) = some 0 := by decide +kernel
theorem hy_Tree_add : y_Tree_add.cls = R_Tree ∧ y_Tree_add.cls ≠ "java/lang/invoke/MethodHandle" ∧ y_Tree_add.cls ≠ "java/lang/invoke/VarHandle" ∧ (parseMethodDescriptor y_Tree_add.desc).map (fun d => d.parameters.length) = some 3 := by decide +kernel
theorem hy_Tree_after : y_Tree_after.cls = R_Tree ∧ y_Tree_after.cls ≠ "java/lang/invoke/MethodHandle" ∧ y_Tree_after.cls ≠ "java/lang/invoke/VarHandle" ∧ (parseMethodDescriptor y_Tree_after.desc).map (fun d => d.parameters.length) = some 1 := by decide +kernel
theorem hy_Tree_clear : y_Tree_clear.cls = R_Tree ∧ y_Tree_clear.cls ≠ "java/lang/invoke/MethodHandle" ∧ y_Tree_clear.cls ≠ "java/lang/invoke/VarHandle" ∧ (parseMethodDescriptor y_Tree_clear.desc).map (fun d => d.parameters.length) = some 0 := by decide +kernel
theorem hy_Tree_countPart : y_Tree_countPart.cls = R_Tree ∧ y_Tree_countPart.cls ≠ "java/lang/invoke/MethodHandle" ∧ y_Tree_countPart.cls ≠ "java/lang/invoke/VarHandle" ∧ (parseMethodDescriptor y_Tree_countPart.desc).map (fun d => d.parameters.length) = some 1 := by decide +kernel
theorem hy_Tree_countValues : y_Tree_countValues.cls = R_Tree ∧ y_Tree_countValues.cls ≠ "java/lang/invoke/MethodHandle" ∧ y_Tree_countValues.cls ≠ "java/lang/invoke/VarHandle" ∧ (parseMethodDescriptor y_Tree_countValues.desc).map (fun d => d.parameters.length) = some 1 := by decide +kernel
theorem hy_Tree_holds : y_Tree_holds.cls = R_Tree ∧ y_Tree_holds.cls ≠ "java/lang/invoke/MethodHandle" ∧ y_Tree_holds.cls ≠ "java/lang/invoke/VarHandle" ∧ (parseMethodDescriptor y_Tree_holds.desc).map (fun d => d.parameters.length) = some 1 := by decide +kernel
theorem hy_Tree_itemNode : y_Tree_itemNode.cls = R_Tree ∧ y_Tree_itemNode.cls ≠ "java/lang/invoke/MethodHandle" ∧ y_Tree_itemNode.cls ≠ "java/lang/invoke/VarHandle" ∧ (parseMethodDescriptor y_Tree_itemNode.desc).map (fun d => d.parameters.length) = some 2 := by decide +kernel
theorem hy_Tree_kind : y_Tree_kind.cls = R_Tree ∧ y_Tree_kind.cls ≠ "java/lang/invoke/MethodHandle" ∧ y_Tree_kind.cls ≠ "java/lang/invoke/VarHandle" ∧ (parseMethodDescriptor y_Tree_kind.desc).map (fun d => d.parameters.length) = some 1 := by decide +kernel
theorem hy_Tree_nameNode : y_Tree_nameNode.cls = R_Tree ∧ y_Tree_nameNode.cls ≠ "java/lang/invoke/MethodHandle" ∧ y_Tree_nameNode.cls ≠ "java/lang/invoke/VarHandle" ∧ (parseMethodDescriptor y_Tree_nameNode.desc).map (fun d => d.parameters.length) = some 2 := by decide +kernel
theorem hy_Tree_nodeWithText : y_Tree_nodeWithText.cls = R_Tree ∧ y_Tree_nodeWithText.cls ≠ "java/lang/invoke/MethodHandle" ∧ y_Tree_nodeWithText.cls ≠ "java/lang/invoke/VarHandle" ∧ (parseMethodDescriptor y_Tree_nodeWithText.desc).map (fun d => d.parameters.length) = some 2 := by decide +kernel
theorem hy_Tree_number : y_Tree_number.cls = R_Tree ∧ y_Tree_number.cls ≠ "java/lang/invoke/MethodHandle" ∧ y_Tree_number.cls ≠ "java/lang/invoke/VarHandle" ∧ (parseMethodDescriptor y_Tree_number.desc).map (fun d => d.parameters.length) = some 1 := by decide +kernel
theorem hy_Tree_other : y_Tree_other.cls = R_Tree ∧ y_Tree_other.cls ≠ "java/lang/invoke/MethodHandle" ∧ y_Tree_other.cls ≠ "java/lang/invoke/VarHandle" ∧ (parseMethodDescriptor y_Tree_other.desc).map (fun d => d.parameters.length) = some 1 := by decide +kernel
theorem hy_Tree_part : y_Tree_part.cls = R_Tree ∧ y_Tree_part.cls ≠ "java/lang/invoke/MethodHandle" ∧ y_Tree_part.cls ≠ "java/lang/invoke/VarHandle" ∧ (parseMethodDescriptor y_Tree_part.desc).map (fun d => d.parameters.length) = some 2 := by decide +kernel
theorem hy_Tree_text : y_Tree_text.cls = R_Tree ∧ y_Tree_text.cls ≠ "java/lang/invoke/MethodHandle" ∧ y_Tree_text.cls ≠ "java/lang/invoke/VarHandle" ∧ (parseMethodDescriptor y_Tree_text.desc).map (fun d => d.parameters.length) = some 0 := by decide +kernel
theorem hy_Tree_valueNamed : y_Tree_valueNamed.cls = R_Tree ∧ y_Tree_valueNamed.cls ≠ "java/lang/invoke/MethodHandle" ∧ y_Tree_valueNamed.cls ≠ "java/lang/invoke/VarHandle" ∧ (parseMethodDescriptor y_Tree_valueNamed.desc).map (fun d => d.parameters.length) = some 4 := by decide +kernel
theorem hy_V_init : y_V_init.cls = R_V ∧ y_V_init.cls ≠ "java/lang/invoke/MethodHandle" ∧ y_V_init.cls ≠ "java/lang/invoke/VarHandle" ∧ (parseMethodDescriptor y_V_init.desc).map (fun d => d.parameters.length) = some 0 := by decide +kernel
theorem hy_V_bytes : y_V_bytes.cls = R_V ∧ y_V_bytes.cls ≠ "java/lang/invoke/MethodHandle" ∧ y_V_bytes.cls ≠ "java/lang/invoke/VarHandle" ∧ (parseMethodDescriptor y_V_bytes.desc).map (fun d => d.parameters.length) = some 1 := by decide +kernel
theorem hy_V_end : y_V_end.cls = R_V ∧ y_V_end.cls ≠ "java/lang/invoke/MethodHandle" ∧ y_V_end.cls ≠ "java/lang/invoke/VarHandle" ∧ (parseMethodDescriptor y_V_end.desc).map (fun d => d.parameters.length) = some 1 := by decide +kernel
theorem hy_V_feed : y_V_feed.cls = R_V ∧ y_V_feed.cls ≠ "java/lang/invoke/MethodHandle" ∧ y_V_feed.cls ≠ "java/lang/invoke/VarHandle" ∧ (parseMethodDescriptor y_V_feed.desc).map (fun d => d.parameters.length) = some 5 := by decide +kernel
theorem hy_V_find : y_V_find.cls = R_V ∧ y_V_find.cls ≠ "java/lang/invoke/MethodHandle" ∧ y_V_find.cls ≠ "java/lang/invoke/VarHandle" ∧ (parseMethodDescriptor y_V_find.desc).map (fun d => d.parameters.length) = some 0 := by decide +kernel
theorem hy_V_item : y_V_item.cls = R_V ∧ y_V_item.cls ≠ "java/lang/invoke/MethodHandle" ∧ y_V_item.cls ≠ "java/lang/invoke/VarHandle" ∧ (parseMethodDescriptor y_V_item.desc).map (fun d => d.parameters.length) = some 1 := by decide +kernel
theorem hy_V_look : y_V_look.cls = R_V ∧ y_V_look.cls ≠ "java/lang/invoke/MethodHandle" ∧ y_V_look.cls ≠ "java/lang/invoke/VarHandle" ∧ (parseMethodDescriptor y_V_look.desc).map (fun d => d.parameters.length) = some 1 := by decide +kernel
theorem hy_V_octet : y_V_octet.cls = R_V ∧ y_V_octet.cls ≠ "java/lang/invoke/MethodHandle" ∧ y_V_octet.cls ≠ "java/lang/invoke/VarHandle" ∧ (parseMethodDescriptor y_V_octet.desc).map (fun d => d.parameters.length) = some 1 := by decide +kernel
theorem hy_V_pointAt : y_V_pointAt.cls = R_V ∧ y_V_pointAt.cls ≠ "java/lang/invoke/MethodHandle" ∧ y_V_pointAt.cls ≠ "java/lang/invoke/VarHandle" ∧ (parseMethodDescriptor y_V_pointAt.desc).map (fun d => d.parameters.length) = some 1 := by decide +kernel
theorem hy_V_read : y_V_read.cls = R_V ∧ y_V_read.cls ≠ "java/lang/invoke/MethodHandle" ∧ y_V_read.cls ≠ "java/lang/invoke/VarHandle" ∧ (parseMethodDescriptor y_V_read.desc).map (fun d => d.parameters.length) = some 0 := by decide +kernel
theorem hy_V_top : y_V_top.cls = R_V ∧ y_V_top.cls ≠ "java/lang/invoke/MethodHandle" ∧ y_V_top.cls ≠ "java/lang/invoke/VarHandle" ∧ (parseMethodDescriptor y_V_top.desc).map (fun d => d.parameters.length) = some 0 := by decide +kernel
theorem hy_V_write : y_V_write.cls = R_V ∧ y_V_write.cls ≠ "java/lang/invoke/MethodHandle" ∧ y_V_write.cls ≠ "java/lang/invoke/VarHandle" ∧ (parseMethodDescriptor y_V_write.desc).map (fun d => d.parameters.length) = some 0 := by decide +kernel
theorem hy_Writer_init : y_Writer_init.cls = R_Writer ∧ y_Writer_init.cls ≠ "java/lang/invoke/MethodHandle" ∧ y_Writer_init.cls ≠ "java/lang/invoke/VarHandle" ∧ (parseMethodDescriptor y_Writer_init.desc).map (fun d => d.parameters.length) = some 2 := by decide +kernel
theorem hy_Writer_addAll : y_Writer_addAll.cls = R_Writer ∧ y_Writer_addAll.cls ≠ "java/lang/invoke/MethodHandle" ∧ y_Writer_addAll.cls ≠ "java/lang/invoke/VarHandle" ∧ (parseMethodDescriptor y_Writer_addAll.desc).map (fun d => d.parameters.length) = some 1 := by decide +kernel
theorem hy_Writer_addArray : y_Writer_addArray.cls = R_Writer ∧ y_Writer_addArray.cls ≠ "java/lang/invoke/MethodHandle" ∧ y_Writer_addArray.cls ≠ "java/lang/invoke/VarHandle" ∧ (parseMethodDescriptor y_Writer_addArray.desc).map (fun d => d.parameters.length) = some 2 := by decide +kernel
theorem hy_Writer_addDict : y_Writer_addDict.cls = R_Writer ∧ y_Writer_addDict.cls ≠ "java/lang/invoke/MethodHandle" ∧ y_Writer_addDict.cls ≠ "java/lang/invoke/VarHandle" ∧ (parseMethodDescriptor y_Writer_addDict.desc).map (fun d => d.parameters.length) = some 2 := by decide +kernel
theorem hy_Writer_addInt : y_Writer_addInt.cls = R_Writer ∧ y_Writer_addInt.cls ≠ "java/lang/invoke/MethodHandle" ∧ y_Writer_addInt.cls ≠ "java/lang/invoke/VarHandle" ∧ (parseMethodDescriptor y_Writer_addInt.desc).map (fun d => d.parameters.length) = some 1 := by decide +kernel
theorem hy_Writer_addName : y_Writer_addName.cls = R_Writer ∧ y_Writer_addName.cls ≠ "java/lang/invoke/MethodHandle" ∧ y_Writer_addName.cls ≠ "java/lang/invoke/VarHandle" ∧ (parseMethodDescriptor y_Writer_addName.desc).map (fun d => d.parameters.length) = some 1 := by decide +kernel
theorem hy_Writer_addRef : y_Writer_addRef.cls = R_Writer ∧ y_Writer_addRef.cls ≠ "java/lang/invoke/MethodHandle" ∧ y_Writer_addRef.cls ≠ "java/lang/invoke/VarHandle" ∧ (parseMethodDescriptor y_Writer_addRef.desc).map (fun d => d.parameters.length) = some 1 := by decide +kernel
theorem hy_Writer_addSpaceBefore : y_Writer_addSpaceBefore.cls = R_Writer ∧ y_Writer_addSpaceBefore.cls ≠ "java/lang/invoke/MethodHandle" ∧ y_Writer_addSpaceBefore.cls ≠ "java/lang/invoke/VarHandle" ∧ (parseMethodDescriptor y_Writer_addSpaceBefore.desc).map (fun d => d.parameters.length) = some 1 := by decide +kernel
theorem hy_Writer_addString : y_Writer_addString.cls = R_Writer ∧ y_Writer_addString.cls ≠ "java/lang/invoke/MethodHandle" ∧ y_Writer_addString.cls ≠ "java/lang/invoke/VarHandle" ∧ (parseMethodDescriptor y_Writer_addString.desc).map (fun d => d.parameters.length) = some 1 := by decide +kernel
theorem hy_Writer_addValue : y_Writer_addValue.cls = R_Writer ∧ y_Writer_addValue.cls ≠ "java/lang/invoke/MethodHandle" ∧ y_Writer_addValue.cls ≠ "java/lang/invoke/VarHandle" ∧ (parseMethodDescriptor y_Writer_addValue.desc).map (fun d => d.parameters.length) = some 2 := by decide +kernel
theorem hy_Writer_hexDigit : y_Writer_hexDigit.cls = R_Writer ∧ y_Writer_hexDigit.cls ≠ "java/lang/invoke/MethodHandle" ∧ y_Writer_hexDigit.cls ≠ "java/lang/invoke/VarHandle" ∧ (parseMethodDescriptor y_Writer_hexDigit.desc).map (fun d => d.parameters.length) = some 1 := by decide +kernel
