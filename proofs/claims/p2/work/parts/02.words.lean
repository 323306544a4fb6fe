/-- the words that every method of mine has: all that keep -/
def bigW : List Cond := lw_tbl.filter goodWord
theorem big_r {w : Cond} {i : Nat} (h : tables_1[i]? = some w) (hg : goodWord w = true) : w ∈ bigW := List.mem_filter.mpr ⟨List.mem_append_right _ (List.mem_of_getElem? h), hg⟩
theorem big_s {w : Cond} {i : Nat} (h : (k2_sels lw_privs)[i]? = some w) (hg : goodWord w = true) : w ∈ bigW := List.mem_filter.mpr ⟨List.mem_append_left _ (List.mem_of_getElem? h), hg⟩
theorem big_good {w : Cond} (h : w ∈ bigW) : (w.onTables && w.keeps) = true ∨ ∃ ty, w = .arrayClass ty := good_of_word (List.mem_filter.mp h).2
theorem ms_0 : Cond.selects R_Reader y_Reader_object y_Reader_object ∈ bigW := big_s (i := 0) (by decide +kernel) (by decide +kernel)
theorem ms_1 : Cond.selects R_Reader y_Reader_afterWhite y_Reader_afterWhite ∈ bigW := big_s (i := 1) (by decide +kernel) (by decide +kernel)
theorem ms_2 : Cond.selects R_Reader y_Reader_name y_Reader_name ∈ bigW := big_s (i := 2) (by decide +kernel) (by decide +kernel)
theorem ms_3 : Cond.selects R_Reader y_Reader_wordLength y_Reader_wordLength ∈ bigW := big_s (i := 3) (by decide +kernel) (by decide +kernel)
theorem ms_4 : Cond.selects R_Reader y_Reader_plainString y_Reader_plainString ∈ bigW := big_s (i := 4) (by decide +kernel) (by decide +kernel)
theorem ms_5 : Cond.selects R_Reader y_Reader_escaped y_Reader_escaped ∈ bigW := big_s (i := 5) (by decide +kernel) (by decide +kernel)
theorem ms_6 : Cond.selects R_Reader y_Reader_octalDigit y_Reader_octalDigit ∈ bigW := big_s (i := 6) (by decide +kernel) (by decide +kernel)
theorem ms_7 : Cond.selects R_Reader y_Reader_dict y_Reader_dict ∈ bigW := big_s (i := 7) (by decide +kernel) (by decide +kernel)
theorem ms_8 : Cond.selects R_Tree y_Tree_holds y_Tree_holds ∈ bigW := big_s (i := 8) (by decide +kernel) (by decide +kernel)
theorem ms_9 : Cond.selects R_Reader y_Reader_hexString y_Reader_hexString ∈ bigW := big_s (i := 9) (by decide +kernel) (by decide +kernel)
theorem ms_10 : Cond.selects R_Reader y_Reader_hexDigit y_Reader_hexDigit ∈ bigW := big_s (i := 10) (by decide +kernel) (by decide +kernel)
theorem ms_11 : Cond.selects R_Reader y_Reader_array y_Reader_array ∈ bigW := big_s (i := 11) (by decide +kernel) (by decide +kernel)
theorem ms_12 : Cond.selects R_Reader y_Reader_number y_Reader_number ∈ bigW := big_s (i := 12) (by decide +kernel) (by decide +kernel)
theorem ms_13 : Cond.selects R_Reader y_Reader_isInt y_Reader_isInt ∈ bigW := big_s (i := 13) (by decide +kernel) (by decide +kernel)
theorem ms_14 : Cond.selects R_Reader y_Reader_isBelow y_Reader_isBelow ∈ bigW := big_s (i := 14) (by decide +kernel) (by decide +kernel)
theorem ms_15 : Cond.selects R_Reader y_Reader_numberAt y_Reader_numberAt ∈ bigW := big_s (i := 15) (by decide +kernel) (by decide +kernel)
theorem ms_16 : Cond.selects R_Reader y_Reader_word y_Reader_word ∈ bigW := big_s (i := 16) (by decide +kernel) (by decide +kernel)
theorem ms_17 : Cond.selects R_Reader y_Reader_kindOfWord y_Reader_kindOfWord ∈ bigW := big_s (i := 17) (by decide +kernel) (by decide +kernel)
theorem ms_18 : Cond.selects R_Reader y_Reader_isWord y_Reader_isWord ∈ bigW := big_s (i := 18) (by decide +kernel) (by decide +kernel)
theorem ms_28 : Cond.selects R_Tree y_Tree_nameNode y_Tree_nameNode ∈ bigW := big_s (i := 28) (by decide +kernel) (by decide +kernel)
theorem ms_29 : Cond.selects R_Tree y_Tree_itemNode y_Tree_itemNode ∈ bigW := big_s (i := 29) (by decide +kernel) (by decide +kernel)
theorem m_2 : Cond.initialized R_Row ∈ bigW := big_r (i := 2) (by decide +kernel) (by decide +kernel)
theorem m_3 : Cond.initialized R_Tree ∈ bigW := big_r (i := 3) (by decide +kernel) (by decide +kernel)
theorem m_5 : Cond.initialized R_Reader ∈ bigW := big_r (i := 5) (by decide +kernel) (by decide +kernel)
theorem m_6 : Cond.initialized R_Str ∈ bigW := big_r (i := 6) (by decide +kernel) (by decide +kernel)
theorem m_7 : Cond.initialized R_SL ∈ bigW := big_r (i := 7) (by decide +kernel) (by decide +kernel)
theorem m_8 : Cond.initialized R_Pre ∈ bigW := big_r (i := 8) (by decide +kernel) (by decide +kernel)
theorem m_21 : Cond.instanceMethod objectInit ∈ bigW := big_r (i := 21) (by decide +kernel) (by decide +kernel)
theorem m_24 : Cond.instantiable R_Row 2 ∈ bigW := big_r (i := 24) (by decide +kernel) (by decide +kernel)
theorem m_26 : Cond.instanceMethod y_Row_init ∈ bigW := big_r (i := 26) (by decide +kernel) (by decide +kernel)
theorem m_27 : Cond.code y_Row_init b_Row_init 2 none ∈ bigW := big_r (i := 27) (by decide +kernel) (by decide +kernel)
theorem m_28 : Cond.methodLink R_Row 1 objectInit ∈ bigW := big_r (i := 28) (by decide +kernel) (by decide +kernel)
theorem m_29 : Cond.fieldLink R_Row 7 "ValueTexts$Row" "cells" "[B" ∈ bigW := big_r (i := 29) (by decide +kernel) (by decide +kernel)
theorem m_30 : Cond.fieldLink R_Row 13 "ValueTexts$Row" "size" "I" ∈ bigW := big_r (i := 30) (by decide +kernel) (by decide +kernel)
theorem m_36 : Cond.arrayClass .byte ∈ bigW := big_r (i := 36) (by decide +kernel) (by decide +kernel)
theorem m_42 : Cond.methodLink R_Tree 3 objectInit ∈ bigW := big_r (i := 42) (by decide +kernel) (by decide +kernel)
theorem m_43 : Cond.classLink R_Tree 25 R_Row ∈ bigW := big_r (i := 43) (by decide +kernel) (by decide +kernel)
theorem m_44 : Cond.methodLink R_Tree 27 y_Row_init ∈ bigW := big_r (i := 44) (by decide +kernel) (by decide +kernel)
theorem m_45 : Cond.fieldLink R_Tree 9 "ValueTexts$Tree" "kinds" "[B" ∈ bigW := big_r (i := 45) (by decide +kernel) (by decide +kernel)
theorem m_46 : Cond.fieldLink R_Tree 15 "ValueTexts$Tree" "numbers" "[I" ∈ bigW := big_r (i := 46) (by decide +kernel) (by decide +kernel)
theorem m_47 : Cond.fieldLink R_Tree 19 "ValueTexts$Tree" "others" "[I" ∈ bigW := big_r (i := 47) (by decide +kernel) (by decide +kernel)
theorem m_48 : Cond.fieldLink R_Tree 22 "ValueTexts$Tree" "spans" "[I" ∈ bigW := big_r (i := 48) (by decide +kernel) (by decide +kernel)
theorem m_49 : Cond.fieldLink R_Tree 30 "ValueTexts$Tree" "text" "LValueTexts$Row;" ∈ bigW := big_r (i := 49) (by decide +kernel) (by decide +kernel)
theorem m_50 : Cond.fieldLink R_Tree 34 "ValueTexts$Tree" "size" "I" ∈ bigW := big_r (i := 50) (by decide +kernel) (by decide +kernel)
theorem m_64 : Cond.arrayClass .int ∈ bigW := big_r (i := 64) (by decide +kernel) (by decide +kernel)
theorem m_86 : Cond.instanceMethod y_Row_size ∈ bigW := big_r (i := 86) (by decide +kernel) (by decide +kernel)
theorem m_87 : Cond.selects R_Row y_Row_size y_Row_size ∈ bigW := big_r (i := 87) (by decide +kernel) (by decide +kernel)
theorem m_88 : Cond.code y_Row_size b_Row_size 1 (some .int) ∈ bigW := big_r (i := 88) (by decide +kernel) (by decide +kernel)
theorem m_93 : Cond.methodLink R_Row 17 y_Row_add ∈ bigW := big_r (i := 93) (by decide +kernel) (by decide +kernel)
theorem m_94 : Cond.instanceMethod y_Row_add ∈ bigW := big_r (i := 94) (by decide +kernel) (by decide +kernel)
theorem m_95 : Cond.selects R_Row y_Row_add y_Row_add ∈ bigW := big_r (i := 95) (by decide +kernel) (by decide +kernel)
theorem m_96 : Cond.code y_Row_add b_Row_add 2 none ∈ bigW := big_r (i := 96) (by decide +kernel) (by decide +kernel)
theorem m_102 : Cond.instanceMethod y_Row_cut ∈ bigW := big_r (i := 102) (by decide +kernel) (by decide +kernel)
theorem m_103 : Cond.selects R_Row y_Row_cut y_Row_cut ∈ bigW := big_r (i := 103) (by decide +kernel) (by decide +kernel)
theorem m_104 : Cond.code y_Row_cut b_Row_cut 2 none ∈ bigW := big_r (i := 104) (by decide +kernel) (by decide +kernel)
theorem m_114 : Cond.methodLink R_Reader 3 objectInit ∈ bigW := big_r (i := 114) (by decide +kernel) (by decide +kernel)
theorem m_115 : Cond.fieldLink R_Reader 9 "ValueTexts$Reader" "tape" "LValueTexts$Row;" ∈ bigW := big_r (i := 115) (by decide +kernel) (by decide +kernel)
theorem m_116 : Cond.fieldLink R_Reader 15 "ValueTexts$Reader" "tree" "LValueTexts$Tree;" ∈ bigW := big_r (i := 116) (by decide +kernel) (by decide +kernel)
theorem m_117 : Cond.fieldLink R_Reader 19 "ValueTexts$Reader" "at" "I" ∈ bigW := big_r (i := 117) (by decide +kernel) (by decide +kernel)
theorem m_129 : Cond.methodLink R_Reader 23 y_Tree_clear ∈ bigW := big_r (i := 129) (by decide +kernel) (by decide +kernel)
theorem m_130 : Cond.instanceMethod y_Tree_clear ∈ bigW := big_r (i := 130) (by decide +kernel) (by decide +kernel)
theorem m_131 : Cond.selects R_Tree y_Tree_clear y_Tree_clear ∈ bigW := big_r (i := 131) (by decide +kernel) (by decide +kernel)
theorem m_132 : Cond.code y_Tree_clear b_Tree_clear 1 none ∈ bigW := big_r (i := 132) (by decide +kernel) (by decide +kernel)
theorem m_133 : Cond.methodLink R_Tree 38 y_Row_cut ∈ bigW := big_r (i := 133) (by decide +kernel) (by decide +kernel)
theorem m_134 : Cond.methodLink R_Reader 28 y_Reader_object ∈ bigW := big_r (i := 134) (by decide +kernel) (by decide +kernel)
theorem m_136 : Cond.instanceMethod y_Reader_object ∈ bigW := big_r (i := 136) (by decide +kernel) (by decide +kernel)
theorem m_137 : Cond.code y_Reader_object b_Reader_object 2 (some .boolean) ∈ bigW := big_r (i := 137) (by decide +kernel) (by decide +kernel)
theorem m_138 : Cond.methodLink R_Reader 32 y_Reader_afterWhite ∈ bigW := big_r (i := 138) (by decide +kernel) (by decide +kernel)
theorem m_140 : Cond.instanceMethod y_Reader_afterWhite ∈ bigW := big_r (i := 140) (by decide +kernel) (by decide +kernel)
theorem m_141 : Cond.code y_Reader_afterWhite b_Reader_afterWhite 3 (some .int) ∈ bigW := big_r (i := 141) (by decide +kernel) (by decide +kernel)
theorem m_142 : Cond.methodLink R_Reader 36 y_Row_size ∈ bigW := big_r (i := 142) (by decide +kernel) (by decide +kernel)
theorem m_143 : Cond.methodLink R_Reader 42 y_Row_get ∈ bigW := big_r (i := 143) (by decide +kernel) (by decide +kernel)
theorem m_144 : Cond.instanceMethod y_Row_get ∈ bigW := big_r (i := 144) (by decide +kernel) (by decide +kernel)
theorem m_145 : Cond.selects R_Row y_Row_get y_Row_get ∈ bigW := big_r (i := 145) (by decide +kernel) (by decide +kernel)
theorem m_146 : Cond.code y_Row_get b_Row_get 2 (some .int) ∈ bigW := big_r (i := 146) (by decide +kernel) (by decide +kernel)
theorem m_147 : Cond.methodLink R_Reader 139 y_Reader_isWhite ∈ bigW := big_r (i := 147) (by decide +kernel) (by decide +kernel)
theorem m_148 : Cond.static y_Reader_isWhite ∈ bigW := big_r (i := 148) (by decide +kernel) (by decide +kernel)
theorem m_149 : Cond.code y_Reader_isWhite b_Reader_isWhite 1 (some .boolean) ∈ bigW := big_r (i := 149) (by decide +kernel) (by decide +kernel)
theorem m_150 : Cond.methodLink R_Reader 45 y_Reader_name ∈ bigW := big_r (i := 150) (by decide +kernel) (by decide +kernel)
theorem m_152 : Cond.instanceMethod y_Reader_name ∈ bigW := big_r (i := 152) (by decide +kernel) (by decide +kernel)
theorem m_153 : Cond.code y_Reader_name b_Reader_name 2 (some .boolean) ∈ bigW := big_r (i := 153) (by decide +kernel) (by decide +kernel)
theorem m_154 : Cond.methodLink R_Reader 75 y_Reader_wordLength ∈ bigW := big_r (i := 154) (by decide +kernel) (by decide +kernel)
theorem m_156 : Cond.instanceMethod y_Reader_wordLength ∈ bigW := big_r (i := 156) (by decide +kernel) (by decide +kernel)
theorem m_157 : Cond.code y_Reader_wordLength b_Reader_wordLength 3 (some .int) ∈ bigW := big_r (i := 157) (by decide +kernel) (by decide +kernel)
theorem m_158 : Cond.methodLink R_Reader 136 y_Reader_isRegular ∈ bigW := big_r (i := 158) (by decide +kernel) (by decide +kernel)
theorem m_159 : Cond.static y_Reader_isRegular ∈ bigW := big_r (i := 159) (by decide +kernel) (by decide +kernel)
theorem m_160 : Cond.code y_Reader_isRegular b_Reader_isRegular 1 (some .boolean) ∈ bigW := big_r (i := 160) (by decide +kernel) (by decide +kernel)
theorem m_161 : Cond.methodLink R_Reader 82 y_Tree_text ∈ bigW := big_r (i := 161) (by decide +kernel) (by decide +kernel)
theorem m_162 : Cond.instanceMethod y_Tree_text ∈ bigW := big_r (i := 162) (by decide +kernel) (by decide +kernel)
theorem m_163 : Cond.selects R_Tree y_Tree_text y_Tree_text ∈ bigW := big_r (i := 163) (by decide +kernel) (by decide +kernel)
theorem m_164 : Cond.code y_Tree_text b_Tree_text 1 (some (.object "ValueTexts$Row")) ∈ bigW := big_r (i := 164) (by decide +kernel) (by decide +kernel)
theorem m_165 : Cond.methodLink R_Reader 67 y_Tree_add ∈ bigW := big_r (i := 165) (by decide +kernel) (by decide +kernel)
theorem m_166 : Cond.instanceMethod y_Tree_add ∈ bigW := big_r (i := 166) (by decide +kernel) (by decide +kernel)
theorem m_167 : Cond.selects R_Tree y_Tree_add y_Tree_add ∈ bigW := big_r (i := 167) (by decide +kernel) (by decide +kernel)
theorem m_168 : Cond.code y_Tree_add b_Tree_add 5 (some .int) ∈ bigW := big_r (i := 168) (by decide +kernel) (by decide +kernel)
theorem m_169 : Cond.methodLink R_Reader 86 y_Row_addFrom ∈ bigW := big_r (i := 169) (by decide +kernel) (by decide +kernel)
theorem m_170 : Cond.instanceMethod y_Row_addFrom ∈ bigW := big_r (i := 170) (by decide +kernel) (by decide +kernel)
theorem m_171 : Cond.selects R_Row y_Row_addFrom y_Row_addFrom ∈ bigW := big_r (i := 171) (by decide +kernel) (by decide +kernel)
theorem m_172 : Cond.code y_Row_addFrom b_Row_addFrom 5 none ∈ bigW := big_r (i := 172) (by decide +kernel) (by decide +kernel)
theorem m_173 : Cond.methodLink R_Row 31 y_Row_get ∈ bigW := big_r (i := 173) (by decide +kernel) (by decide +kernel)
theorem m_174 : Cond.methodLink R_Reader 49 y_Reader_plainString ∈ bigW := big_r (i := 174) (by decide +kernel) (by decide +kernel)
theorem m_176 : Cond.instanceMethod y_Reader_plainString ∈ bigW := big_r (i := 176) (by decide +kernel) (by decide +kernel)
theorem m_177 : Cond.code y_Reader_plainString b_Reader_plainString 4 (some .boolean) ∈ bigW := big_r (i := 177) (by decide +kernel) (by decide +kernel)
theorem m_178 : Cond.methodLink R_Reader 90 y_Reader_escaped ∈ bigW := big_r (i := 178) (by decide +kernel) (by decide +kernel)
theorem m_180 : Cond.instanceMethod y_Reader_escaped ∈ bigW := big_r (i := 180) (by decide +kernel) (by decide +kernel)
theorem m_181 : Cond.code y_Reader_escaped b_Reader_escaped 5 (some .int) ∈ bigW := big_r (i := 181) (by decide +kernel) (by decide +kernel)
theorem m_182 : Cond.methodLink R_Reader 95 y_Reader_octalDigit ∈ bigW := big_r (i := 182) (by decide +kernel) (by decide +kernel)
theorem m_184 : Cond.instanceMethod y_Reader_octalDigit ∈ bigW := big_r (i := 184) (by decide +kernel) (by decide +kernel)
theorem m_185 : Cond.code y_Reader_octalDigit b_Reader_octalDigit 3 (some .int) ∈ bigW := big_r (i := 185) (by decide +kernel) (by decide +kernel)
theorem m_186 : Cond.methodLink R_Reader 93 y_Row_add ∈ bigW := big_r (i := 186) (by decide +kernel) (by decide +kernel)
theorem m_187 : Cond.methodLink R_Reader 52 y_Reader_dict ∈ bigW := big_r (i := 187) (by decide +kernel) (by decide +kernel)
theorem m_189 : Cond.instanceMethod y_Reader_dict ∈ bigW := big_r (i := 189) (by decide +kernel) (by decide +kernel)
theorem m_190 : Cond.code y_Reader_dict b_Reader_dict 5 (some .boolean) ∈ bigW := big_r (i := 190) (by decide +kernel) (by decide +kernel)
theorem m_191 : Cond.methodLink R_Reader 78 y_Tree_valueNamed ∈ bigW := big_r (i := 191) (by decide +kernel) (by decide +kernel)
theorem m_192 : Cond.instanceMethod y_Tree_valueNamed ∈ bigW := big_r (i := 192) (by decide +kernel) (by decide +kernel)
theorem m_193 : Cond.selects R_Tree y_Tree_valueNamed y_Tree_valueNamed ∈ bigW := big_r (i := 193) (by decide +kernel) (by decide +kernel)
theorem m_194 : Cond.code y_Tree_valueNamed b_Tree_valueNamed 8 (some .int) ∈ bigW := big_r (i := 194) (by decide +kernel) (by decide +kernel)
theorem m_195 : Cond.methodLink R_Tree 49 y_Tree_kind ∈ bigW := big_r (i := 195) (by decide +kernel) (by decide +kernel)
theorem m_196 : Cond.instanceMethod y_Tree_kind ∈ bigW := big_r (i := 196) (by decide +kernel) (by decide +kernel)
theorem m_197 : Cond.selects R_Tree y_Tree_kind y_Tree_kind ∈ bigW := big_r (i := 197) (by decide +kernel) (by decide +kernel)
theorem m_198 : Cond.code y_Tree_kind b_Tree_kind 2 (some .int) ∈ bigW := big_r (i := 198) (by decide +kernel) (by decide +kernel)
theorem m_199 : Cond.methodLink R_Tree 41 y_Tree_holds ∈ bigW := big_r (i := 199) (by decide +kernel) (by decide +kernel)
theorem m_201 : Cond.instanceMethod y_Tree_holds ∈ bigW := big_r (i := 201) (by decide +kernel) (by decide +kernel)
theorem m_202 : Cond.code y_Tree_holds b_Tree_holds 2 (some .boolean) ∈ bigW := big_r (i := 202) (by decide +kernel) (by decide +kernel)
theorem m_203 : Cond.methodLink R_Tree 45 y_Tree_number ∈ bigW := big_r (i := 203) (by decide +kernel) (by decide +kernel)
theorem m_204 : Cond.instanceMethod y_Tree_number ∈ bigW := big_r (i := 204) (by decide +kernel) (by decide +kernel)
theorem m_205 : Cond.selects R_Tree y_Tree_number y_Tree_number ∈ bigW := big_r (i := 205) (by decide +kernel) (by decide +kernel)
theorem m_206 : Cond.code y_Tree_number b_Tree_number 2 (some .int) ∈ bigW := big_r (i := 206) (by decide +kernel) (by decide +kernel)
theorem m_207 : Cond.methodLink R_Tree 62 y_Tree_other ∈ bigW := big_r (i := 207) (by decide +kernel) (by decide +kernel)
theorem m_208 : Cond.instanceMethod y_Tree_other ∈ bigW := big_r (i := 208) (by decide +kernel) (by decide +kernel)
theorem m_209 : Cond.selects R_Tree y_Tree_other y_Tree_other ∈ bigW := big_r (i := 209) (by decide +kernel) (by decide +kernel)
theorem m_210 : Cond.code y_Tree_other b_Tree_other 2 (some .int) ∈ bigW := big_r (i := 210) (by decide +kernel) (by decide +kernel)
theorem m_211 : Cond.methodLink R_Tree 65 y_Row_hasAt ∈ bigW := big_r (i := 211) (by decide +kernel) (by decide +kernel)
theorem m_212 : Cond.instanceMethod y_Row_hasAt ∈ bigW := big_r (i := 212) (by decide +kernel) (by decide +kernel)
theorem m_213 : Cond.selects R_Row y_Row_hasAt y_Row_hasAt ∈ bigW := big_r (i := 213) (by decide +kernel) (by decide +kernel)
theorem m_214 : Cond.code y_Row_hasAt b_Row_hasAt 6 (some .boolean) ∈ bigW := big_r (i := 214) (by decide +kernel) (by decide +kernel)
theorem m_215 : Cond.methodLink R_Tree 59 y_Tree_after ∈ bigW := big_r (i := 215) (by decide +kernel) (by decide +kernel)
theorem m_216 : Cond.instanceMethod y_Tree_after ∈ bigW := big_r (i := 216) (by decide +kernel) (by decide +kernel)
theorem m_217 : Cond.selects R_Tree y_Tree_after y_Tree_after ∈ bigW := big_r (i := 217) (by decide +kernel) (by decide +kernel)
theorem m_218 : Cond.code y_Tree_after b_Tree_after 2 (some .int) ∈ bigW := big_r (i := 218) (by decide +kernel) (by decide +kernel)
theorem m_219 : Cond.methodLink R_Reader 71 y_Tree_countPart ∈ bigW := big_r (i := 219) (by decide +kernel) (by decide +kernel)
theorem m_220 : Cond.instanceMethod y_Tree_countPart ∈ bigW := big_r (i := 220) (by decide +kernel) (by decide +kernel)
theorem m_221 : Cond.selects R_Tree y_Tree_countPart y_Tree_countPart ∈ bigW := big_r (i := 221) (by decide +kernel) (by decide +kernel)
theorem m_222 : Cond.code y_Tree_countPart b_Tree_countPart 2 none ∈ bigW := big_r (i := 222) (by decide +kernel) (by decide +kernel)
theorem m_223 : Cond.methodLink R_Reader 55 y_Reader_hexString ∈ bigW := big_r (i := 223) (by decide +kernel) (by decide +kernel)
theorem m_225 : Cond.instanceMethod y_Reader_hexString ∈ bigW := big_r (i := 225) (by decide +kernel) (by decide +kernel)
theorem m_226 : Cond.code y_Reader_hexString b_Reader_hexString 5 (some .boolean) ∈ bigW := big_r (i := 226) (by decide +kernel) (by decide +kernel)
theorem m_227 : Cond.methodLink R_Reader 98 y_Reader_hexDigit ∈ bigW := big_r (i := 227) (by decide +kernel) (by decide +kernel)
theorem m_229 : Cond.instanceMethod y_Reader_hexDigit ∈ bigW := big_r (i := 229) (by decide +kernel) (by decide +kernel)
theorem m_230 : Cond.code y_Reader_hexDigit b_Reader_hexDigit 3 (some .int) ∈ bigW := big_r (i := 230) (by decide +kernel) (by decide +kernel)
theorem m_231 : Cond.methodLink R_Reader 58 y_Reader_array ∈ bigW := big_r (i := 231) (by decide +kernel) (by decide +kernel)
theorem m_233 : Cond.instanceMethod y_Reader_array ∈ bigW := big_r (i := 233) (by decide +kernel) (by decide +kernel)
theorem m_234 : Cond.code y_Reader_array b_Reader_array 4 (some .boolean) ∈ bigW := big_r (i := 234) (by decide +kernel) (by decide +kernel)
theorem m_235 : Cond.methodLink R_Reader 61 y_Reader_number ∈ bigW := big_r (i := 235) (by decide +kernel) (by decide +kernel)
theorem m_237 : Cond.instanceMethod y_Reader_number ∈ bigW := big_r (i := 237) (by decide +kernel) (by decide +kernel)
theorem m_238 : Cond.code y_Reader_number b_Reader_number 6 (some .boolean) ∈ bigW := big_r (i := 238) (by decide +kernel) (by decide +kernel)
theorem m_239 : Cond.methodLink R_Reader 123 y_Reader_isInt ∈ bigW := big_r (i := 239) (by decide +kernel) (by decide +kernel)
theorem m_241 : Cond.instanceMethod y_Reader_isInt ∈ bigW := big_r (i := 241) (by decide +kernel) (by decide +kernel)
theorem m_242 : Cond.code y_Reader_isInt b_Reader_isInt 7 (some .boolean) ∈ bigW := big_r (i := 242) (by decide +kernel) (by decide +kernel)
theorem m_243 : Cond.methodLink R_Reader 127 y_Reader_isBelow ∈ bigW := big_r (i := 243) (by decide +kernel) (by decide +kernel)
theorem m_245 : Cond.instanceMethod y_Reader_isBelow ∈ bigW := big_r (i := 245) (by decide +kernel) (by decide +kernel)
theorem m_246 : Cond.code y_Reader_isBelow b_Reader_isBelow 4 (some .boolean) ∈ bigW := big_r (i := 246) (by decide +kernel) (by decide +kernel)
theorem m_247 : Cond.methodLink R_Reader 132 y_Reader_numberAt ∈ bigW := big_r (i := 247) (by decide +kernel) (by decide +kernel)
theorem m_249 : Cond.instanceMethod y_Reader_numberAt ∈ bigW := big_r (i := 249) (by decide +kernel) (by decide +kernel)
theorem m_250 : Cond.code y_Reader_numberAt b_Reader_numberAt 6 (some .int) ∈ bigW := big_r (i := 250) (by decide +kernel) (by decide +kernel)
theorem m_251 : Cond.constant R_Reader 131 65536 ∈ bigW := big_r (i := 251) (by decide +kernel) (by decide +kernel)
theorem m_252 : Cond.methodLink R_Reader 64 y_Reader_word ∈ bigW := big_r (i := 252) (by decide +kernel) (by decide +kernel)
theorem m_254 : Cond.instanceMethod y_Reader_word ∈ bigW := big_r (i := 254) (by decide +kernel) (by decide +kernel)
theorem m_255 : Cond.code y_Reader_word b_Reader_word 3 (some .boolean) ∈ bigW := big_r (i := 255) (by decide +kernel) (by decide +kernel)
theorem m_256 : Cond.methodLink R_Reader 101 y_Reader_kindOfWord ∈ bigW := big_r (i := 256) (by decide +kernel) (by decide +kernel)
theorem m_258 : Cond.instanceMethod y_Reader_kindOfWord ∈ bigW := big_r (i := 258) (by decide +kernel) (by decide +kernel)
theorem m_259 : Cond.code y_Reader_kindOfWord b_Reader_kindOfWord 2 (some .int) ∈ bigW := big_r (i := 259) (by decide +kernel) (by decide +kernel)
theorem m_261 : Cond.methodLink R_Reader 106 y_Reader_isWord ∈ bigW := big_r (i := 261) (by decide +kernel) (by decide +kernel)
theorem m_263 : Cond.instanceMethod y_Reader_isWord ∈ bigW := big_r (i := 263) (by decide +kernel) (by decide +kernel)
theorem m_264 : Cond.code y_Reader_isWord b_Reader_isWord 4 (some .boolean) ∈ bigW := big_r (i := 264) (by decide +kernel) (by decide +kernel)
theorem m_265 : Cond.methodLink R_Reader 114 y_Str_length ∈ bigW := big_r (i := 265) (by decide +kernel) (by decide +kernel)
theorem m_266 : Cond.instanceMethod y_Str_length ∈ bigW := big_r (i := 266) (by decide +kernel) (by decide +kernel)
theorem m_267 : Cond.selects R_Str y_Str_length y_Str_length ∈ bigW := big_r (i := 267) (by decide +kernel) (by decide +kernel)
theorem m_268 : Cond.code y_Str_length b_Str_length 1 (some .int) ∈ bigW := big_r (i := 268) (by decide +kernel) (by decide +kernel)
theorem m_269 : Cond.methodLink R_Str 335 y_Str_coder ∈ bigW := big_r (i := 269) (by decide +kernel) (by decide +kernel)
theorem m_270 : Cond.instanceMethod y_Str_coder ∈ bigW := big_r (i := 270) (by decide +kernel) (by decide +kernel)
theorem m_271 : Cond.selects R_Str y_Str_coder y_Str_coder ∈ bigW := big_r (i := 271) (by decide +kernel) (by decide +kernel)
theorem m_272 : Cond.code y_Str_coder b_Str_coder 1 (some .byte) ∈ bigW := big_r (i := 272) (by decide +kernel) (by decide +kernel)
theorem m_273 : Cond.fieldLink R_Str 38 "java/lang/String" "COMPACT_STRINGS" "Z" ∈ bigW := big_r (i := 273) (by decide +kernel) (by decide +kernel)
theorem m_275 : Cond.methodLink R_Reader 119 y_Str_charAt ∈ bigW := big_r (i := 275) (by decide +kernel) (by decide +kernel)
theorem m_276 : Cond.instanceMethod y_Str_charAt ∈ bigW := big_r (i := 276) (by decide +kernel) (by decide +kernel)
theorem m_277 : Cond.selects R_Str y_Str_charAt y_Str_charAt ∈ bigW := big_r (i := 277) (by decide +kernel) (by decide +kernel)
theorem m_278 : Cond.code y_Str_charAt b_Str_charAt 2 (some .char) ∈ bigW := big_r (i := 278) (by decide +kernel) (by decide +kernel)
theorem m_279 : Cond.methodLink R_Str 492 y_Str_isLatin1 ∈ bigW := big_r (i := 279) (by decide +kernel) (by decide +kernel)
theorem m_280 : Cond.instanceMethod y_Str_isLatin1 ∈ bigW := big_r (i := 280) (by decide +kernel) (by decide +kernel)
theorem m_281 : Cond.selects R_Str y_Str_isLatin1 y_Str_isLatin1 ∈ bigW := big_r (i := 281) (by decide +kernel) (by decide +kernel)
theorem m_282 : Cond.code y_Str_isLatin1 b_Str_isLatin1 1 (some .boolean) ∈ bigW := big_r (i := 282) (by decide +kernel) (by decide +kernel)
theorem m_283 : Cond.methodLink R_Str 495 y_SL_charAt ∈ bigW := big_r (i := 283) (by decide +kernel) (by decide +kernel)
theorem m_284 : Cond.static y_SL_charAt ∈ bigW := big_r (i := 284) (by decide +kernel) (by decide +kernel)
theorem m_285 : Cond.code y_SL_charAt b_SL_charAt 2 (some .char) ∈ bigW := big_r (i := 285) (by decide +kernel) (by decide +kernel)
theorem m_286 : Cond.methodLink R_SL 9 y_Str_checkIndex ∈ bigW := big_r (i := 286) (by decide +kernel) (by decide +kernel)
theorem m_287 : Cond.static y_Str_checkIndex ∈ bigW := big_r (i := 287) (by decide +kernel) (by decide +kernel)
theorem m_288 : Cond.code y_Str_checkIndex b_Str_checkIndex 2 none ∈ bigW := big_r (i := 288) (by decide +kernel) (by decide +kernel)
theorem m_289 : Cond.fieldLink R_Str 1053 "jdk/internal/util/Preconditions" "SIOOBE_FORMATTER" "Ljava/util/function/BiFunction;" ∈ bigW := big_r (i := 289) (by decide +kernel) (by decide +kernel)
theorem m_291 : Cond.methodLink R_Str 1059 y_Pre_checkIndex ∈ bigW := big_r (i := 291) (by decide +kernel) (by decide +kernel)
theorem m_292 : Cond.static y_Pre_checkIndex ∈ bigW := big_r (i := 292) (by decide +kernel) (by decide +kernel)
theorem m_293 : Cond.code y_Pre_checkIndex b_Pre_checkIndex 3 (some .int) ∈ bigW := big_r (i := 293) (by decide +kernel) (by decide +kernel)
theorem m_347 : Cond.methodLink R_Row 21 y_Str_length ∈ bigW := big_r (i := 347) (by decide +kernel) (by decide +kernel)
theorem m_348 : Cond.methodLink R_Row 27 y_Str_charAt ∈ bigW := big_r (i := 348) (by decide +kernel) (by decide +kernel)
theorem m_409 : Cond.methodLink R_Tree 52 y_Tree_nameNode ∈ bigW := big_r (i := 409) (by decide +kernel) (by decide +kernel)
theorem m_411 : Cond.instanceMethod y_Tree_nameNode ∈ bigW := big_r (i := 411) (by decide +kernel) (by decide +kernel)
theorem m_412 : Cond.code y_Tree_nameNode b_Tree_nameNode 5 (some .int) ∈ bigW := big_r (i := 412) (by decide +kernel) (by decide +kernel)
theorem m_413 : Cond.methodLink R_Tree 56 y_Tree_itemNode ∈ bigW := big_r (i := 413) (by decide +kernel) (by decide +kernel)
theorem m_415 : Cond.instanceMethod y_Tree_itemNode ∈ bigW := big_r (i := 415) (by decide +kernel) (by decide +kernel)
theorem m_416 : Cond.code y_Tree_itemNode b_Tree_itemNode 5 (some .int) ∈ bigW := big_r (i := 416) (by decide +kernel) (by decide +kernel)
theorem m_744 : Cond.fieldLink R_Str 9 "java/lang/String" "value" "[B" ∈ bigW := big_r (i := 744) (by decide +kernel) (by decide +kernel)
theorem m_745 : Cond.fieldLink R_Str 15 "java/lang/String" "coder" "B" ∈ bigW := big_r (i := 745) (by decide +kernel) (by decide +kernel)
theorem i_V : ∀ w ∈ u_ws R_V F_V 5, w ∈ bigW := by
  intro w hw
  have e : u_ws R_V F_V 5 = [u_lay R_V F_V 0, u_lay R_V F_V 1, u_lay R_V F_V 2, u_lay R_V F_V 3, u_lay R_V F_V 4] := rfl
  rw [e] at hw
  simp only [List.mem_cons, List.not_mem_nil, or_false] at hw
  rcases hw with rfl | rfl | rfl | rfl | rfl
  · exact big_r (i := 70) (by decide +kernel) (by decide +kernel)
  · exact big_r (i := 72) (by decide +kernel) (by decide +kernel)
  · exact big_r (i := 74) (by decide +kernel) (by decide +kernel)
  · exact big_r (i := 76) (by decide +kernel) (by decide +kernel)
  · exact big_r (i := 78) (by decide +kernel) (by decide +kernel)
theorem i_Row : ∀ w ∈ u_ws R_Row F_Row 2, w ∈ bigW := by
  intro w hw
  have e : u_ws R_Row F_Row 2 = [u_lay R_Row F_Row 0, u_lay R_Row F_Row 1] := rfl
  rw [e] at hw
  simp only [List.mem_cons, List.not_mem_nil, or_false] at hw
  rcases hw with rfl | rfl
  · exact big_r (i := 31) (by decide +kernel) (by decide +kernel)
  · exact big_r (i := 33) (by decide +kernel) (by decide +kernel)
theorem i_Tree : ∀ w ∈ u_ws R_Tree F_Tree 6, w ∈ bigW := by
  intro w hw
  have e : u_ws R_Tree F_Tree 6 = [u_lay R_Tree F_Tree 0, u_lay R_Tree F_Tree 1, u_lay R_Tree F_Tree 2, u_lay R_Tree F_Tree 3, u_lay R_Tree F_Tree 4, u_lay R_Tree F_Tree 5] := rfl
  rw [e] at hw
  simp only [List.mem_cons, List.not_mem_nil, or_false] at hw
  rcases hw with rfl | rfl | rfl | rfl | rfl | rfl
  · exact big_r (i := 51) (by decide +kernel) (by decide +kernel)
  · exact big_r (i := 53) (by decide +kernel) (by decide +kernel)
  · exact big_r (i := 55) (by decide +kernel) (by decide +kernel)
  · exact big_r (i := 57) (by decide +kernel) (by decide +kernel)
  · exact big_r (i := 59) (by decide +kernel) (by decide +kernel)
  · exact big_r (i := 61) (by decide +kernel) (by decide +kernel)
theorem i_Reader : ∀ w ∈ u_ws R_Reader F_Reader 3, w ∈ bigW := by
  intro w hw
  have e : u_ws R_Reader F_Reader 3 = [u_lay R_Reader F_Reader 0, u_lay R_Reader F_Reader 1, u_lay R_Reader F_Reader 2] := rfl
  rw [e] at hw
  simp only [List.mem_cons, List.not_mem_nil, or_false] at hw
  rcases hw with rfl | rfl | rfl
  · exact big_r (i := 118) (by decide +kernel) (by decide +kernel)
  · exact big_r (i := 120) (by decide +kernel) (by decide +kernel)
  · exact big_r (i := 122) (by decide +kernel) (by decide +kernel)
theorem i_Writer : ∀ w ∈ u_ws R_Writer F_Writer 2, w ∈ bigW := by
  intro w hw
  have e : u_ws R_Writer F_Writer 2 = [u_lay R_Writer F_Writer 0, u_lay R_Writer F_Writer 1] := rfl
  rw [e] at hw
  simp only [List.mem_cons, List.not_mem_nil, or_false] at hw
  rcases hw with rfl | rfl
  · exact big_r (i := 328) (by decide +kernel) (by decide +kernel)
  · exact big_r (i := 330) (by decide +kernel) (by decide +kernel)
theorem i_M : ∀ w ∈ u_ws R_M F_M 12, w ∈ bigW := by
  intro w hw
  have e : u_ws R_M F_M 12 = [u_lay R_M F_M 0, u_lay R_M F_M 1, u_lay R_M F_M 2, u_lay R_M F_M 3, u_lay R_M F_M 4, u_lay R_M F_M 5, u_lay R_M F_M 6, u_lay R_M F_M 7, u_lay R_M F_M 8, u_lay R_M F_M 9, u_lay R_M F_M 10, u_lay R_M F_M 11] := rfl
  rw [e] at hw
  simp only [List.mem_cons, List.not_mem_nil, or_false] at hw
  rcases hw with rfl | rfl | rfl | rfl | rfl | rfl | rfl | rfl | rfl | rfl | rfl | rfl
  · exact big_r (i := 465) (by decide +kernel) (by decide +kernel)
  · exact big_r (i := 467) (by decide +kernel) (by decide +kernel)
  · exact big_r (i := 469) (by decide +kernel) (by decide +kernel)
  · exact big_r (i := 471) (by decide +kernel) (by decide +kernel)
  · exact big_r (i := 473) (by decide +kernel) (by decide +kernel)
  · exact big_r (i := 475) (by decide +kernel) (by decide +kernel)
  · exact big_r (i := 477) (by decide +kernel) (by decide +kernel)
  · exact big_r (i := 479) (by decide +kernel) (by decide +kernel)
  · exact big_r (i := 481) (by decide +kernel) (by decide +kernel)
  · exact big_r (i := 483) (by decide +kernel) (by decide +kernel)
  · exact big_r (i := 485) (by decide +kernel) (by decide +kernel)
  · exact big_r (i := 487) (by decide +kernel) (by decide +kernel)
theorem i_Part : ∀ w ∈ u_ws R_Part F_Part 7, w ∈ bigW := by
  intro w hw
  have e : u_ws R_Part F_Part 7 = [u_lay R_Part F_Part 0, u_lay R_Part F_Part 1, u_lay R_Part F_Part 2, u_lay R_Part F_Part 3, u_lay R_Part F_Part 4, u_lay R_Part F_Part 5, u_lay R_Part F_Part 6] := rfl
  rw [e] at hw
  simp only [List.mem_cons, List.not_mem_nil, or_false] at hw
  rcases hw with rfl | rfl | rfl | rfl | rfl | rfl | rfl
  · exact big_r (i := 552) (by decide +kernel) (by decide +kernel)
  · exact big_r (i := 554) (by decide +kernel) (by decide +kernel)
  · exact big_r (i := 556) (by decide +kernel) (by decide +kernel)
  · exact big_r (i := 558) (by decide +kernel) (by decide +kernel)
  · exact big_r (i := 560) (by decide +kernel) (by decide +kernel)
  · exact big_r (i := 562) (by decide +kernel) (by decide +kernel)
  · exact big_r (i := 564) (by decide +kernel) (by decide +kernel)
theorem m_oi : Cond.code objectInit ⟨#[0xb1]⟩ 1 none ∈ bigW := big_r (i := 22) rfl (by decide +kernel)
theorem hy_Pre_checkIndex : y_Pre_checkIndex.cls = R_Pre ∧ y_Pre_checkIndex.cls ≠ "java/lang/invoke/MethodHandle" ∧ y_Pre_checkIndex.cls ≠ "java/lang/invoke/VarHandle" ∧ (parseMethodDescriptor y_Pre_checkIndex.desc).map (fun d => d.parameters.length) = some 3 := by decide +kernel
theorem hy_Reader_afterWhite : y_Reader_afterWhite.cls = R_Reader ∧ y_Reader_afterWhite.cls ≠ "java/lang/invoke/MethodHandle" ∧ y_Reader_afterWhite.cls ≠ "java/lang/invoke/VarHandle" ∧ (parseMethodDescriptor y_Reader_afterWhite.desc).map (fun d => d.parameters.length) = some 1 := by decide +kernel
theorem hy_Reader_array : y_Reader_array.cls = R_Reader ∧ y_Reader_array.cls ≠ "java/lang/invoke/MethodHandle" ∧ y_Reader_array.cls ≠ "java/lang/invoke/VarHandle" ∧ (parseMethodDescriptor y_Reader_array.desc).map (fun d => d.parameters.length) = some 1 := by decide +kernel
theorem hy_Reader_dict : y_Reader_dict.cls = R_Reader ∧ y_Reader_dict.cls ≠ "java/lang/invoke/MethodHandle" ∧ y_Reader_dict.cls ≠ "java/lang/invoke/VarHandle" ∧ (parseMethodDescriptor y_Reader_dict.desc).map (fun d => d.parameters.length) = some 1 := by decide +kernel
theorem hy_Reader_escaped : y_Reader_escaped.cls = R_Reader ∧ y_Reader_escaped.cls ≠ "java/lang/invoke/MethodHandle" ∧ y_Reader_escaped.cls ≠ "java/lang/invoke/VarHandle" ∧ (parseMethodDescriptor y_Reader_escaped.desc).map (fun d => d.parameters.length) = some 0 := by decide +kernel
theorem hy_Reader_hexDigit : y_Reader_hexDigit.cls = R_Reader ∧ y_Reader_hexDigit.cls ≠ "java/lang/invoke/MethodHandle" ∧ y_Reader_hexDigit.cls ≠ "java/lang/invoke/VarHandle" ∧ (parseMethodDescriptor y_Reader_hexDigit.desc).map (fun d => d.parameters.length) = some 1 := by decide +kernel
theorem hy_Reader_hexString : y_Reader_hexString.cls = R_Reader ∧ y_Reader_hexString.cls ≠ "java/lang/invoke/MethodHandle" ∧ y_Reader_hexString.cls ≠ "java/lang/invoke/VarHandle" ∧ (parseMethodDescriptor y_Reader_hexString.desc).map (fun d => d.parameters.length) = some 0 := by decide +kernel
theorem hy_Reader_isBelow : y_Reader_isBelow.cls = R_Reader ∧ y_Reader_isBelow.cls ≠ "java/lang/invoke/MethodHandle" ∧ y_Reader_isBelow.cls ≠ "java/lang/invoke/VarHandle" ∧ (parseMethodDescriptor y_Reader_isBelow.desc).map (fun d => d.parameters.length) = some 3 := by decide +kernel
theorem hy_Reader_isInt : y_Reader_isInt.cls = R_Reader ∧ y_Reader_isInt.cls ≠ "java/lang/invoke/MethodHandle" ∧ y_Reader_isInt.cls ≠ "java/lang/invoke/VarHandle" ∧ (parseMethodDescriptor y_Reader_isInt.desc).map (fun d => d.parameters.length) = some 2 := by decide +kernel
theorem hy_Reader_isRegular : y_Reader_isRegular.cls = R_Reader ∧ y_Reader_isRegular.cls ≠ "java/lang/invoke/MethodHandle" ∧ y_Reader_isRegular.cls ≠ "java/lang/invoke/VarHandle" ∧ (parseMethodDescriptor y_Reader_isRegular.desc).map (fun d => d.parameters.length) = some 1 := by decide +kernel
theorem hy_Reader_isWhite : y_Reader_isWhite.cls = R_Reader ∧ y_Reader_isWhite.cls ≠ "java/lang/invoke/MethodHandle" ∧ y_Reader_isWhite.cls ≠ "java/lang/invoke/VarHandle" ∧ (parseMethodDescriptor y_Reader_isWhite.desc).map (fun d => d.parameters.length) = some 1 := by decide +kernel
theorem hy_Reader_isWord : y_Reader_isWord.cls = R_Reader ∧ y_Reader_isWord.cls ≠ "java/lang/invoke/MethodHandle" ∧ y_Reader_isWord.cls ≠ "java/lang/invoke/VarHandle" ∧ (parseMethodDescriptor y_Reader_isWord.desc).map (fun d => d.parameters.length) = some 2 := by decide +kernel
theorem hy_Reader_kindOfWord : y_Reader_kindOfWord.cls = R_Reader ∧ y_Reader_kindOfWord.cls ≠ "java/lang/invoke/MethodHandle" ∧ y_Reader_kindOfWord.cls ≠ "java/lang/invoke/VarHandle" ∧ (parseMethodDescriptor y_Reader_kindOfWord.desc).map (fun d => d.parameters.length) = some 1 := by decide +kernel
theorem hy_Reader_name : y_Reader_name.cls = R_Reader ∧ y_Reader_name.cls ≠ "java/lang/invoke/MethodHandle" ∧ y_Reader_name.cls ≠ "java/lang/invoke/VarHandle" ∧ (parseMethodDescriptor y_Reader_name.desc).map (fun d => d.parameters.length) = some 0 := by decide +kernel
theorem hy_Reader_number : y_Reader_number.cls = R_Reader ∧ y_Reader_number.cls ≠ "java/lang/invoke/MethodHandle" ∧ y_Reader_number.cls ≠ "java/lang/invoke/VarHandle" ∧ (parseMethodDescriptor y_Reader_number.desc).map (fun d => d.parameters.length) = some 0 := by decide +kernel
theorem hy_Reader_numberAt : y_Reader_numberAt.cls = R_Reader ∧ y_Reader_numberAt.cls ≠ "java/lang/invoke/MethodHandle" ∧ y_Reader_numberAt.cls ≠ "java/lang/invoke/VarHandle" ∧ (parseMethodDescriptor y_Reader_numberAt.desc).map (fun d => d.parameters.length) = some 2 := by decide +kernel
theorem hy_Reader_object : y_Reader_object.cls = R_Reader ∧ y_Reader_object.cls ≠ "java/lang/invoke/MethodHandle" ∧ y_Reader_object.cls ≠ "java/lang/invoke/VarHandle" ∧ (parseMethodDescriptor y_Reader_object.desc).map (fun d => d.parameters.length) = some 1 := by decide +kernel
theorem hy_Reader_octalDigit : y_Reader_octalDigit.cls = R_Reader ∧ y_Reader_octalDigit.cls ≠ "java/lang/invoke/MethodHandle" ∧ y_Reader_octalDigit.cls ≠ "java/lang/invoke/VarHandle" ∧ (parseMethodDescriptor y_Reader_octalDigit.desc).map (fun d => d.parameters.length) = some 1 := by decide +kernel
theorem hy_Reader_plainString : y_Reader_plainString.cls = R_Reader ∧ y_Reader_plainString.cls ≠ "java/lang/invoke/MethodHandle" ∧ y_Reader_plainString.cls ≠ "java/lang/invoke/VarHandle" ∧ (parseMethodDescriptor y_Reader_plainString.desc).map (fun d => d.parameters.length) = some 0 := by decide +kernel
theorem hy_Reader_word : y_Reader_word.cls = R_Reader ∧ y_Reader_word.cls ≠ "java/lang/invoke/MethodHandle" ∧ y_Reader_word.cls ≠ "java/lang/invoke/VarHandle" ∧ (parseMethodDescriptor y_Reader_word.desc).map (fun d => d.parameters.length) = some 0 := by decide +kernel
theorem hy_Reader_wordLength : y_Reader_wordLength.cls = R_Reader ∧ y_Reader_wordLength.cls ≠ "java/lang/invoke/MethodHandle" ∧ y_Reader_wordLength.cls ≠ "java/lang/invoke/VarHandle" ∧ (parseMethodDescriptor y_Reader_wordLength.desc).map (fun d => d.parameters.length) = some 1 := by decide +kernel
theorem hy_Row_init : y_Row_init.cls = R_Row ∧ y_Row_init.cls ≠ "java/lang/invoke/MethodHandle" ∧ y_Row_init.cls ≠ "java/lang/invoke/VarHandle" ∧ (parseMethodDescriptor y_Row_init.desc).map (fun d => d.parameters.length) = some 1 := by decide +kernel
theorem hy_Row_add : y_Row_add.cls = R_Row ∧ y_Row_add.cls ≠ "java/lang/invoke/MethodHandle" ∧ y_Row_add.cls ≠ "java/lang/invoke/VarHandle" ∧ (parseMethodDescriptor y_Row_add.desc).map (fun d => d.parameters.length) = some 1 := by decide +kernel
theorem hy_Row_addFrom : y_Row_addFrom.cls = R_Row ∧ y_Row_addFrom.cls ≠ "java/lang/invoke/MethodHandle" ∧ y_Row_addFrom.cls ≠ "java/lang/invoke/VarHandle" ∧ (parseMethodDescriptor y_Row_addFrom.desc).map (fun d => d.parameters.length) = some 3 := by decide +kernel
theorem hy_Row_cut : y_Row_cut.cls = R_Row ∧ y_Row_cut.cls ≠ "java/lang/invoke/MethodHandle" ∧ y_Row_cut.cls ≠ "java/lang/invoke/VarHandle" ∧ (parseMethodDescriptor y_Row_cut.desc).map (fun d => d.parameters.length) = some 1 := by decide +kernel
theorem hy_Row_get : y_Row_get.cls = R_Row ∧ y_Row_get.cls ≠ "java/lang/invoke/MethodHandle" ∧ y_Row_get.cls ≠ "java/lang/invoke/VarHandle" ∧ (parseMethodDescriptor y_Row_get.desc).map (fun d => d.parameters.length) = some 1 := by decide +kernel
theorem hy_Row_hasAt : y_Row_hasAt.cls = R_Row ∧ y_Row_hasAt.cls ≠ "java/lang/invoke/MethodHandle" ∧ y_Row_hasAt.cls ≠ "java/lang/invoke/VarHandle" ∧ (parseMethodDescriptor y_Row_hasAt.desc).map (fun d => d.parameters.length) = some 4 := by decide +kernel
theorem hy_Row_size : y_Row_size.cls = R_Row ∧ y_Row_size.cls ≠ "java/lang/invoke/MethodHandle" ∧ y_Row_size.cls ≠ "java/lang/invoke/VarHandle" ∧ (parseMethodDescriptor y_Row_size.desc).map (fun d => d.parameters.length) = some 0 := by decide +kernel
theorem hy_SL_charAt : y_SL_charAt.cls = R_SL ∧ y_SL_charAt.cls ≠ "java/lang/invoke/MethodHandle" ∧ y_SL_charAt.cls ≠ "java/lang/invoke/VarHandle" ∧ (parseMethodDescriptor y_SL_charAt.desc).map (fun d => d.parameters.length) = some 2 := by decide +kernel
theorem hy_Str_charAt : y_Str_charAt.cls = R_Str ∧ y_Str_charAt.cls ≠ "java/lang/invoke/MethodHandle" ∧ y_Str_charAt.cls ≠ "java/lang/invoke/VarHandle" ∧ (parseMethodDescriptor y_Str_charAt.desc).map (fun d => d.parameters.length) = some 1 := by decide +kernel
theorem hy_Str_checkIndex : y_Str_checkIndex.cls = R_Str ∧ y_Str_checkIndex.cls ≠ "java/lang/invoke/MethodHandle" ∧ y_Str_checkIndex.cls ≠ "java/lang/invoke/VarHandle" ∧ (parseMethodDescriptor y_Str_checkIndex.desc).map (fun d => d.parameters.length) = some 2 := by decide +kernel
theorem hy_Str_coder : y_Str_coder.cls = R_Str ∧ y_Str_coder.cls ≠ "java/lang/invoke/MethodHandle" ∧ y_Str_coder.cls ≠ "java/lang/invoke/VarHandle" ∧ (parseMethodDescriptor y_Str_coder.desc).map (fun d => d.parameters.length) = some 0 := by decide +kernel
theorem hy_Str_isLatin1 : y_Str_isLatin1.cls = R_Str ∧ y_Str_isLatin1.cls ≠ "java/lang/invoke/MethodHandle" ∧ y_Str_isLatin1.cls ≠ "java/lang/invoke/VarHandle" ∧ (parseMethodDescriptor y_Str_isLatin1.desc).map (fun d => d.parameters.length) = some 0 := by decide +kernel
theorem hy_Str_length : y_Str_length.cls = R_Str ∧ y_Str_length.cls ≠ "java/lang/invoke/MethodHandle" ∧ y_Str_length.cls ≠ "java/lang/invoke/VarHandle" ∧ (parseMethodDescriptor y_Str_length.desc).map (fun d => d.parameters.length) = some 0 := by decide +kernel
theorem hy_Tree_add : y_Tree_add.cls = R_Tree ∧ y_Tree_add.cls ≠ "java/lang/invoke/MethodHandle" ∧ y_Tree_add.cls ≠ "java/lang/invoke/VarHandle" ∧ (parseMethodDescriptor y_Tree_add.desc).map (fun d => d.parameters.length) = some 3 := by decide +kernel
theorem hy_Tree_after : y_Tree_after.cls = R_Tree ∧ y_Tree_after.cls ≠ "java/lang/invoke/MethodHandle" ∧ y_Tree_after.cls ≠ "java/lang/invoke/VarHandle" ∧ (parseMethodDescriptor y_Tree_after.desc).map (fun d => d.parameters.length) = some 1 := by decide +kernel
theorem hy_Tree_clear : y_Tree_clear.cls = R_Tree ∧ y_Tree_clear.cls ≠ "java/lang/invoke/MethodHandle" ∧ y_Tree_clear.cls ≠ "java/lang/invoke/VarHandle" ∧ (parseMethodDescriptor y_Tree_clear.desc).map (fun d => d.parameters.length) = some 0 := by decide +kernel
theorem hy_Tree_countPart : y_Tree_countPart.cls = R_Tree ∧ y_Tree_countPart.cls ≠ "java/lang/invoke/MethodHandle" ∧ y_Tree_countPart.cls ≠ "java/lang/invoke/VarHandle" ∧ (parseMethodDescriptor y_Tree_countPart.desc).map (fun d => d.parameters.length) = some 1 := by decide +kernel
theorem hy_Tree_holds : y_Tree_holds.cls = R_Tree ∧ y_Tree_holds.cls ≠ "java/lang/invoke/MethodHandle" ∧ y_Tree_holds.cls ≠ "java/lang/invoke/VarHandle" ∧ (parseMethodDescriptor y_Tree_holds.desc).map (fun d => d.parameters.length) = some 1 := by decide +kernel
theorem hy_Tree_itemNode : y_Tree_itemNode.cls = R_Tree ∧ y_Tree_itemNode.cls ≠ "java/lang/invoke/MethodHandle" ∧ y_Tree_itemNode.cls ≠ "java/lang/invoke/VarHandle" ∧ (parseMethodDescriptor y_Tree_itemNode.desc).map (fun d => d.parameters.length) = some 2 := by decide +kernel
theorem hy_Tree_kind : y_Tree_kind.cls = R_Tree ∧ y_Tree_kind.cls ≠ "java/lang/invoke/MethodHandle" ∧ y_Tree_kind.cls ≠ "java/lang/invoke/VarHandle" ∧ (parseMethodDescriptor y_Tree_kind.desc).map (fun d => d.parameters.length) = some 1 := by decide +kernel
theorem hy_Tree_nameNode : y_Tree_nameNode.cls = R_Tree ∧ y_Tree_nameNode.cls ≠ "java/lang/invoke/MethodHandle" ∧ y_Tree_nameNode.cls ≠ "java/lang/invoke/VarHandle" ∧ (parseMethodDescriptor y_Tree_nameNode.desc).map (fun d => d.parameters.length) = some 2 := by decide +kernel
theorem hy_Tree_number : y_Tree_number.cls = R_Tree ∧ y_Tree_number.cls ≠ "java/lang/invoke/MethodHandle" ∧ y_Tree_number.cls ≠ "java/lang/invoke/VarHandle" ∧ (parseMethodDescriptor y_Tree_number.desc).map (fun d => d.parameters.length) = some 1 := by decide +kernel
theorem hy_Tree_other : y_Tree_other.cls = R_Tree ∧ y_Tree_other.cls ≠ "java/lang/invoke/MethodHandle" ∧ y_Tree_other.cls ≠ "java/lang/invoke/VarHandle" ∧ (parseMethodDescriptor y_Tree_other.desc).map (fun d => d.parameters.length) = some 1 := by decide +kernel
theorem hy_Tree_text : y_Tree_text.cls = R_Tree ∧ y_Tree_text.cls ≠ "java/lang/invoke/MethodHandle" ∧ y_Tree_text.cls ≠ "java/lang/invoke/VarHandle" ∧ (parseMethodDescriptor y_Tree_text.desc).map (fun d => d.parameters.length) = some 0 := by decide +kernel
theorem hy_Tree_valueNamed : y_Tree_valueNamed.cls = R_Tree ∧ y_Tree_valueNamed.cls ≠ "java/lang/invoke/MethodHandle" ∧ y_Tree_valueNamed.cls ≠ "java/lang/invoke/VarHandle" ∧ (parseMethodDescriptor y_Tree_valueNamed.desc).map (fun d => d.parameters.length) = some 4 := by decide +kernel
