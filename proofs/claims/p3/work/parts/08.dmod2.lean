theorem d_M_dict_0 : decode b_M_dict 0 = .ok (.iload_n 1, 1) := by decide +kernel
theorem d_M_dict_1 : decode b_M_dict 1 = .ok (.bipush 8, 2) := by decide +kernel
theorem d_M_dict_3 : decode b_M_dict 3 = .ok (.if_icmp .ne 5, 3) := by decide +kernel
theorem d_M_dict_6 : decode b_M_dict 6 = .ok (.aconst_null, 1) := by decide +kernel
theorem d_M_dict_7 : decode b_M_dict 7 = .ok (.areturn, 1) := by decide +kernel
theorem d_M_dict_8 : decode b_M_dict 8 = .ok (.aload_n 0, 1) := by decide +kernel
theorem d_M_dict_9 : decode b_M_dict 9 = .ok (.dup, 1) := by decide +kernel
theorem d_M_dict_10 : decode b_M_dict 10 = .ok (.getfield 7, 3) := by decide +kernel
theorem d_M_dict_13 : decode b_M_dict 13 = .ok (.iconst 2, 1) := by decide +kernel
theorem d_M_dict_14 : decode b_M_dict 14 = .ok (.iadd, 1) := by decide +kernel
theorem d_M_dict_15 : decode b_M_dict 15 = .ok (.putfield 7, 3) := by decide +kernel
theorem d_M_dict_18 : decode b_M_dict 18 = .ok (.new 82, 3) := by decide +kernel
theorem d_M_dict_21 : decode b_M_dict 21 = .ok (.dup, 1) := by decide +kernel
theorem d_M_dict_22 : decode b_M_dict 22 = .ok (.bipush 7, 2) := by decide +kernel
theorem d_M_dict_24 : decode b_M_dict 24 = .ok (.invokespecial 84, 3) := by decide +kernel
theorem d_M_dict_27 : decode b_M_dict 27 = .ok (.astore_n 2, 1) := by decide +kernel
theorem d_M_dict_28 : decode b_M_dict 28 = .ok (.aload_n 2, 1) := by decide +kernel
theorem d_M_dict_29 : decode b_M_dict 29 = .ok (.iconst 4, 1) := by decide +kernel
theorem d_M_dict_30 : decode b_M_dict 30 = .ok (.anewarray 82, 3) := by decide +kernel
theorem d_M_dict_33 : decode b_M_dict 33 = .ok (.putfield 141, 3) := by decide +kernel
theorem d_M_dict_36 : decode b_M_dict 36 = .ok (.aload_n 2, 1) := by decide +kernel
theorem d_M_dict_37 : decode b_M_dict 37 = .ok (.iconst 4, 1) := by decide +kernel
theorem d_M_dict_38 : decode b_M_dict 38 = .ok (.anewarray 155, 3) := by decide +kernel
theorem d_M_dict_41 : decode b_M_dict 41 = .ok (.putfield 156, 3) := by decide +kernel
theorem d_M_dict_44 : decode b_M_dict 44 = .ok (.aload_n 0, 1) := by decide +kernel
theorem d_M_dict_45 : decode b_M_dict 45 = .ok (.invokevirtual 59, 3) := by decide +kernel
theorem d_M_dict_48 : decode b_M_dict 48 = .ok (.aload_n 0, 1) := by decide +kernel
theorem d_M_dict_49 : decode b_M_dict 49 = .ok (.getfield 7, 3) := by decide +kernel
theorem d_M_dict_52 : decode b_M_dict 52 = .ok (.aload_n 0, 1) := by decide +kernel
theorem d_M_dict_53 : decode b_M_dict 53 = .ok (.getfield 11, 3) := by decide +kernel
theorem d_M_dict_56 : decode b_M_dict 56 = .ok (.if_icmp .ge 180, 3) := by decide +kernel
theorem d_M_dict_59 : decode b_M_dict 59 = .ok (.aload_n 0, 1) := by decide +kernel
theorem d_M_dict_60 : decode b_M_dict 60 = .ok (.getfield 14, 3) := by decide +kernel
theorem d_M_dict_63 : decode b_M_dict 63 = .ok (.aload_n 0, 1) := by decide +kernel
theorem d_M_dict_64 : decode b_M_dict 64 = .ok (.getfield 7, 3) := by decide +kernel
theorem d_M_dict_67 : decode b_M_dict 67 = .ok (.baload, 1) := by decide +kernel
theorem d_M_dict_68 : decode b_M_dict 68 = .ok (.bipush 47, 2) := by decide +kernel
theorem d_M_dict_70 : decode b_M_dict 70 = .ok (.if_icmp .ne 166, 3) := by decide +kernel
theorem d_M_dict_73 : decode b_M_dict 73 = .ok (.aload_n 0, 1) := by decide +kernel
theorem d_M_dict_74 : decode b_M_dict 74 = .ok (.invokevirtual 63, 3) := by decide +kernel
theorem d_M_dict_77 : decode b_M_dict 77 = .ok (.astore_n 3, 1) := by decide +kernel
theorem d_M_dict_78 : decode b_M_dict 78 = .ok (.aload_n 3, 1) := by decide +kernel
theorem d_M_dict_79 : decode b_M_dict 79 = .ok (.ifnull 29, 3) := by decide +kernel
theorem d_M_dict_82 : decode b_M_dict 82 = .ok (.aload_n 2, 1) := by decide +kernel
theorem d_M_dict_83 : decode b_M_dict 83 = .ok (.getfield 145, 3) := by decide +kernel
theorem d_M_dict_86 : decode b_M_dict 86 = .ok (.bipush 30, 2) := by decide +kernel
theorem d_M_dict_88 : decode b_M_dict 88 = .ok (.if_icmp .eq 20, 3) := by decide +kernel
theorem d_M_dict_91 : decode b_M_dict 91 = .ok (.aload_n 2, 1) := by decide +kernel
theorem d_M_dict_92 : decode b_M_dict 92 = .ok (.aload_n 3, 1) := by decide +kernel
theorem d_M_dict_93 : decode b_M_dict 93 = .ok (.getfield 119, 3) := by decide +kernel
theorem d_M_dict_96 : decode b_M_dict 96 = .ok (.iconst 0, 1) := by decide +kernel
theorem d_M_dict_97 : decode b_M_dict 97 = .ok (.aload_n 3, 1) := by decide +kernel
theorem d_M_dict_98 : decode b_M_dict 98 = .ok (.getfield 119, 3) := by decide +kernel
theorem d_M_dict_101 : decode b_M_dict 101 = .ok (.arraylength, 1) := by decide +kernel
theorem d_M_dict_102 : decode b_M_dict 102 = .ok (.invokevirtual 159, 3) := by decide +kernel
theorem d_M_dict_105 : decode b_M_dict 105 = .ok (.ifnull 5, 3) := by decide +kernel
theorem d_M_dict_108 : decode b_M_dict 108 = .ok (.aconst_null, 1) := by decide +kernel
theorem d_M_dict_109 : decode b_M_dict 109 = .ok (.areturn, 1) := by decide +kernel
theorem d_M_dict_110 : decode b_M_dict 110 = .ok (.aload_n 0, 1) := by decide +kernel
theorem d_M_dict_111 : decode b_M_dict 111 = .ok (.iload_n 1, 1) := by decide +kernel
theorem d_M_dict_112 : decode b_M_dict 112 = .ok (.iconst 1, 1) := by decide +kernel
theorem d_M_dict_113 : decode b_M_dict 113 = .ok (.iadd, 1) := by decide +kernel
theorem d_M_dict_114 : decode b_M_dict 114 = .ok (.invokevirtual 148, 3) := by decide +kernel
theorem d_M_dict_117 : decode b_M_dict 117 = .ok (.astore 4, 2) := by decide +kernel
theorem d_M_dict_119 : decode b_M_dict 119 = .ok (.aload 4, 2) := by decide +kernel
theorem d_M_dict_121 : decode b_M_dict 121 = .ok (.ifnonnull 5, 3) := by decide +kernel
theorem d_M_dict_124 : decode b_M_dict 124 = .ok (.aconst_null, 1) := by decide +kernel
theorem d_M_dict_125 : decode b_M_dict 125 = .ok (.areturn, 1) := by decide +kernel
theorem d_M_dict_126 : decode b_M_dict 126 = .ok (.aload_n 2, 1) := by decide +kernel
theorem d_M_dict_127 : decode b_M_dict 127 = .ok (.getfield 145, 3) := by decide +kernel
theorem d_M_dict_130 : decode b_M_dict 130 = .ok (.aload_n 2, 1) := by decide +kernel
theorem d_M_dict_131 : decode b_M_dict 131 = .ok (.getfield 141, 3) := by decide +kernel
theorem d_M_dict_134 : decode b_M_dict 134 = .ok (.arraylength, 1) := by decide +kernel
theorem d_M_dict_135 : decode b_M_dict 135 = .ok (.if_icmp .ne 60, 3) := by decide +kernel
theorem d_M_dict_138 : decode b_M_dict 138 = .ok (.aload_n 2, 1) := by decide +kernel
theorem d_M_dict_139 : decode b_M_dict 139 = .ok (.aload_n 2, 1) := by decide +kernel
theorem d_M_dict_140 : decode b_M_dict 140 = .ok (.getfield 141, 3) := by decide +kernel
theorem d_M_dict_143 : decode b_M_dict 143 = .ok (.invokestatic 151, 3) := by decide +kernel
theorem d_M_dict_146 : decode b_M_dict 146 = .ok (.putfield 141, 3) := by decide +kernel
theorem d_M_dict_149 : decode b_M_dict 149 = .ok (.aload_n 2, 1) := by decide +kernel
theorem d_M_dict_150 : decode b_M_dict 150 = .ok (.getfield 141, 3) := by decide +kernel
theorem d_M_dict_153 : decode b_M_dict 153 = .ok (.arraylength, 1) := by decide +kernel
theorem d_M_dict_154 : decode b_M_dict 154 = .ok (.anewarray 155, 3) := by decide +kernel
theorem d_M_dict_157 : decode b_M_dict 157 = .ok (.astore 5, 2) := by decide +kernel
theorem d_M_dict_159 : decode b_M_dict 159 = .ok (.iconst 0, 1) := by decide +kernel
theorem d_M_dict_160 : decode b_M_dict 160 = .ok (.istore 6, 2) := by decide +kernel
theorem d_M_dict_162 : decode b_M_dict 162 = .ok (.iload 6, 2) := by decide +kernel
theorem d_M_dict_164 : decode b_M_dict 164 = .ok (.aload_n 2, 1) := by decide +kernel
theorem d_M_dict_165 : decode b_M_dict 165 = .ok (.getfield 145, 3) := by decide +kernel
theorem d_M_dict_168 : decode b_M_dict 168 = .ok (.if_icmp .ge 21, 3) := by decide +kernel
theorem d_M_dict_171 : decode b_M_dict 171 = .ok (.aload 5, 2) := by decide +kernel
theorem d_M_dict_173 : decode b_M_dict 173 = .ok (.iload 6, 2) := by decide +kernel
theorem d_M_dict_175 : decode b_M_dict 175 = .ok (.aload_n 2, 1) := by decide +kernel
theorem d_M_dict_176 : decode b_M_dict 176 = .ok (.getfield 156, 3) := by decide +kernel
theorem d_M_dict_179 : decode b_M_dict 179 = .ok (.iload 6, 2) := by decide +kernel
theorem d_M_dict_181 : decode b_M_dict 181 = .ok (.aaload, 1) := by decide +kernel
theorem d_M_dict_182 : decode b_M_dict 182 = .ok (.aastore, 1) := by decide +kernel
theorem d_M_dict_183 : decode b_M_dict 183 = .ok (.iinc 6 1, 3) := by decide +kernel
theorem d_M_dict_186 : decode b_M_dict 186 = .ok (.goto (-24), 3) := by decide +kernel
theorem d_M_dict_189 : decode b_M_dict 189 = .ok (.aload_n 2, 1) := by decide +kernel
theorem d_M_dict_190 : decode b_M_dict 190 = .ok (.aload 5, 2) := by decide +kernel
theorem d_M_dict_192 : decode b_M_dict 192 = .ok (.putfield 156, 3) := by decide +kernel
theorem d_M_dict_195 : decode b_M_dict 195 = .ok (.aload_n 2, 1) := by decide +kernel
theorem d_M_dict_196 : decode b_M_dict 196 = .ok (.getfield 156, 3) := by decide +kernel
theorem d_M_dict_199 : decode b_M_dict 199 = .ok (.aload_n 2, 1) := by decide +kernel
theorem d_M_dict_200 : decode b_M_dict 200 = .ok (.getfield 145, 3) := by decide +kernel
theorem d_M_dict_203 : decode b_M_dict 203 = .ok (.aload_n 3, 1) := by decide +kernel
theorem d_M_dict_204 : decode b_M_dict 204 = .ok (.getfield 119, 3) := by decide +kernel
theorem d_M_dict_207 : decode b_M_dict 207 = .ok (.aastore, 1) := by decide +kernel
theorem d_M_dict_208 : decode b_M_dict 208 = .ok (.aload_n 2, 1) := by decide +kernel
theorem d_M_dict_209 : decode b_M_dict 209 = .ok (.getfield 141, 3) := by decide +kernel
theorem d_M_dict_212 : decode b_M_dict 212 = .ok (.aload_n 2, 1) := by decide +kernel
theorem d_M_dict_213 : decode b_M_dict 213 = .ok (.getfield 145, 3) := by decide +kernel
theorem d_M_dict_216 : decode b_M_dict 216 = .ok (.aload 4, 2) := by decide +kernel
theorem d_M_dict_218 : decode b_M_dict 218 = .ok (.aastore, 1) := by decide +kernel
theorem d_M_dict_219 : decode b_M_dict 219 = .ok (.aload_n 2, 1) := by decide +kernel
theorem d_M_dict_220 : decode b_M_dict 220 = .ok (.dup, 1) := by decide +kernel
theorem d_M_dict_221 : decode b_M_dict 221 = .ok (.getfield 145, 3) := by decide +kernel
theorem d_M_dict_224 : decode b_M_dict 224 = .ok (.iconst 1, 1) := by decide +kernel
theorem d_M_dict_225 : decode b_M_dict 225 = .ok (.iadd, 1) := by decide +kernel
theorem d_M_dict_226 : decode b_M_dict 226 = .ok (.putfield 145, 3) := by decide +kernel
theorem d_M_dict_229 : decode b_M_dict 229 = .ok (.aload_n 0, 1) := by decide +kernel
theorem d_M_dict_230 : decode b_M_dict 230 = .ok (.invokevirtual 59, 3) := by decide +kernel
theorem d_M_dict_233 : decode b_M_dict 233 = .ok (.goto (-185), 3) := by decide +kernel
theorem d_M_dict_236 : decode b_M_dict 236 = .ok (.aload_n 0, 1) := by decide +kernel
theorem d_M_dict_237 : decode b_M_dict 237 = .ok (.bipush 62, 2) := by decide +kernel
theorem d_M_dict_239 : decode b_M_dict 239 = .ok (.invokevirtual 132, 3) := by decide +kernel
theorem d_M_dict_242 : decode b_M_dict 242 = .ok (.ifCond .eq 16, 3) := by decide +kernel
theorem d_M_dict_245 : decode b_M_dict 245 = .ok (.aload_n 0, 1) := by decide +kernel
theorem d_M_dict_246 : decode b_M_dict 246 = .ok (.bipush 62, 2) := by decide +kernel
theorem d_M_dict_248 : decode b_M_dict 248 = .ok (.invokevirtual 132, 3) := by decide +kernel
theorem d_M_dict_251 : decode b_M_dict 251 = .ok (.ifCond .eq 7, 3) := by decide +kernel
theorem d_M_dict_254 : decode b_M_dict 254 = .ok (.aload_n 2, 1) := by decide +kernel
theorem d_M_dict_255 : decode b_M_dict 255 = .ok (.goto 4, 3) := by decide +kernel
theorem d_M_dict_258 : decode b_M_dict 258 = .ok (.aconst_null, 1) := by decide +kernel
theorem d_M_dict_259 : decode b_M_dict 259 = .ok (.areturn, 1) := by decide +kernel
theorem d_M_init_0 : decode b_M_init 0 = .ok (.aload_n 0, 1) := by decide +kernel
theorem d_M_init_1 : decode b_M_init 1 = .ok (.invokespecial 163, 3) := by decide +kernel
theorem d_M_init_4 : decode b_M_init 4 = .ok (.aload_n 0, 1) := by decide +kernel
theorem d_M_init_5 : decode b_M_init 5 = .ok (.bipush 101, 2) := by decide +kernel
theorem d_M_init_7 : decode b_M_init 7 = .ok (.newarray .byte, 2) := by decide +kernel
theorem d_M_init_9 : decode b_M_init 9 = .ok (.putfield 122, 3) := by decide +kernel
theorem d_M_init_12 : decode b_M_init 12 = .ok (.aload_n 0, 1) := by decide +kernel
theorem d_M_init_13 : decode b_M_init 13 = .ok (.sipush 1000, 3) := by decide +kernel
theorem d_M_init_16 : decode b_M_init 16 = .ok (.newarray .byte, 2) := by decide +kernel
theorem d_M_init_18 : decode b_M_init 18 = .ok (.putfield 167, 3) := by decide +kernel
theorem d_M_init_21 : decode b_M_init 21 = .ok (.aload_n 0, 1) := by decide +kernel
theorem d_M_init_22 : decode b_M_init 22 = .ok (.sipush 4000, 3) := by decide +kernel
theorem d_M_init_25 : decode b_M_init 25 = .ok (.newarray .byte, 2) := by decide +kernel
theorem d_M_init_27 : decode b_M_init 27 = .ok (.putfield 170, 3) := by decide +kernel
theorem d_M_init_30 : decode b_M_init 30 = .ok (.aload_n 0, 1) := by decide +kernel
theorem d_M_init_31 : decode b_M_init 31 = .ok (.sipush 4000, 3) := by decide +kernel
theorem d_M_init_34 : decode b_M_init 34 = .ok (.newarray .byte, 2) := by decide +kernel
theorem d_M_init_36 : decode b_M_init 36 = .ok (.putfield 173, 3) := by decide +kernel
theorem d_M_init_39 : decode b_M_init 39 = .ok (.return_, 1) := by decide +kernel
theorem d_M_feed_0 : decode b_M_feed 0 = .ok (.aload_n 0, 1) := by decide +kernel
theorem d_M_feed_1 : decode b_M_feed 1 = .ok (.getfield 176, 3) := by decide +kernel
theorem d_M_feed_4 : decode b_M_feed 4 = .ok (.bipush 20, 2) := by decide +kernel
theorem d_M_feed_6 : decode b_M_feed 6 = .ok (.iadd, 1) := by decide +kernel
theorem d_M_feed_7 : decode b_M_feed 7 = .ok (.sipush 1000, 3) := by decide +kernel
theorem d_M_feed_10 : decode b_M_feed 10 = .ok (.if_icmp .le 6, 3) := by decide +kernel
theorem d_M_feed_13 : decode b_M_feed 13 = .ok (.bipush (-3), 2) := by decide +kernel
theorem d_M_feed_15 : decode b_M_feed 15 = .ok (.ireturn, 1) := by decide +kernel
theorem d_M_feed_16 : decode b_M_feed 16 = .ok (.iconst 5, 1) := by decide +kernel
theorem d_M_feed_17 : decode b_M_feed 17 = .ok (.newarray .int, 2) := by decide +kernel
theorem d_M_feed_19 : decode b_M_feed 19 = .ok (.dup, 1) := by decide +kernel
theorem d_M_feed_20 : decode b_M_feed 20 = .ok (.iconst 0, 1) := by decide +kernel
theorem d_M_feed_21 : decode b_M_feed 21 = .ok (.iload_n 1, 1) := by decide +kernel
theorem d_M_feed_22 : decode b_M_feed 22 = .ok (.iastore, 1) := by decide +kernel
theorem d_M_feed_23 : decode b_M_feed 23 = .ok (.dup, 1) := by decide +kernel
theorem d_M_feed_24 : decode b_M_feed 24 = .ok (.iconst 1, 1) := by decide +kernel
theorem d_M_feed_25 : decode b_M_feed 25 = .ok (.iload_n 2, 1) := by decide +kernel
theorem d_M_feed_26 : decode b_M_feed 26 = .ok (.iastore, 1) := by decide +kernel
theorem d_M_feed_27 : decode b_M_feed 27 = .ok (.dup, 1) := by decide +kernel
theorem d_M_feed_28 : decode b_M_feed 28 = .ok (.iconst 2, 1) := by decide +kernel
theorem d_M_feed_29 : decode b_M_feed 29 = .ok (.iload_n 3, 1) := by decide +kernel
theorem d_M_feed_30 : decode b_M_feed 30 = .ok (.iastore, 1) := by decide +kernel
theorem d_M_feed_31 : decode b_M_feed 31 = .ok (.dup, 1) := by decide +kernel
theorem d_M_feed_32 : decode b_M_feed 32 = .ok (.iconst 3, 1) := by decide +kernel
theorem d_M_feed_33 : decode b_M_feed 33 = .ok (.iload 4, 2) := by decide +kernel
theorem d_M_feed_35 : decode b_M_feed 35 = .ok (.iastore, 1) := by decide +kernel
theorem d_M_feed_36 : decode b_M_feed 36 = .ok (.dup, 1) := by decide +kernel
theorem d_M_feed_37 : decode b_M_feed 37 = .ok (.iconst 4, 1) := by decide +kernel
theorem d_M_feed_38 : decode b_M_feed 38 = .ok (.iload 5, 2) := by decide +kernel
theorem d_M_feed_40 : decode b_M_feed 40 = .ok (.iastore, 1) := by decide +kernel
theorem d_M_feed_41 : decode b_M_feed 41 = .ok (.astore 6, 2) := by decide +kernel
theorem d_M_feed_43 : decode b_M_feed 43 = .ok (.iconst 0, 1) := by decide +kernel
theorem d_M_feed_44 : decode b_M_feed 44 = .ok (.istore 7, 2) := by decide +kernel
theorem d_M_feed_46 : decode b_M_feed 46 = .ok (.iload 7, 2) := by decide +kernel
theorem d_M_feed_48 : decode b_M_feed 48 = .ok (.bipush 20, 2) := by decide +kernel
theorem d_M_feed_50 : decode b_M_feed 50 = .ok (.if_icmp .ge 40, 3) := by decide +kernel
theorem d_M_feed_53 : decode b_M_feed 53 = .ok (.aload_n 0, 1) := by decide +kernel
theorem d_M_feed_54 : decode b_M_feed 54 = .ok (.getfield 167, 3) := by decide +kernel
theorem d_M_feed_57 : decode b_M_feed 57 = .ok (.aload_n 0, 1) := by decide +kernel
theorem d_M_feed_58 : decode b_M_feed 58 = .ok (.getfield 176, 3) := by decide +kernel
theorem d_M_feed_61 : decode b_M_feed 61 = .ok (.iload 7, 2) := by decide +kernel
theorem d_M_feed_63 : decode b_M_feed 63 = .ok (.iadd, 1) := by decide +kernel
theorem d_M_feed_64 : decode b_M_feed 64 = .ok (.aload 6, 2) := by decide +kernel
theorem d_M_feed_66 : decode b_M_feed 66 = .ok (.iload 7, 2) := by decide +kernel
theorem d_M_feed_68 : decode b_M_feed 68 = .ok (.iconst 4, 1) := by decide +kernel
theorem d_M_feed_69 : decode b_M_feed 69 = .ok (.idiv, 1) := by decide +kernel
theorem d_M_feed_70 : decode b_M_feed 70 = .ok (.iaload, 1) := by decide +kernel
theorem d_M_feed_71 : decode b_M_feed 71 = .ok (.bipush 24, 2) := by decide +kernel
theorem d_M_feed_73 : decode b_M_feed 73 = .ok (.bipush 8, 2) := by decide +kernel
theorem d_M_feed_75 : decode b_M_feed 75 = .ok (.iload 7, 2) := by decide +kernel
theorem d_M_feed_77 : decode b_M_feed 77 = .ok (.iconst 4, 1) := by decide +kernel
theorem d_M_feed_78 : decode b_M_feed 78 = .ok (.irem, 1) := by decide +kernel
theorem d_M_feed_79 : decode b_M_feed 79 = .ok (.imul, 1) := by decide +kernel
theorem d_M_feed_80 : decode b_M_feed 80 = .ok (.isub, 1) := by decide +kernel
theorem d_M_feed_81 : decode b_M_feed 81 = .ok (.ishr, 1) := by decide +kernel
theorem d_M_feed_82 : decode b_M_feed 82 = .ok (.i2b, 1) := by decide +kernel
theorem d_M_feed_83 : decode b_M_feed 83 = .ok (.bastore, 1) := by decide +kernel
theorem d_M_feed_84 : decode b_M_feed 84 = .ok (.iinc 7 1, 3) := by decide +kernel
theorem d_M_feed_87 : decode b_M_feed 87 = .ok (.goto (-41), 3) := by decide +kernel
theorem d_M_feed_90 : decode b_M_feed 90 = .ok (.aload_n 0, 1) := by decide +kernel
theorem d_M_feed_91 : decode b_M_feed 91 = .ok (.dup, 1) := by decide +kernel
theorem d_M_feed_92 : decode b_M_feed 92 = .ok (.getfield 176, 3) := by decide +kernel
theorem d_M_feed_95 : decode b_M_feed 95 = .ok (.bipush 20, 2) := by decide +kernel
theorem d_M_feed_97 : decode b_M_feed 97 = .ok (.iadd, 1) := by decide +kernel
theorem d_M_feed_98 : decode b_M_feed 98 = .ok (.putfield 176, 3) := by decide +kernel
theorem d_M_feed_101 : decode b_M_feed 101 = .ok (.aload_n 0, 1) := by decide +kernel
theorem d_M_feed_102 : decode b_M_feed 102 = .ok (.getfield 176, 3) := by decide +kernel
theorem d_M_feed_105 : decode b_M_feed 105 = .ok (.ireturn, 1) := by decide +kernel
theorem d_M_end_0 : decode b_M_end 0 = .ok (.iload_n 1, 1) := by decide +kernel
theorem d_M_end_1 : decode b_M_end 1 = .ok (.i2l, 1) := by decide +kernel
theorem d_M_end_2 : decode b_M_end 2 = .ok (.lconst 0, 1) := by decide +kernel
theorem d_M_end_3 : decode b_M_end 3 = .ok (.aload_n 0, 1) := by decide +kernel
theorem d_M_end_4 : decode b_M_end 4 = .ok (.getfield 176, 3) := by decide +kernel
theorem d_M_end_7 : decode b_M_end 7 = .ok (.i2l, 1) := by decide +kernel
theorem d_M_end_8 : decode b_M_end 8 = .ok (.invokestatic 48, 3) := by decide +kernel
theorem d_M_end_11 : decode b_M_end 11 = .ok (.ifCond .ne 5, 3) := by decide +kernel
theorem d_M_end_14 : decode b_M_end 14 = .ok (.iconst (-1), 1) := by decide +kernel
theorem d_M_end_15 : decode b_M_end 15 = .ok (.ireturn, 1) := by decide +kernel
theorem d_M_end_16 : decode b_M_end 16 = .ok (.aload_n 0, 1) := by decide +kernel
theorem d_M_end_17 : decode b_M_end 17 = .ok (.iload_n 1, 1) := by decide +kernel
theorem d_M_end_18 : decode b_M_end 18 = .ok (.putfield 176, 3) := by decide +kernel
theorem d_M_end_21 : decode b_M_end 21 = .ok (.iload_n 1, 1) := by decide +kernel
theorem d_M_end_22 : decode b_M_end 22 = .ok (.ireturn, 1) := by decide +kernel
theorem d_M_used_0 : decode b_M_used 0 = .ok (.aload_n 0, 1) := by decide +kernel
theorem d_M_used_1 : decode b_M_used 1 = .ok (.getfield 176, 3) := by decide +kernel
theorem d_M_used_4 : decode b_M_used 4 = .ok (.istore_n 1, 1) := by decide +kernel
theorem d_M_used_5 : decode b_M_used 5 = .ok (.aload_n 0, 1) := by decide +kernel
theorem d_M_used_6 : decode b_M_used 6 = .ok (.iconst 0, 1) := by decide +kernel
theorem d_M_used_7 : decode b_M_used 7 = .ok (.putfield 176, 3) := by decide +kernel
theorem d_M_used_10 : decode b_M_used 10 = .ok (.iload_n 1, 1) := by decide +kernel
theorem d_M_used_11 : decode b_M_used 11 = .ok (.ireturn, 1) := by decide +kernel
theorem d_M_read_0 : decode b_M_read 0 = .ok (.aload_n 0, 1) := by decide +kernel
theorem d_M_read_1 : decode b_M_read 1 = .ok (.aload_n 0, 1) := by decide +kernel
theorem d_M_read_2 : decode b_M_read 2 = .ok (.getfield 167, 3) := by decide +kernel
theorem d_M_read_5 : decode b_M_read 5 = .ok (.putfield 14, 3) := by decide +kernel
theorem d_M_read_8 : decode b_M_read 8 = .ok (.aload_n 0, 1) := by decide +kernel
theorem d_M_read_9 : decode b_M_read 9 = .ok (.aload_n 0, 1) := by decide +kernel
theorem d_M_read_10 : decode b_M_read 10 = .ok (.invokevirtual 179, 3) := by decide +kernel
theorem d_M_read_13 : decode b_M_read 13 = .ok (.putfield 11, 3) := by decide +kernel
theorem d_M_read_16 : decode b_M_read 16 = .ok (.aload_n 0, 1) := by decide +kernel
theorem d_M_read_17 : decode b_M_read 17 = .ok (.iconst 0, 1) := by decide +kernel
theorem d_M_read_18 : decode b_M_read 18 = .ok (.putfield 7, 3) := by decide +kernel
theorem d_M_read_21 : decode b_M_read 21 = .ok (.aload_n 0, 1) := by decide +kernel
theorem d_M_read_22 : decode b_M_read 22 = .ok (.iconst 0, 1) := by decide +kernel
theorem d_M_read_23 : decode b_M_read 23 = .ok (.invokevirtual 148, 3) := by decide +kernel
theorem d_M_read_26 : decode b_M_read 26 = .ok (.astore_n 1, 1) := by decide +kernel
theorem d_M_read_27 : decode b_M_read 27 = .ok (.aload_n 0, 1) := by decide +kernel
theorem d_M_read_28 : decode b_M_read 28 = .ok (.invokevirtual 59, 3) := by decide +kernel
theorem d_M_read_31 : decode b_M_read 31 = .ok (.aload_n 1, 1) := by decide +kernel
theorem d_M_read_32 : decode b_M_read 32 = .ok (.ifnull 14, 3) := by decide +kernel
theorem d_M_read_35 : decode b_M_read 35 = .ok (.aload_n 0, 1) := by decide +kernel
theorem d_M_read_36 : decode b_M_read 36 = .ok (.getfield 7, 3) := by decide +kernel
theorem d_M_read_39 : decode b_M_read 39 = .ok (.aload_n 0, 1) := by decide +kernel
theorem d_M_read_40 : decode b_M_read 40 = .ok (.getfield 11, 3) := by decide +kernel
theorem d_M_read_43 : decode b_M_read 43 = .ok (.if_icmp .ge 6, 3) := by decide +kernel
theorem d_M_read_46 : decode b_M_read 46 = .ok (.bipush (-4), 2) := by decide +kernel
theorem d_M_read_48 : decode b_M_read 48 = .ok (.ireturn, 1) := by decide +kernel
theorem d_M_read_49 : decode b_M_read 49 = .ok (.aload_n 0, 1) := by decide +kernel
theorem d_M_read_50 : decode b_M_read 50 = .ok (.aload_n 1, 1) := by decide +kernel
theorem d_M_read_51 : decode b_M_read 51 = .ok (.putfield 182, 3) := by decide +kernel
theorem d_M_read_54 : decode b_M_read 54 = .ok (.aload_n 0, 1) := by decide +kernel
theorem d_M_read_55 : decode b_M_read 55 = .ok (.aload_n 1, 1) := by decide +kernel
theorem d_M_read_56 : decode b_M_read 56 = .ok (.putfield 186, 3) := by decide +kernel
theorem d_M_read_59 : decode b_M_read 59 = .ok (.aload_n 1, 1) := by decide +kernel
theorem d_M_read_60 : decode b_M_read 60 = .ok (.getfield 189, 3) := by decide +kernel
theorem d_M_read_63 : decode b_M_read 63 = .ok (.ireturn, 1) := by decide +kernel
theorem d_M_isAt_p_0 : decode b_M_isAt_p 0 = .ok (.aload_n 1, 1) := by decide +kernel
theorem d_M_isAt_p_1 : decode b_M_isAt_p 1 = .ok (.ifnonnull 6, 3) := by decide +kernel
theorem d_M_isAt_p_4 : decode b_M_isAt_p 4 = .ok (.bipush (-2), 2) := by decide +kernel
theorem d_M_isAt_p_6 : decode b_M_isAt_p 6 = .ok (.ireturn, 1) := by decide +kernel
theorem d_M_isAt_p_7 : decode b_M_isAt_p 7 = .ok (.aload_n 0, 1) := by decide +kernel
theorem d_M_isAt_p_8 : decode b_M_isAt_p 8 = .ok (.aload_n 1, 1) := by decide +kernel
theorem d_M_isAt_p_9 : decode b_M_isAt_p 9 = .ok (.putfield 186, 3) := by decide +kernel
theorem d_M_isAt_p_12 : decode b_M_isAt_p 12 = .ok (.aload_n 1, 1) := by decide +kernel
theorem d_M_isAt_p_13 : decode b_M_isAt_p 13 = .ok (.getfield 189, 3) := by decide +kernel
theorem d_M_isAt_p_16 : decode b_M_isAt_p 16 = .ok (.ireturn, 1) := by decide +kernel
theorem d_M_top_0 : decode b_M_top 0 = .ok (.aload_n 0, 1) := by decide +kernel
theorem d_M_top_1 : decode b_M_top 1 = .ok (.aload_n 0, 1) := by decide +kernel
theorem d_M_top_2 : decode b_M_top 2 = .ok (.getfield 182, 3) := by decide +kernel
theorem d_M_top_5 : decode b_M_top 5 = .ok (.invokevirtual 192, 3) := by decide +kernel
theorem d_M_top_8 : decode b_M_top 8 = .ok (.ireturn, 1) := by decide +kernel
theorem d_M_item_0 : decode b_M_item 0 = .ok (.aload_n 0, 1) := by decide +kernel
theorem d_M_item_1 : decode b_M_item 1 = .ok (.getfield 186, 3) := by decide +kernel
theorem d_M_item_4 : decode b_M_item 4 = .ok (.ifnull 38, 3) := by decide +kernel
theorem d_M_item_7 : decode b_M_item 7 = .ok (.iload_n 1, 1) := by decide +kernel
theorem d_M_item_8 : decode b_M_item 8 = .ok (.i2l, 1) := by decide +kernel
theorem d_M_item_9 : decode b_M_item 9 = .ok (.lconst 0, 1) := by decide +kernel
theorem d_M_item_10 : decode b_M_item 10 = .ok (.aload_n 0, 1) := by decide +kernel
theorem d_M_item_11 : decode b_M_item 11 = .ok (.getfield 186, 3) := by decide +kernel
theorem d_M_item_14 : decode b_M_item 14 = .ok (.getfield 145, 3) := by decide +kernel
theorem d_M_item_17 : decode b_M_item 17 = .ok (.iconst 1, 1) := by decide +kernel
theorem d_M_item_18 : decode b_M_item 18 = .ok (.isub, 1) := by decide +kernel
theorem d_M_item_19 : decode b_M_item 19 = .ok (.i2l, 1) := by decide +kernel
theorem d_M_item_20 : decode b_M_item 20 = .ok (.invokestatic 48, 3) := by decide +kernel
theorem d_M_item_23 : decode b_M_item 23 = .ok (.ifCond .eq 19, 3) := by decide +kernel
theorem d_M_item_26 : decode b_M_item 26 = .ok (.aload_n 0, 1) := by decide +kernel
theorem d_M_item_27 : decode b_M_item 27 = .ok (.aload_n 0, 1) := by decide +kernel
theorem d_M_item_28 : decode b_M_item 28 = .ok (.getfield 186, 3) := by decide +kernel
theorem d_M_item_31 : decode b_M_item 31 = .ok (.getfield 141, 3) := by decide +kernel
theorem d_M_item_34 : decode b_M_item 34 = .ok (.iload_n 1, 1) := by decide +kernel
theorem d_M_item_35 : decode b_M_item 35 = .ok (.aaload, 1) := by decide +kernel
theorem d_M_item_36 : decode b_M_item 36 = .ok (.invokevirtual 192, 3) := by decide +kernel
theorem d_M_item_39 : decode b_M_item 39 = .ok (.goto 5, 3) := by decide +kernel
theorem d_M_item_42 : decode b_M_item 42 = .ok (.bipush (-2), 2) := by decide +kernel
theorem d_M_item_44 : decode b_M_item 44 = .ok (.ireturn, 1) := by decide +kernel
theorem d_M_find_0 : decode b_M_find 0 = .ok (.aload_n 0, 1) := by decide +kernel
theorem d_M_find_1 : decode b_M_find 1 = .ok (.invokevirtual 179, 3) := by decide +kernel
theorem d_M_find_4 : decode b_M_find 4 = .ok (.istore_n 1, 1) := by decide +kernel
theorem d_M_find_5 : decode b_M_find 5 = .ok (.aload_n 0, 1) := by decide +kernel
theorem d_M_find_6 : decode b_M_find 6 = .ok (.getfield 186, 3) := by decide +kernel
theorem d_M_find_9 : decode b_M_find 9 = .ok (.ifnonnull 8, 3) := by decide +kernel
theorem d_M_find_12 : decode b_M_find 12 = .ok (.bipush (-2), 2) := by decide +kernel
theorem d_M_find_14 : decode b_M_find 14 = .ok (.goto 20, 3) := by decide +kernel
theorem d_M_find_17 : decode b_M_find 17 = .ok (.aload_n 0, 1) := by decide +kernel
theorem d_M_find_18 : decode b_M_find 18 = .ok (.aload_n 0, 1) := by decide +kernel
theorem d_M_find_19 : decode b_M_find 19 = .ok (.getfield 186, 3) := by decide +kernel
theorem d_M_find_22 : decode b_M_find 22 = .ok (.aload_n 0, 1) := by decide +kernel
theorem d_M_find_23 : decode b_M_find 23 = .ok (.getfield 167, 3) := by decide +kernel
theorem d_M_find_26 : decode b_M_find 26 = .ok (.iconst 0, 1) := by decide +kernel
theorem d_M_find_27 : decode b_M_find 27 = .ok (.iload_n 1, 1) := by decide +kernel
theorem d_M_find_28 : decode b_M_find 28 = .ok (.invokevirtual 159, 3) := by decide +kernel
theorem d_M_find_31 : decode b_M_find 31 = .ok (.invokevirtual 192, 3) := by decide +kernel
theorem d_M_find_34 : decode b_M_find 34 = .ok (.ireturn, 1) := by decide +kernel
theorem d_M_look_0 : decode b_M_look 0 = .ok (.iload_n 1, 1) := by decide +kernel
theorem d_M_look_1 : decode b_M_look 1 = .ok (.i2l, 1) := by decide +kernel
theorem d_M_look_2 : decode b_M_look 2 = .ok (.lconst 0, 1) := by decide +kernel
theorem d_M_look_3 : decode b_M_look 3 = .ok (.ldc2_w 195, 3) := by decide +kernel
theorem d_M_look_6 : decode b_M_look 6 = .ok (.invokestatic 48, 3) := by decide +kernel
theorem d_M_look_9 : decode b_M_look 9 = .ok (.ifCond .ne 5, 3) := by decide +kernel
theorem d_M_look_12 : decode b_M_look 12 = .ok (.iconst (-1), 1) := by decide +kernel
theorem d_M_look_13 : decode b_M_look 13 = .ok (.ireturn, 1) := by decide +kernel
theorem d_M_look_14 : decode b_M_look 14 = .ok (.aload_n 0, 1) := by decide +kernel
theorem d_M_look_15 : decode b_M_look 15 = .ok (.getfield 186, 3) := by decide +kernel
theorem d_M_look_18 : decode b_M_look 18 = .ok (.ifnonnull 6, 3) := by decide +kernel
theorem d_M_look_21 : decode b_M_look 21 = .ok (.bipush (-2), 2) := by decide +kernel
theorem d_M_look_23 : decode b_M_look 23 = .ok (.ireturn, 1) := by decide +kernel
theorem d_M_look_24 : decode b_M_look 24 = .ok (.iload_n 1, 1) := by decide +kernel
theorem d_M_look_25 : decode b_M_look 25 = .ok (.ifCond .ne 11, 3) := by decide +kernel
theorem d_M_look_28 : decode b_M_look 28 = .ok (.aload_n 0, 1) := by decide +kernel
theorem d_M_look_29 : decode b_M_look 29 = .ok (.getfield 186, 3) := by decide +kernel
theorem d_M_look_32 : decode b_M_look 32 = .ok (.getfield 189, 3) := by decide +kernel
theorem d_M_look_35 : decode b_M_look 35 = .ok (.ireturn, 1) := by decide +kernel
theorem d_M_look_36 : decode b_M_look 36 = .ok (.iload_n 1, 1) := by decide +kernel
theorem d_M_look_37 : decode b_M_look 37 = .ok (.iconst 2, 1) := by decide +kernel
theorem d_M_look_38 : decode b_M_look 38 = .ok (.if_icmp .ne 27, 3) := by decide +kernel
theorem d_M_look_41 : decode b_M_look 41 = .ok (.aload_n 0, 1) := by decide +kernel
theorem d_M_look_42 : decode b_M_look 42 = .ok (.getfield 186, 3) := by decide +kernel
theorem d_M_look_45 : decode b_M_look 45 = .ok (.getfield 189, 3) := by decide +kernel
theorem d_M_look_48 : decode b_M_look 48 = .ok (.bipush 8, 2) := by decide +kernel
theorem d_M_look_50 : decode b_M_look 50 = .ok (.if_icmp .ne 13, 3) := by decide +kernel
theorem d_M_look_53 : decode b_M_look 53 = .ok (.aload_n 0, 1) := by decide +kernel
theorem d_M_look_54 : decode b_M_look 54 = .ok (.getfield 186, 3) := by decide +kernel
theorem d_M_look_57 : decode b_M_look 57 = .ok (.getfield 108, 3) := by decide +kernel
theorem d_M_look_60 : decode b_M_look 60 = .ok (.goto 4, 3) := by decide +kernel
theorem d_M_look_63 : decode b_M_look 63 = .ok (.iconst 0, 1) := by decide +kernel
theorem d_M_look_64 : decode b_M_look 64 = .ok (.ireturn, 1) := by decide +kernel
theorem d_M_look_65 : decode b_M_look 65 = .ok (.iload_n 1, 1) := by decide +kernel
theorem d_M_look_66 : decode b_M_look 66 = .ok (.iconst 3, 1) := by decide +kernel
theorem d_M_look_67 : decode b_M_look 67 = .ok (.if_icmp .ne 11, 3) := by decide +kernel
theorem d_M_look_70 : decode b_M_look 70 = .ok (.aload_n 0, 1) := by decide +kernel
theorem d_M_look_71 : decode b_M_look 71 = .ok (.getfield 186, 3) := by decide +kernel
theorem d_M_look_74 : decode b_M_look 74 = .ok (.invokevirtual 197, 3) := by decide +kernel
theorem d_M_look_77 : decode b_M_look 77 = .ok (.ireturn, 1) := by decide +kernel
theorem d_M_look_78 : decode b_M_look 78 = .ok (.aload_n 0, 1) := by decide +kernel
theorem d_M_look_79 : decode b_M_look 79 = .ok (.getfield 186, 3) := by decide +kernel
theorem d_M_look_82 : decode b_M_look 82 = .ok (.getfield 189, 3) := by decide +kernel
theorem d_M_look_85 : decode b_M_look 85 = .ok (.iconst 3, 1) := by decide +kernel
theorem d_M_look_86 : decode b_M_look 86 = .ok (.if_icmp .eq 15, 3) := by decide +kernel
theorem d_M_look_89 : decode b_M_look 89 = .ok (.aload_n 0, 1) := by decide +kernel
theorem d_M_look_90 : decode b_M_look 90 = .ok (.getfield 186, 3) := by decide +kernel
theorem d_M_look_93 : decode b_M_look 93 = .ok (.getfield 189, 3) := by decide +kernel
theorem d_M_look_96 : decode b_M_look 96 = .ok (.bipush 8, 2) := by decide +kernel
theorem d_M_look_98 : decode b_M_look 98 = .ok (.if_icmp .ne 13, 3) := by decide +kernel
theorem d_M_look_101 : decode b_M_look 101 = .ok (.aload_n 0, 1) := by decide +kernel
theorem d_M_look_102 : decode b_M_look 102 = .ok (.getfield 186, 3) := by decide +kernel
theorem d_M_look_105 : decode b_M_look 105 = .ok (.getfield 95, 3) := by decide +kernel
theorem d_M_look_108 : decode b_M_look 108 = .ok (.goto 31, 3) := by decide +kernel
theorem d_M_look_111 : decode b_M_look 111 = .ok (.aload_n 0, 1) := by decide +kernel
theorem d_M_look_112 : decode b_M_look 112 = .ok (.getfield 186, 3) := by decide +kernel
theorem d_M_look_115 : decode b_M_look 115 = .ok (.getfield 119, 3) := by decide +kernel
theorem d_M_look_118 : decode b_M_look 118 = .ok (.ifnull 14, 3) := by decide +kernel
theorem d_M_look_121 : decode b_M_look 121 = .ok (.aload_n 0, 1) := by decide +kernel
theorem d_M_look_122 : decode b_M_look 122 = .ok (.getfield 186, 3) := by decide +kernel
theorem d_M_look_125 : decode b_M_look 125 = .ok (.getfield 119, 3) := by decide +kernel
theorem d_M_look_128 : decode b_M_look 128 = .ok (.arraylength, 1) := by decide +kernel
theorem d_M_look_129 : decode b_M_look 129 = .ok (.goto 10, 3) := by decide +kernel
theorem d_M_look_132 : decode b_M_look 132 = .ok (.aload_n 0, 1) := by decide +kernel
theorem d_M_look_133 : decode b_M_look 133 = .ok (.getfield 186, 3) := by decide +kernel
theorem d_M_look_136 : decode b_M_look 136 = .ok (.getfield 145, 3) := by decide +kernel
theorem d_M_look_139 : decode b_M_look 139 = .ok (.ireturn, 1) := by decide +kernel
theorem d_M_tell_0 : decode b_M_tell 0 = .ok (.aload_n 1, 1) := by decide +kernel
theorem d_M_tell_1 : decode b_M_tell 1 = .ok (.iconst 0, 1) := by decide +kernel
theorem d_M_tell_2 : decode b_M_tell 2 = .ok (.aload_n 0, 1) := by decide +kernel
theorem d_M_tell_3 : decode b_M_tell 3 = .ok (.getfield 170, 3) := by decide +kernel
theorem d_M_tell_6 : decode b_M_tell 6 = .ok (.iconst 0, 1) := by decide +kernel
theorem d_M_tell_7 : decode b_M_tell 7 = .ok (.aload_n 1, 1) := by decide +kernel
theorem d_M_tell_8 : decode b_M_tell 8 = .ok (.arraylength, 1) := by decide +kernel
theorem d_M_tell_9 : decode b_M_tell 9 = .ok (.invokestatic 200, 3) := by decide +kernel
theorem d_M_tell_12 : decode b_M_tell 12 = .ok (.aload_n 0, 1) := by decide +kernel
theorem d_M_tell_13 : decode b_M_tell 13 = .ok (.aload_n 1, 1) := by decide +kernel
theorem d_M_tell_14 : decode b_M_tell 14 = .ok (.arraylength, 1) := by decide +kernel
theorem d_M_tell_15 : decode b_M_tell 15 = .ok (.putfield 206, 3) := by decide +kernel
theorem d_M_tell_18 : decode b_M_tell 18 = .ok (.aload_n 1, 1) := by decide +kernel
theorem d_M_tell_19 : decode b_M_tell 19 = .ok (.arraylength, 1) := by decide +kernel
theorem d_M_tell_20 : decode b_M_tell 20 = .ok (.ireturn, 1) := by decide +kernel
theorem d_M_bytes_0 : decode b_M_bytes 0 = .ok (.aload_n 0, 1) := by decide +kernel
theorem d_M_bytes_1 : decode b_M_bytes 1 = .ok (.getfield 186, 3) := by decide +kernel
theorem d_M_bytes_4 : decode b_M_bytes 4 = .ok (.ifnonnull 6, 3) := by decide +kernel
theorem d_M_bytes_7 : decode b_M_bytes 7 = .ok (.bipush (-2), 2) := by decide +kernel
theorem d_M_bytes_9 : decode b_M_bytes 9 = .ok (.ireturn, 1) := by decide +kernel
theorem d_M_bytes_10 : decode b_M_bytes 10 = .ok (.aload_n 0, 1) := by decide +kernel
theorem d_M_bytes_11 : decode b_M_bytes 11 = .ok (.getfield 186, 3) := by decide +kernel
theorem d_M_bytes_14 : decode b_M_bytes 14 = .ok (.getfield 189, 3) := by decide +kernel
theorem d_M_bytes_17 : decode b_M_bytes 17 = .ok (.iconst 4, 1) := by decide +kernel
theorem d_M_bytes_18 : decode b_M_bytes 18 = .ok (.if_icmp .eq 14, 3) := by decide +kernel
theorem d_M_bytes_21 : decode b_M_bytes 21 = .ok (.aload_n 0, 1) := by decide +kernel
theorem d_M_bytes_22 : decode b_M_bytes 22 = .ok (.getfield 186, 3) := by decide +kernel
theorem d_M_bytes_25 : decode b_M_bytes 25 = .ok (.getfield 189, 3) := by decide +kernel
theorem d_M_bytes_28 : decode b_M_bytes 28 = .ok (.iconst 5, 1) := by decide +kernel
theorem d_M_bytes_29 : decode b_M_bytes 29 = .ok (.if_icmp .ne 15, 3) := by decide +kernel
theorem d_M_bytes_32 : decode b_M_bytes 32 = .ok (.aload_n 0, 1) := by decide +kernel
theorem d_M_bytes_33 : decode b_M_bytes 33 = .ok (.aload_n 0, 1) := by decide +kernel
theorem d_M_bytes_34 : decode b_M_bytes 34 = .ok (.getfield 186, 3) := by decide +kernel
theorem d_M_bytes_37 : decode b_M_bytes 37 = .ok (.getfield 119, 3) := by decide +kernel
theorem d_M_bytes_40 : decode b_M_bytes 40 = .ok (.invokevirtual 209, 3) := by decide +kernel
theorem d_M_bytes_43 : decode b_M_bytes 43 = .ok (.ireturn, 1) := by decide +kernel
theorem d_M_bytes_44 : decode b_M_bytes 44 = .ok (.aload_n 0, 1) := by decide +kernel
theorem d_M_bytes_45 : decode b_M_bytes 45 = .ok (.getfield 186, 3) := by decide +kernel
theorem d_M_bytes_48 : decode b_M_bytes 48 = .ok (.getfield 156, 3) := by decide +kernel
theorem d_M_bytes_51 : decode b_M_bytes 51 = .ok (.ifnull 38, 3) := by decide +kernel
theorem d_M_bytes_54 : decode b_M_bytes 54 = .ok (.iload_n 1, 1) := by decide +kernel
theorem d_M_bytes_55 : decode b_M_bytes 55 = .ok (.i2l, 1) := by decide +kernel
theorem d_M_bytes_56 : decode b_M_bytes 56 = .ok (.lconst 0, 1) := by decide +kernel
theorem d_M_bytes_57 : decode b_M_bytes 57 = .ok (.aload_n 0, 1) := by decide +kernel
theorem d_M_bytes_58 : decode b_M_bytes 58 = .ok (.getfield 186, 3) := by decide +kernel
theorem d_M_bytes_61 : decode b_M_bytes 61 = .ok (.getfield 145, 3) := by decide +kernel
theorem d_M_bytes_64 : decode b_M_bytes 64 = .ok (.iconst 1, 1) := by decide +kernel
theorem d_M_bytes_65 : decode b_M_bytes 65 = .ok (.isub, 1) := by decide +kernel
theorem d_M_bytes_66 : decode b_M_bytes 66 = .ok (.i2l, 1) := by decide +kernel
theorem d_M_bytes_67 : decode b_M_bytes 67 = .ok (.invokestatic 48, 3) := by decide +kernel
theorem d_M_bytes_70 : decode b_M_bytes 70 = .ok (.ifCond .eq 19, 3) := by decide +kernel
theorem d_M_bytes_73 : decode b_M_bytes 73 = .ok (.aload_n 0, 1) := by decide +kernel
theorem d_M_bytes_74 : decode b_M_bytes 74 = .ok (.aload_n 0, 1) := by decide +kernel
theorem d_M_bytes_75 : decode b_M_bytes 75 = .ok (.getfield 186, 3) := by decide +kernel
theorem d_M_bytes_78 : decode b_M_bytes 78 = .ok (.getfield 156, 3) := by decide +kernel
theorem d_M_bytes_81 : decode b_M_bytes 81 = .ok (.iload_n 1, 1) := by decide +kernel
theorem d_M_bytes_82 : decode b_M_bytes 82 = .ok (.aaload, 1) := by decide +kernel
theorem d_M_bytes_83 : decode b_M_bytes 83 = .ok (.invokevirtual 209, 3) := by decide +kernel
theorem d_M_bytes_86 : decode b_M_bytes 86 = .ok (.goto 5, 3) := by decide +kernel
theorem d_M_bytes_89 : decode b_M_bytes 89 = .ok (.bipush (-2), 2) := by decide +kernel
theorem d_M_bytes_91 : decode b_M_bytes 91 = .ok (.ireturn, 1) := by decide +kernel
theorem d_M_octet_0 : decode b_M_octet 0 = .ok (.iload_n 1, 1) := by decide +kernel
theorem d_M_octet_1 : decode b_M_octet 1 = .ok (.i2l, 1) := by decide +kernel
theorem d_M_octet_2 : decode b_M_octet 2 = .ok (.ldc2_w 213, 3) := by decide +kernel
theorem d_M_octet_5 : decode b_M_octet 5 = .ok (.aload_n 0, 1) := by decide +kernel
theorem d_M_octet_6 : decode b_M_octet 6 = .ok (.getfield 206, 3) := by decide +kernel
theorem d_M_octet_9 : decode b_M_octet 9 = .ok (.iconst 1, 1) := by decide +kernel
theorem d_M_octet_10 : decode b_M_octet 10 = .ok (.isub, 1) := by decide +kernel
theorem d_M_octet_11 : decode b_M_octet 11 = .ok (.i2l, 1) := by decide +kernel
theorem d_M_octet_12 : decode b_M_octet 12 = .ok (.invokestatic 48, 3) := by decide +kernel
theorem d_M_octet_15 : decode b_M_octet 15 = .ok (.ifCond .ne 6, 3) := by decide +kernel
theorem d_M_octet_18 : decode b_M_octet 18 = .ok (.bipush (-2), 2) := by decide +kernel
theorem d_M_octet_20 : decode b_M_octet 20 = .ok (.ireturn, 1) := by decide +kernel
theorem d_M_octet_21 : decode b_M_octet 21 = .ok (.iload_n 1, 1) := by decide +kernel
theorem d_M_octet_22 : decode b_M_octet 22 = .ok (.ifCond .ge 10, 3) := by decide +kernel
theorem d_M_octet_25 : decode b_M_octet 25 = .ok (.aload_n 0, 1) := by decide +kernel
theorem d_M_octet_26 : decode b_M_octet 26 = .ok (.getfield 206, 3) := by decide +kernel
theorem d_M_octet_29 : decode b_M_octet 29 = .ok (.goto 13, 3) := by decide +kernel
theorem d_M_octet_32 : decode b_M_octet 32 = .ok (.aload_n 0, 1) := by decide +kernel
theorem d_M_octet_33 : decode b_M_octet 33 = .ok (.getfield 170, 3) := by decide +kernel
theorem d_M_octet_36 : decode b_M_octet 36 = .ok (.iload_n 1, 1) := by decide +kernel
theorem d_M_octet_37 : decode b_M_octet 37 = .ok (.baload, 1) := by decide +kernel
theorem d_M_octet_38 : decode b_M_octet 38 = .ok (.sipush 255, 3) := by decide +kernel
theorem d_M_octet_41 : decode b_M_octet 41 = .ok (.iand, 1) := by decide +kernel
theorem d_M_octet_42 : decode b_M_octet 42 = .ok (.ireturn, 1) := by decide +kernel
theorem d_M_say_i_0 : decode b_M_say_i 0 = .ok (.aload_n 0, 1) := by decide +kernel
theorem d_M_say_i_1 : decode b_M_say_i 1 = .ok (.getfield 173, 3) := by decide +kernel
theorem d_M_say_i_4 : decode b_M_say_i 4 = .ok (.aload_n 0, 1) := by decide +kernel
theorem d_M_say_i_5 : decode b_M_say_i 5 = .ok (.getfield 215, 3) := by decide +kernel
theorem d_M_say_i_8 : decode b_M_say_i 8 = .ok (.iload_n 1, 1) := by decide +kernel
theorem d_M_say_i_9 : decode b_M_say_i 9 = .ok (.i2b, 1) := by decide +kernel
theorem d_M_say_i_10 : decode b_M_say_i 10 = .ok (.bastore, 1) := by decide +kernel
theorem d_M_say_i_11 : decode b_M_say_i 11 = .ok (.aload_n 0, 1) := by decide +kernel
theorem d_M_say_i_12 : decode b_M_say_i 12 = .ok (.dup, 1) := by decide +kernel
theorem d_M_say_i_13 : decode b_M_say_i 13 = .ok (.getfield 215, 3) := by decide +kernel
theorem d_M_say_i_16 : decode b_M_say_i 16 = .ok (.iconst 1, 1) := by decide +kernel
theorem d_M_say_i_17 : decode b_M_say_i 17 = .ok (.iadd, 1) := by decide +kernel
theorem d_M_say_i_18 : decode b_M_say_i 18 = .ok (.putfield 215, 3) := by decide +kernel
theorem d_M_say_i_21 : decode b_M_say_i 21 = .ok (.return_, 1) := by decide +kernel
theorem d_M_say_s_0 : decode b_M_say_s 0 = .ok (.iconst 0, 1) := by decide +kernel
theorem d_M_say_s_1 : decode b_M_say_s 1 = .ok (.istore_n 2, 1) := by decide +kernel
theorem d_M_say_s_2 : decode b_M_say_s 2 = .ok (.iload_n 2, 1) := by decide +kernel
theorem d_M_say_s_3 : decode b_M_say_s 3 = .ok (.aload_n 1, 1) := by decide +kernel
theorem d_M_say_s_4 : decode b_M_say_s 4 = .ok (.invokevirtual 24, 3) := by decide +kernel
theorem d_M_say_s_7 : decode b_M_say_s 7 = .ok (.if_icmp .ge 18, 3) := by decide +kernel
theorem d_M_say_s_10 : decode b_M_say_s 10 = .ok (.aload_n 0, 1) := by decide +kernel
theorem d_M_say_s_11 : decode b_M_say_s 11 = .ok (.aload_n 1, 1) := by decide +kernel
theorem d_M_say_s_12 : decode b_M_say_s 12 = .ok (.iload_n 2, 1) := by decide +kernel
theorem d_M_say_s_13 : decode b_M_say_s 13 = .ok (.invokevirtual 30, 3) := by decide +kernel
theorem d_M_say_s_16 : decode b_M_say_s 16 = .ok (.invokevirtual 218, 3) := by decide +kernel
theorem d_M_say_s_19 : decode b_M_say_s 19 = .ok (.iinc 2 1, 3) := by decide +kernel
theorem d_M_say_s_22 : decode b_M_say_s 22 = .ok (.goto (-20), 3) := by decide +kernel
theorem d_M_say_s_25 : decode b_M_say_s 25 = .ok (.return_, 1) := by decide +kernel
theorem d_M_say_b_0 : decode b_M_say_b 0 = .ok (.aload_n 1, 1) := by decide +kernel
theorem d_M_say_b_1 : decode b_M_say_b 1 = .ok (.astore_n 2, 1) := by decide +kernel
theorem d_M_say_b_2 : decode b_M_say_b 2 = .ok (.aload_n 2, 1) := by decide +kernel
theorem d_M_say_b_3 : decode b_M_say_b 3 = .ok (.arraylength, 1) := by decide +kernel
theorem d_M_say_b_4 : decode b_M_say_b 4 = .ok (.istore_n 3, 1) := by decide +kernel
theorem d_M_say_b_5 : decode b_M_say_b 5 = .ok (.iconst 0, 1) := by decide +kernel
theorem d_M_say_b_6 : decode b_M_say_b 6 = .ok (.istore 4, 2) := by decide +kernel
theorem d_M_say_b_8 : decode b_M_say_b 8 = .ok (.iload 4, 2) := by decide +kernel
theorem d_M_say_b_10 : decode b_M_say_b 10 = .ok (.iload_n 3, 1) := by decide +kernel
theorem d_M_say_b_11 : decode b_M_say_b 11 = .ok (.if_icmp .ge 21, 3) := by decide +kernel
theorem d_M_say_b_14 : decode b_M_say_b 14 = .ok (.aload_n 2, 1) := by decide +kernel
theorem d_M_say_b_15 : decode b_M_say_b 15 = .ok (.iload 4, 2) := by decide +kernel
theorem d_M_say_b_17 : decode b_M_say_b 17 = .ok (.baload, 1) := by decide +kernel
theorem d_M_say_b_18 : decode b_M_say_b 18 = .ok (.istore 5, 2) := by decide +kernel
theorem d_M_say_b_20 : decode b_M_say_b 20 = .ok (.aload_n 0, 1) := by decide +kernel
theorem d_M_say_b_21 : decode b_M_say_b 21 = .ok (.iload 5, 2) := by decide +kernel
theorem d_M_say_b_23 : decode b_M_say_b 23 = .ok (.invokevirtual 218, 3) := by decide +kernel
theorem d_M_say_b_26 : decode b_M_say_b 26 = .ok (.iinc 4 1, 3) := by decide +kernel
theorem d_M_say_b_29 : decode b_M_say_b 29 = .ok (.goto (-21), 3) := by decide +kernel
theorem d_M_say_b_32 : decode b_M_say_b 32 = .ok (.return_, 1) := by decide +kernel
theorem d_M_number_0 : decode b_M_number 0 = .ok (.iload_n 1, 1) := by decide +kernel
theorem d_M_number_1 : decode b_M_number 1 = .ok (.ifCond .ge 9, 3) := by decide +kernel
theorem d_M_number_4 : decode b_M_number 4 = .ok (.aload_n 0, 1) := by decide +kernel
theorem d_M_number_5 : decode b_M_number 5 = .ok (.bipush 45, 2) := by decide +kernel
theorem d_M_number_7 : decode b_M_number 7 = .ok (.invokevirtual 218, 3) := by decide +kernel
theorem d_M_number_10 : decode b_M_number 10 = .ok (.iload_n 1, 1) := by decide +kernel
theorem d_M_number_11 : decode b_M_number 11 = .ok (.ifCond .ge 8, 3) := by decide +kernel
theorem d_M_number_14 : decode b_M_number 14 = .ok (.iload_n 1, 1) := by decide +kernel
theorem d_M_number_15 : decode b_M_number 15 = .ok (.ineg, 1) := by decide +kernel
theorem d_M_number_16 : decode b_M_number 16 = .ok (.goto 4, 3) := by decide +kernel
theorem d_M_number_19 : decode b_M_number 19 = .ok (.iload_n 1, 1) := by decide +kernel
theorem d_M_number_20 : decode b_M_number 20 = .ok (.istore_n 3, 1) := by decide +kernel
theorem d_M_number_21 : decode b_M_number 21 = .ok (.iconst 1, 1) := by decide +kernel
theorem d_M_number_22 : decode b_M_number 22 = .ok (.istore 4, 2) := by decide +kernel
theorem d_M_number_24 : decode b_M_number 24 = .ok (.iconst 1, 1) := by decide +kernel
theorem d_M_number_25 : decode b_M_number 25 = .ok (.istore 5, 2) := by decide +kernel
theorem d_M_number_27 : decode b_M_number 27 = .ok (.iload_n 3, 1) := by decide +kernel
theorem d_M_number_28 : decode b_M_number 28 = .ok (.iload 5, 2) := by decide +kernel
theorem d_M_number_30 : decode b_M_number 30 = .ok (.idiv, 1) := by decide +kernel
theorem d_M_number_31 : decode b_M_number 31 = .ok (.bipush 9, 2) := by decide +kernel
theorem d_M_number_33 : decode b_M_number 33 = .ok (.if_icmp .le 16, 3) := by decide +kernel
theorem d_M_number_36 : decode b_M_number 36 = .ok (.iload 5, 2) := by decide +kernel
theorem d_M_number_38 : decode b_M_number 38 = .ok (.bipush 10, 2) := by decide +kernel
theorem d_M_number_40 : decode b_M_number 40 = .ok (.imul, 1) := by decide +kernel
theorem d_M_number_41 : decode b_M_number 41 = .ok (.istore 5, 2) := by decide +kernel
theorem d_M_number_43 : decode b_M_number 43 = .ok (.iinc 4 1, 3) := by decide +kernel
theorem d_M_number_46 : decode b_M_number 46 = .ok (.goto (-19), 3) := by decide +kernel
theorem d_M_number_49 : decode b_M_number 49 = .ok (.iload 4, 2) := by decide +kernel
theorem d_M_number_51 : decode b_M_number 51 = .ok (.istore 6, 2) := by decide +kernel
theorem d_M_number_53 : decode b_M_number 53 = .ok (.iload 6, 2) := by decide +kernel
theorem d_M_number_55 : decode b_M_number 55 = .ok (.iload_n 2, 1) := by decide +kernel
theorem d_M_number_56 : decode b_M_number 56 = .ok (.if_icmp .ge 15, 3) := by decide +kernel
theorem d_M_number_59 : decode b_M_number 59 = .ok (.aload_n 0, 1) := by decide +kernel
theorem d_M_number_60 : decode b_M_number 60 = .ok (.bipush 48, 2) := by decide +kernel
theorem d_M_number_62 : decode b_M_number 62 = .ok (.invokevirtual 218, 3) := by decide +kernel
theorem d_M_number_65 : decode b_M_number 65 = .ok (.iinc 6 1, 3) := by decide +kernel
theorem d_M_number_68 : decode b_M_number 68 = .ok (.goto (-15), 3) := by decide +kernel
theorem d_M_number_71 : decode b_M_number 71 = .ok (.iload 5, 2) := by decide +kernel
theorem d_M_number_73 : decode b_M_number 73 = .ok (.ifCond .le 27, 3) := by decide +kernel
theorem d_M_number_76 : decode b_M_number 76 = .ok (.aload_n 0, 1) := by decide +kernel
theorem d_M_number_77 : decode b_M_number 77 = .ok (.bipush 48, 2) := by decide +kernel
theorem d_M_number_79 : decode b_M_number 79 = .ok (.iload_n 3, 1) := by decide +kernel
theorem d_M_number_80 : decode b_M_number 80 = .ok (.iload 5, 2) := by decide +kernel
theorem d_M_number_82 : decode b_M_number 82 = .ok (.idiv, 1) := by decide +kernel
theorem d_M_number_83 : decode b_M_number 83 = .ok (.bipush 10, 2) := by decide +kernel
theorem d_M_number_85 : decode b_M_number 85 = .ok (.irem, 1) := by decide +kernel
theorem d_M_number_86 : decode b_M_number 86 = .ok (.iadd, 1) := by decide +kernel
theorem d_M_number_87 : decode b_M_number 87 = .ok (.invokevirtual 218, 3) := by decide +kernel
theorem d_M_number_90 : decode b_M_number 90 = .ok (.iload 5, 2) := by decide +kernel
theorem d_M_number_92 : decode b_M_number 92 = .ok (.bipush 10, 2) := by decide +kernel
theorem d_M_number_94 : decode b_M_number 94 = .ok (.idiv, 1) := by decide +kernel
theorem d_M_number_95 : decode b_M_number 95 = .ok (.istore 5, 2) := by decide +kernel
theorem d_M_number_97 : decode b_M_number 97 = .ok (.goto (-26), 3) := by decide +kernel
theorem d_M_number_100 : decode b_M_number 100 = .ok (.return_, 1) := by decide +kernel
theorem d_M_hexDigit_0 : decode b_M_hexDigit 0 = .ok (.aload_n 0, 1) := by decide +kernel
theorem d_M_hexDigit_1 : decode b_M_hexDigit 1 = .ok (.iload_n 1, 1) := by decide +kernel
theorem d_M_hexDigit_2 : decode b_M_hexDigit 2 = .ok (.bipush 10, 2) := by decide +kernel
theorem d_M_hexDigit_4 : decode b_M_hexDigit 4 = .ok (.if_icmp .ge 10, 3) := by decide +kernel
theorem d_M_hexDigit_7 : decode b_M_hexDigit 7 = .ok (.bipush 48, 2) := by decide +kernel
theorem d_M_hexDigit_9 : decode b_M_hexDigit 9 = .ok (.iload_n 1, 1) := by decide +kernel
theorem d_M_hexDigit_10 : decode b_M_hexDigit 10 = .ok (.iadd, 1) := by decide +kernel
theorem d_M_hexDigit_11 : decode b_M_hexDigit 11 = .ok (.goto 10, 3) := by decide +kernel
theorem d_M_hexDigit_14 : decode b_M_hexDigit 14 = .ok (.bipush 97, 2) := by decide +kernel
theorem d_M_hexDigit_16 : decode b_M_hexDigit 16 = .ok (.iload_n 1, 1) := by decide +kernel
theorem d_M_hexDigit_17 : decode b_M_hexDigit 17 = .ok (.iadd, 1) := by decide +kernel
theorem d_M_hexDigit_18 : decode b_M_hexDigit 18 = .ok (.bipush 10, 2) := by decide +kernel
theorem d_M_hexDigit_20 : decode b_M_hexDigit 20 = .ok (.isub, 1) := by decide +kernel
theorem d_M_hexDigit_21 : decode b_M_hexDigit 21 = .ok (.invokevirtual 218, 3) := by decide +kernel
theorem d_M_hexDigit_24 : decode b_M_hexDigit 24 = .ok (.return_, 1) := by decide +kernel
theorem d_M_write_p_0 : decode b_M_write_p 0 = .ok (.aload_n 1, 1) := by decide +kernel
theorem d_M_write_p_1 : decode b_M_write_p 1 = .ok (.getfield 189, 3) := by decide +kernel
theorem d_M_write_p_4 : decode b_M_write_p 4 = .ok (.tableswitch 191 0 8 #[52, 59, 66, 73, 83, 98, 191, 191, 160], 52) := by decide +kernel
theorem d_M_write_p_56 : decode b_M_write_p 56 = .ok (.aload_n 0, 1) := by decide +kernel
theorem d_M_write_p_57 : decode b_M_write_p 57 = .ok (.ldc 80, 2) := by decide +kernel
theorem d_M_write_p_59 : decode b_M_write_p 59 = .ok (.invokevirtual 221, 3) := by decide +kernel
theorem d_M_write_p_62 : decode b_M_write_p 62 = .ok (.return_, 1) := by decide +kernel
theorem d_M_write_p_63 : decode b_M_write_p 63 = .ok (.aload_n 0, 1) := by decide +kernel
theorem d_M_write_p_64 : decode b_M_write_p 64 = .ok (.ldc 88, 2) := by decide +kernel
theorem d_M_write_p_66 : decode b_M_write_p 66 = .ok (.invokevirtual 221, 3) := by decide +kernel
theorem d_M_write_p_69 : decode b_M_write_p 69 = .ok (.return_, 1) := by decide +kernel
theorem d_M_write_p_70 : decode b_M_write_p 70 = .ok (.aload_n 0, 1) := by decide +kernel
theorem d_M_write_p_71 : decode b_M_write_p 71 = .ok (.ldc 90, 2) := by decide +kernel
theorem d_M_write_p_73 : decode b_M_write_p 73 = .ok (.invokevirtual 221, 3) := by decide +kernel
theorem d_M_write_p_76 : decode b_M_write_p 76 = .ok (.return_, 1) := by decide +kernel
theorem d_M_write_p_77 : decode b_M_write_p 77 = .ok (.aload_n 0, 1) := by decide +kernel
theorem d_M_write_p_78 : decode b_M_write_p 78 = .ok (.aload_n 1, 1) := by decide +kernel
theorem d_M_write_p_79 : decode b_M_write_p 79 = .ok (.getfield 95, 3) := by decide +kernel
theorem d_M_write_p_82 : decode b_M_write_p 82 = .ok (.iconst 1, 1) := by decide +kernel
theorem d_M_write_p_83 : decode b_M_write_p 83 = .ok (.invokevirtual 224, 3) := by decide +kernel
theorem d_M_write_p_86 : decode b_M_write_p 86 = .ok (.return_, 1) := by decide +kernel
theorem d_M_write_p_87 : decode b_M_write_p 87 = .ok (.aload_n 0, 1) := by decide +kernel
theorem d_M_write_p_88 : decode b_M_write_p 88 = .ok (.bipush 47, 2) := by decide +kernel
theorem d_M_write_p_90 : decode b_M_write_p 90 = .ok (.invokevirtual 218, 3) := by decide +kernel
theorem d_M_write_p_93 : decode b_M_write_p 93 = .ok (.aload_n 0, 1) := by decide +kernel
theorem d_M_write_p_94 : decode b_M_write_p 94 = .ok (.aload_n 1, 1) := by decide +kernel
theorem d_M_write_p_95 : decode b_M_write_p 95 = .ok (.getfield 119, 3) := by decide +kernel
theorem d_M_write_p_98 : decode b_M_write_p 98 = .ok (.invokevirtual 228, 3) := by decide +kernel
theorem d_M_write_p_101 : decode b_M_write_p 101 = .ok (.return_, 1) := by decide +kernel
theorem d_M_write_p_102 : decode b_M_write_p 102 = .ok (.aload_n 0, 1) := by decide +kernel
theorem d_M_write_p_103 : decode b_M_write_p 103 = .ok (.bipush 60, 2) := by decide +kernel
theorem d_M_write_p_105 : decode b_M_write_p 105 = .ok (.invokevirtual 218, 3) := by decide +kernel
theorem d_M_write_p_108 : decode b_M_write_p 108 = .ok (.aload_n 1, 1) := by decide +kernel
theorem d_M_write_p_109 : decode b_M_write_p 109 = .ok (.getfield 119, 3) := by decide +kernel
theorem d_M_write_p_112 : decode b_M_write_p 112 = .ok (.astore_n 2, 1) := by decide +kernel
theorem d_M_write_p_113 : decode b_M_write_p 113 = .ok (.aload_n 2, 1) := by decide +kernel
theorem d_M_write_p_114 : decode b_M_write_p 114 = .ok (.arraylength, 1) := by decide +kernel
theorem d_M_write_p_115 : decode b_M_write_p 115 = .ok (.istore_n 3, 1) := by decide +kernel
theorem d_M_write_p_116 : decode b_M_write_p 116 = .ok (.iconst 0, 1) := by decide +kernel
theorem d_M_write_p_117 : decode b_M_write_p 117 = .ok (.istore 4, 2) := by decide +kernel
theorem d_M_write_p_119 : decode b_M_write_p 119 = .ok (.iload 4, 2) := by decide +kernel
theorem d_M_write_p_121 : decode b_M_write_p 121 = .ok (.iload_n 3, 1) := by decide +kernel
theorem d_M_write_p_122 : decode b_M_write_p 122 = .ok (.if_icmp .ge 35, 3) := by decide +kernel
theorem d_M_write_p_125 : decode b_M_write_p 125 = .ok (.aload_n 2, 1) := by decide +kernel
theorem d_M_write_p_126 : decode b_M_write_p 126 = .ok (.iload 4, 2) := by decide +kernel
theorem d_M_write_p_128 : decode b_M_write_p 128 = .ok (.baload, 1) := by decide +kernel
theorem d_M_write_p_129 : decode b_M_write_p 129 = .ok (.istore 5, 2) := by decide +kernel
theorem d_M_write_p_131 : decode b_M_write_p 131 = .ok (.aload_n 0, 1) := by decide +kernel
theorem d_M_write_p_132 : decode b_M_write_p 132 = .ok (.iload 5, 2) := by decide +kernel
theorem d_M_write_p_134 : decode b_M_write_p 134 = .ok (.iconst 4, 1) := by decide +kernel
theorem d_M_write_p_135 : decode b_M_write_p 135 = .ok (.ishr, 1) := by decide +kernel
theorem d_M_write_p_136 : decode b_M_write_p 136 = .ok (.bipush 15, 2) := by decide +kernel
theorem d_M_write_p_138 : decode b_M_write_p 138 = .ok (.iand, 1) := by decide +kernel
theorem d_M_write_p_139 : decode b_M_write_p 139 = .ok (.invokevirtual 231, 3) := by decide +kernel
theorem d_M_write_p_142 : decode b_M_write_p 142 = .ok (.aload_n 0, 1) := by decide +kernel
theorem d_M_write_p_143 : decode b_M_write_p 143 = .ok (.iload 5, 2) := by decide +kernel
theorem d_M_write_p_145 : decode b_M_write_p 145 = .ok (.bipush 15, 2) := by decide +kernel
theorem d_M_write_p_147 : decode b_M_write_p 147 = .ok (.iand, 1) := by decide +kernel
theorem d_M_write_p_148 : decode b_M_write_p 148 = .ok (.invokevirtual 231, 3) := by decide +kernel
theorem d_M_write_p_151 : decode b_M_write_p 151 = .ok (.iinc 4 1, 3) := by decide +kernel
theorem d_M_write_p_154 : decode b_M_write_p 154 = .ok (.goto (-35), 3) := by decide +kernel
theorem d_M_write_p_157 : decode b_M_write_p 157 = .ok (.aload_n 0, 1) := by decide +kernel
theorem d_M_write_p_158 : decode b_M_write_p 158 = .ok (.bipush 62, 2) := by decide +kernel
theorem d_M_write_p_160 : decode b_M_write_p 160 = .ok (.invokevirtual 218, 3) := by decide +kernel
theorem d_M_write_p_163 : decode b_M_write_p 163 = .ok (.return_, 1) := by decide +kernel
theorem d_M_write_p_164 : decode b_M_write_p 164 = .ok (.aload_n 0, 1) := by decide +kernel
theorem d_M_write_p_165 : decode b_M_write_p 165 = .ok (.aload_n 1, 1) := by decide +kernel
theorem d_M_write_p_166 : decode b_M_write_p 166 = .ok (.getfield 95, 3) := by decide +kernel
theorem d_M_write_p_169 : decode b_M_write_p 169 = .ok (.iconst 1, 1) := by decide +kernel
theorem d_M_write_p_170 : decode b_M_write_p 170 = .ok (.invokevirtual 224, 3) := by decide +kernel
theorem d_M_write_p_173 : decode b_M_write_p 173 = .ok (.aload_n 0, 1) := by decide +kernel
theorem d_M_write_p_174 : decode b_M_write_p 174 = .ok (.bipush 32, 2) := by decide +kernel
theorem d_M_write_p_176 : decode b_M_write_p 176 = .ok (.invokevirtual 218, 3) := by decide +kernel
theorem d_M_write_p_179 : decode b_M_write_p 179 = .ok (.aload_n 0, 1) := by decide +kernel
theorem d_M_write_p_180 : decode b_M_write_p 180 = .ok (.aload_n 1, 1) := by decide +kernel
theorem d_M_write_p_181 : decode b_M_write_p 181 = .ok (.getfield 108, 3) := by decide +kernel
theorem d_M_write_p_184 : decode b_M_write_p 184 = .ok (.iconst 1, 1) := by decide +kernel
theorem d_M_write_p_185 : decode b_M_write_p 185 = .ok (.invokevirtual 224, 3) := by decide +kernel
theorem d_M_write_p_188 : decode b_M_write_p 188 = .ok (.aload_n 0, 1) := by decide +kernel
theorem d_M_write_p_189 : decode b_M_write_p 189 = .ok (.ldc 234, 2) := by decide +kernel
theorem d_M_write_p_191 : decode b_M_write_p 191 = .ok (.invokevirtual 221, 3) := by decide +kernel
theorem d_M_write_p_194 : decode b_M_write_p 194 = .ok (.return_, 1) := by decide +kernel
theorem d_M_write_p_195 : decode b_M_write_p 195 = .ok (.aload_n 0, 1) := by decide +kernel
theorem d_M_write_p_196 : decode b_M_write_p 196 = .ok (.aload_n 1, 1) := by decide +kernel
theorem d_M_write_p_197 : decode b_M_write_p 197 = .ok (.getfield 189, 3) := by decide +kernel
theorem d_M_write_p_200 : decode b_M_write_p 200 = .ok (.bipush 6, 2) := by decide +kernel
theorem d_M_write_p_202 : decode b_M_write_p 202 = .ok (.if_icmp .ne 8, 3) := by decide +kernel
theorem d_M_write_p_205 : decode b_M_write_p 205 = .ok (.ldc 236, 2) := by decide +kernel
theorem d_M_write_p_207 : decode b_M_write_p 207 = .ok (.goto 5, 3) := by decide +kernel
theorem d_M_write_p_210 : decode b_M_write_p 210 = .ok (.ldc 238, 2) := by decide +kernel
theorem d_M_write_p_212 : decode b_M_write_p 212 = .ok (.invokevirtual 221, 3) := by decide +kernel
theorem d_M_write_p_215 : decode b_M_write_p 215 = .ok (.iconst 0, 1) := by decide +kernel
theorem d_M_write_p_216 : decode b_M_write_p 216 = .ok (.istore_n 2, 1) := by decide +kernel
theorem d_M_write_p_217 : decode b_M_write_p 217 = .ok (.iload_n 2, 1) := by decide +kernel
theorem d_M_write_p_218 : decode b_M_write_p 218 = .ok (.aload_n 1, 1) := by decide +kernel
theorem d_M_write_p_219 : decode b_M_write_p 219 = .ok (.getfield 145, 3) := by decide +kernel
theorem d_M_write_p_222 : decode b_M_write_p 222 = .ok (.if_icmp .ge 60, 3) := by decide +kernel
theorem d_M_write_p_225 : decode b_M_write_p 225 = .ok (.iload_n 2, 1) := by decide +kernel
theorem d_M_write_p_226 : decode b_M_write_p 226 = .ok (.ifCond .le 9, 3) := by decide +kernel
theorem d_M_write_p_229 : decode b_M_write_p 229 = .ok (.aload_n 0, 1) := by decide +kernel
theorem d_M_write_p_230 : decode b_M_write_p 230 = .ok (.bipush 32, 2) := by decide +kernel
theorem d_M_write_p_232 : decode b_M_write_p 232 = .ok (.invokevirtual 218, 3) := by decide +kernel
theorem d_M_write_p_235 : decode b_M_write_p 235 = .ok (.aload_n 1, 1) := by decide +kernel
theorem d_M_write_p_236 : decode b_M_write_p 236 = .ok (.getfield 189, 3) := by decide +kernel
theorem d_M_write_p_239 : decode b_M_write_p 239 = .ok (.bipush 6, 2) := by decide +kernel
theorem d_M_write_p_241 : decode b_M_write_p 241 = .ok (.if_icmp .eq 25, 3) := by decide +kernel
theorem d_M_write_p_244 : decode b_M_write_p 244 = .ok (.aload_n 0, 1) := by decide +kernel
theorem d_M_write_p_245 : decode b_M_write_p 245 = .ok (.bipush 47, 2) := by decide +kernel
theorem d_M_write_p_247 : decode b_M_write_p 247 = .ok (.invokevirtual 218, 3) := by decide +kernel
theorem d_M_write_p_250 : decode b_M_write_p 250 = .ok (.aload_n 0, 1) := by decide +kernel
theorem d_M_write_p_251 : decode b_M_write_p 251 = .ok (.aload_n 1, 1) := by decide +kernel
theorem d_M_write_p_252 : decode b_M_write_p 252 = .ok (.getfield 156, 3) := by decide +kernel
theorem d_M_write_p_255 : decode b_M_write_p 255 = .ok (.iload_n 2, 1) := by decide +kernel
theorem d_M_write_p_256 : decode b_M_write_p 256 = .ok (.aaload, 1) := by decide +kernel
theorem d_M_write_p_257 : decode b_M_write_p 257 = .ok (.invokevirtual 228, 3) := by decide +kernel
theorem d_M_write_p_260 : decode b_M_write_p 260 = .ok (.aload_n 0, 1) := by decide +kernel
theorem d_M_write_p_261 : decode b_M_write_p 261 = .ok (.bipush 32, 2) := by decide +kernel
theorem d_M_write_p_263 : decode b_M_write_p 263 = .ok (.invokevirtual 218, 3) := by decide +kernel
theorem d_M_write_p_266 : decode b_M_write_p 266 = .ok (.aload_n 0, 1) := by decide +kernel
theorem d_M_write_p_267 : decode b_M_write_p 267 = .ok (.aload_n 1, 1) := by decide +kernel
theorem d_M_write_p_268 : decode b_M_write_p 268 = .ok (.getfield 141, 3) := by decide +kernel
theorem d_M_write_p_271 : decode b_M_write_p 271 = .ok (.iload_n 2, 1) := by decide +kernel
theorem d_M_write_p_272 : decode b_M_write_p 272 = .ok (.aaload, 1) := by decide +kernel
theorem d_M_write_p_273 : decode b_M_write_p 273 = .ok (.invokevirtual 240, 3) := by decide +kernel
theorem d_M_write_p_276 : decode b_M_write_p 276 = .ok (.iinc 2 1, 3) := by decide +kernel
theorem d_M_write_p_279 : decode b_M_write_p 279 = .ok (.goto (-62), 3) := by decide +kernel
theorem d_M_write_p_282 : decode b_M_write_p 282 = .ok (.aload_n 0, 1) := by decide +kernel
theorem d_M_write_p_283 : decode b_M_write_p 283 = .ok (.aload_n 1, 1) := by decide +kernel
theorem d_M_write_p_284 : decode b_M_write_p 284 = .ok (.getfield 189, 3) := by decide +kernel
theorem d_M_write_p_287 : decode b_M_write_p 287 = .ok (.bipush 6, 2) := by decide +kernel
theorem d_M_write_p_289 : decode b_M_write_p 289 = .ok (.if_icmp .ne 8, 3) := by decide +kernel
theorem d_M_write_p_292 : decode b_M_write_p 292 = .ok (.ldc 244, 2) := by decide +kernel
theorem d_M_write_p_294 : decode b_M_write_p 294 = .ok (.goto 5, 3) := by decide +kernel
theorem d_M_write_p_297 : decode b_M_write_p 297 = .ok (.ldc 246, 2) := by decide +kernel
theorem d_M_write_p_299 : decode b_M_write_p 299 = .ok (.invokevirtual 221, 3) := by decide +kernel
theorem d_M_write_p_302 : decode b_M_write_p 302 = .ok (.return_, 1) := by decide +kernel
theorem d_M_write_0 : decode b_M_write 0 = .ok (.aload_n 0, 1) := by decide +kernel
theorem d_M_write_1 : decode b_M_write 1 = .ok (.getfield 186, 3) := by decide +kernel
theorem d_M_write_4 : decode b_M_write 4 = .ok (.ifnonnull 6, 3) := by decide +kernel
theorem d_M_write_7 : decode b_M_write 7 = .ok (.bipush (-2), 2) := by decide +kernel
theorem d_M_write_9 : decode b_M_write 9 = .ok (.ireturn, 1) := by decide +kernel
theorem d_M_write_10 : decode b_M_write 10 = .ok (.aload_n 0, 1) := by decide +kernel
theorem d_M_write_11 : decode b_M_write 11 = .ok (.iconst 0, 1) := by decide +kernel
theorem d_M_write_12 : decode b_M_write 12 = .ok (.putfield 215, 3) := by decide +kernel
theorem d_M_write_15 : decode b_M_write 15 = .ok (.aload_n 0, 1) := by decide +kernel
theorem d_M_write_16 : decode b_M_write 16 = .ok (.aload_n 0, 1) := by decide +kernel
theorem d_M_write_17 : decode b_M_write 17 = .ok (.getfield 186, 3) := by decide +kernel
theorem d_M_write_20 : decode b_M_write 20 = .ok (.invokevirtual 240, 3) := by decide +kernel
theorem d_M_write_23 : decode b_M_write 23 = .ok (.aload_n 0, 1) := by decide +kernel
theorem d_M_write_24 : decode b_M_write 24 = .ok (.getfield 173, 3) := by decide +kernel
theorem d_M_write_27 : decode b_M_write 27 = .ok (.iconst 0, 1) := by decide +kernel
theorem d_M_write_28 : decode b_M_write 28 = .ok (.aload_n 0, 1) := by decide +kernel
theorem d_M_write_29 : decode b_M_write 29 = .ok (.getfield 170, 3) := by decide +kernel
theorem d_M_write_32 : decode b_M_write 32 = .ok (.iconst 0, 1) := by decide +kernel
theorem d_M_write_33 : decode b_M_write 33 = .ok (.aload_n 0, 1) := by decide +kernel
theorem d_M_write_34 : decode b_M_write 34 = .ok (.getfield 215, 3) := by decide +kernel
theorem d_M_write_37 : decode b_M_write 37 = .ok (.invokestatic 200, 3) := by decide +kernel
theorem d_M_write_40 : decode b_M_write 40 = .ok (.aload_n 0, 1) := by decide +kernel
theorem d_M_write_41 : decode b_M_write 41 = .ok (.aload_n 0, 1) := by decide +kernel
theorem d_M_write_42 : decode b_M_write 42 = .ok (.getfield 215, 3) := by decide +kernel
theorem d_M_write_45 : decode b_M_write 45 = .ok (.putfield 206, 3) := by decide +kernel
theorem d_M_write_48 : decode b_M_write 48 = .ok (.aload_n 0, 1) := by decide +kernel
theorem d_M_write_49 : decode b_M_write 49 = .ok (.getfield 215, 3) := by decide +kernel
theorem d_M_write_52 : decode b_M_write 52 = .ok (.ireturn, 1) := by decide +kernel
theorem d_Part_init_0 : decode b_Part_init 0 = .ok (.aload_n 0, 1) := by decide +kernel
theorem d_Part_init_1 : decode b_Part_init 1 = .ok (.invokespecial 1, 3) := by decide +kernel
theorem d_Part_init_4 : decode b_Part_init 4 = .ok (.aload_n 0, 1) := by decide +kernel
theorem d_Part_init_5 : decode b_Part_init 5 = .ok (.iload_n 1, 1) := by decide +kernel
theorem d_Part_init_6 : decode b_Part_init 6 = .ok (.putfield 7, 3) := by decide +kernel
theorem d_Part_init_9 : decode b_Part_init 9 = .ok (.return_, 1) := by decide +kernel
theorem d_Part_parts_0 : decode b_Part_parts 0 = .ok (.iconst 1, 1) := by decide +kernel
theorem d_Part_parts_1 : decode b_Part_parts 1 = .ok (.istore_n 1, 1) := by decide +kernel
theorem d_Part_parts_2 : decode b_Part_parts 2 = .ok (.iconst 0, 1) := by decide +kernel
theorem d_Part_parts_3 : decode b_Part_parts 3 = .ok (.istore_n 2, 1) := by decide +kernel
theorem d_Part_parts_4 : decode b_Part_parts 4 = .ok (.iload_n 2, 1) := by decide +kernel
theorem d_Part_parts_5 : decode b_Part_parts 5 = .ok (.aload_n 0, 1) := by decide +kernel
theorem d_Part_parts_6 : decode b_Part_parts 6 = .ok (.getfield 13, 3) := by decide +kernel
theorem d_Part_parts_9 : decode b_Part_parts 9 = .ok (.if_icmp .ge 21, 3) := by decide +kernel
theorem d_Part_parts_12 : decode b_Part_parts 12 = .ok (.iload_n 1, 1) := by decide +kernel
theorem d_Part_parts_13 : decode b_Part_parts 13 = .ok (.aload_n 0, 1) := by decide +kernel
theorem d_Part_parts_14 : decode b_Part_parts 14 = .ok (.getfield 16, 3) := by decide +kernel
theorem d_Part_parts_17 : decode b_Part_parts 17 = .ok (.iload_n 2, 1) := by decide +kernel
theorem d_Part_parts_18 : decode b_Part_parts 18 = .ok (.aaload, 1) := by decide +kernel
theorem d_Part_parts_19 : decode b_Part_parts 19 = .ok (.invokevirtual 20, 3) := by decide +kernel
theorem d_Part_parts_22 : decode b_Part_parts 22 = .ok (.iadd, 1) := by decide +kernel
theorem d_Part_parts_23 : decode b_Part_parts 23 = .ok (.istore_n 1, 1) := by decide +kernel
theorem d_Part_parts_24 : decode b_Part_parts 24 = .ok (.iinc 2 1, 3) := by decide +kernel
theorem d_Part_parts_27 : decode b_Part_parts 27 = .ok (.goto (-23), 3) := by decide +kernel
theorem d_Part_parts_30 : decode b_Part_parts 30 = .ok (.iload_n 1, 1) := by decide +kernel
theorem d_Part_parts_31 : decode b_Part_parts 31 = .ok (.ireturn, 1) := by decide +kernel
theorem d_Part_get_0 : decode b_Part_get 0 = .ok (.iconst 0, 1) := by decide +kernel
theorem d_Part_get_1 : decode b_Part_get 1 = .ok (.istore 4, 2) := by decide +kernel
theorem d_Part_get_3 : decode b_Part_get 3 = .ok (.iload 4, 2) := by decide +kernel
theorem d_Part_get_5 : decode b_Part_get 5 = .ok (.aload_n 0, 1) := by decide +kernel
theorem d_Part_get_6 : decode b_Part_get 6 = .ok (.getfield 13, 3) := by decide +kernel
theorem d_Part_get_9 : decode b_Part_get 9 = .ok (.if_icmp .ge 40, 3) := by decide +kernel
theorem d_Part_get_12 : decode b_Part_get 12 = .ok (.aload_n 0, 1) := by decide +kernel
theorem d_Part_get_13 : decode b_Part_get 13 = .ok (.getfield 24, 3) := by decide +kernel
theorem d_Part_get_16 : decode b_Part_get 16 = .ok (.ifnull 33, 3) := by decide +kernel
theorem d_Part_get_19 : decode b_Part_get 19 = .ok (.aload_n 0, 1) := by decide +kernel
theorem d_Part_get_20 : decode b_Part_get 20 = .ok (.getfield 24, 3) := by decide +kernel
theorem d_Part_get_23 : decode b_Part_get 23 = .ok (.iload 4, 2) := by decide +kernel
theorem d_Part_get_25 : decode b_Part_get 25 = .ok (.aaload, 1) := by decide +kernel
theorem d_Part_get_26 : decode b_Part_get 26 = .ok (.aload_n 1, 1) := by decide +kernel
theorem d_Part_get_27 : decode b_Part_get 27 = .ok (.iload_n 2, 1) := by decide +kernel
theorem d_Part_get_28 : decode b_Part_get 28 = .ok (.iload_n 3, 1) := by decide +kernel
theorem d_Part_get_29 : decode b_Part_get 29 = .ok (.invokestatic 28, 3) := by decide +kernel
theorem d_Part_get_32 : decode b_Part_get 32 = .ok (.ifCond .eq 11, 3) := by decide +kernel
theorem d_Part_get_35 : decode b_Part_get 35 = .ok (.aload_n 0, 1) := by decide +kernel
theorem d_Part_get_36 : decode b_Part_get 36 = .ok (.getfield 16, 3) := by decide +kernel
theorem d_Part_get_39 : decode b_Part_get 39 = .ok (.iload 4, 2) := by decide +kernel
theorem d_Part_get_41 : decode b_Part_get 41 = .ok (.aaload, 1) := by decide +kernel
theorem d_Part_get_42 : decode b_Part_get 42 = .ok (.areturn, 1) := by decide +kernel
theorem d_Part_get_43 : decode b_Part_get 43 = .ok (.iinc 4 1, 3) := by decide +kernel
theorem d_Part_get_46 : decode b_Part_get 46 = .ok (.goto (-43), 3) := by decide +kernel
theorem d_Part_get_49 : decode b_Part_get 49 = .ok (.aconst_null, 1) := by decide +kernel
theorem d_Part_get_50 : decode b_Part_get 50 = .ok (.areturn, 1) := by decide +kernel
