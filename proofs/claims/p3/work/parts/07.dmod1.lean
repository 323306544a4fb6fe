theorem d_M_in_0 : decode b_M_in 0 = .ok (.lload_n 0, 1) := by decide +kernel
theorem d_M_in_1 : decode b_M_in 1 = .ok (.lload_n 2, 1) := by decide +kernel
theorem d_M_in_2 : decode b_M_in 2 = .ok (.lcmp, 1) := by decide +kernel
theorem d_M_in_3 : decode b_M_in 3 = .ok (.ifCond .lt 14, 3) := by decide +kernel
theorem d_M_in_6 : decode b_M_in 6 = .ok (.lload_n 0, 1) := by decide +kernel
theorem d_M_in_7 : decode b_M_in 7 = .ok (.lload 4, 2) := by decide +kernel
theorem d_M_in_9 : decode b_M_in 9 = .ok (.lcmp, 1) := by decide +kernel
theorem d_M_in_10 : decode b_M_in 10 = .ok (.ifCond .gt 7, 3) := by decide +kernel
theorem d_M_in_13 : decode b_M_in 13 = .ok (.iconst 1, 1) := by decide +kernel
theorem d_M_in_14 : decode b_M_in 14 = .ok (.goto 4, 3) := by decide +kernel
theorem d_M_in_17 : decode b_M_in 17 = .ok (.iconst 0, 1) := by decide +kernel
theorem d_M_in_18 : decode b_M_in 18 = .ok (.ireturn, 1) := by decide +kernel
theorem d_M_isLike_0 : decode b_M_isLike 0 = .ok (.aload_n 0, 1) := by decide +kernel
theorem d_M_isLike_1 : decode b_M_isLike 1 = .ok (.arraylength, 1) := by decide +kernel
theorem d_M_isLike_2 : decode b_M_isLike 2 = .ok (.iload_n 3, 1) := by decide +kernel
theorem d_M_isLike_3 : decode b_M_isLike 3 = .ok (.if_icmp .eq 5, 3) := by decide +kernel
theorem d_M_isLike_6 : decode b_M_isLike 6 = .ok (.iconst 0, 1) := by decide +kernel
theorem d_M_isLike_7 : decode b_M_isLike 7 = .ok (.ireturn, 1) := by decide +kernel
theorem d_M_isLike_8 : decode b_M_isLike 8 = .ok (.iconst 0, 1) := by decide +kernel
theorem d_M_isLike_9 : decode b_M_isLike 9 = .ok (.istore 4, 2) := by decide +kernel
theorem d_M_isLike_11 : decode b_M_isLike 11 = .ok (.iload 4, 2) := by decide +kernel
theorem d_M_isLike_13 : decode b_M_isLike 13 = .ok (.iload_n 3, 1) := by decide +kernel
theorem d_M_isLike_14 : decode b_M_isLike 14 = .ok (.if_icmp .ge 24, 3) := by decide +kernel
theorem d_M_isLike_17 : decode b_M_isLike 17 = .ok (.aload_n 0, 1) := by decide +kernel
theorem d_M_isLike_18 : decode b_M_isLike 18 = .ok (.iload 4, 2) := by decide +kernel
theorem d_M_isLike_20 : decode b_M_isLike 20 = .ok (.baload, 1) := by decide +kernel
theorem d_M_isLike_21 : decode b_M_isLike 21 = .ok (.aload_n 1, 1) := by decide +kernel
theorem d_M_isLike_22 : decode b_M_isLike 22 = .ok (.iload_n 2, 1) := by decide +kernel
theorem d_M_isLike_23 : decode b_M_isLike 23 = .ok (.iload 4, 2) := by decide +kernel
theorem d_M_isLike_25 : decode b_M_isLike 25 = .ok (.iadd, 1) := by decide +kernel
theorem d_M_isLike_26 : decode b_M_isLike 26 = .ok (.baload, 1) := by decide +kernel
theorem d_M_isLike_27 : decode b_M_isLike 27 = .ok (.if_icmp .eq 5, 3) := by decide +kernel
theorem d_M_isLike_30 : decode b_M_isLike 30 = .ok (.iconst 0, 1) := by decide +kernel
theorem d_M_isLike_31 : decode b_M_isLike 31 = .ok (.ireturn, 1) := by decide +kernel
theorem d_M_isLike_32 : decode b_M_isLike 32 = .ok (.iinc 4 1, 3) := by decide +kernel
theorem d_M_isLike_35 : decode b_M_isLike 35 = .ok (.goto (-24), 3) := by decide +kernel
theorem d_M_isLike_38 : decode b_M_isLike 38 = .ok (.iconst 1, 1) := by decide +kernel
theorem d_M_isLike_39 : decode b_M_isLike 39 = .ok (.ireturn, 1) := by decide +kernel
theorem d_M_isWhite_0 : decode b_M_isWhite 0 = .ok (.iload_n 0, 1) := by decide +kernel
theorem d_M_isWhite_1 : decode b_M_isWhite 1 = .ok (.bipush 32, 2) := by decide +kernel
theorem d_M_isWhite_3 : decode b_M_isWhite 3 = .ok (.if_icmp .eq 15, 3) := by decide +kernel
theorem d_M_isWhite_6 : decode b_M_isWhite 6 = .ok (.iload_n 0, 1) := by decide +kernel
theorem d_M_isWhite_7 : decode b_M_isWhite 7 = .ok (.bipush 10, 2) := by decide +kernel
theorem d_M_isWhite_9 : decode b_M_isWhite 9 = .ok (.if_icmp .eq 9, 3) := by decide +kernel
theorem d_M_isWhite_12 : decode b_M_isWhite 12 = .ok (.iload_n 0, 1) := by decide +kernel
theorem d_M_isWhite_13 : decode b_M_isWhite 13 = .ok (.bipush 13, 2) := by decide +kernel
theorem d_M_isWhite_15 : decode b_M_isWhite 15 = .ok (.if_icmp .ne 7, 3) := by decide +kernel
theorem d_M_isWhite_18 : decode b_M_isWhite 18 = .ok (.iconst 1, 1) := by decide +kernel
theorem d_M_isWhite_19 : decode b_M_isWhite 19 = .ok (.goto 4, 3) := by decide +kernel
theorem d_M_isWhite_22 : decode b_M_isWhite 22 = .ok (.iconst 0, 1) := by decide +kernel
theorem d_M_isWhite_23 : decode b_M_isWhite 23 = .ok (.ireturn, 1) := by decide +kernel
theorem d_M_isDelimiter_0 : decode b_M_isDelimiter 0 = .ok (.iload_n 0, 1) := by decide +kernel
theorem d_M_isDelimiter_1 : decode b_M_isDelimiter 1 = .ok (.bipush 40, 2) := by decide +kernel
theorem d_M_isDelimiter_3 : decode b_M_isDelimiter 3 = .ok (.if_icmp .eq 39, 3) := by decide +kernel
theorem d_M_isDelimiter_6 : decode b_M_isDelimiter 6 = .ok (.iload_n 0, 1) := by decide +kernel
theorem d_M_isDelimiter_7 : decode b_M_isDelimiter 7 = .ok (.bipush 41, 2) := by decide +kernel
theorem d_M_isDelimiter_9 : decode b_M_isDelimiter 9 = .ok (.if_icmp .eq 33, 3) := by decide +kernel
theorem d_M_isDelimiter_12 : decode b_M_isDelimiter 12 = .ok (.iload_n 0, 1) := by decide +kernel
theorem d_M_isDelimiter_13 : decode b_M_isDelimiter 13 = .ok (.bipush 60, 2) := by decide +kernel
theorem d_M_isDelimiter_15 : decode b_M_isDelimiter 15 = .ok (.if_icmp .eq 27, 3) := by decide +kernel
theorem d_M_isDelimiter_18 : decode b_M_isDelimiter 18 = .ok (.iload_n 0, 1) := by decide +kernel
theorem d_M_isDelimiter_19 : decode b_M_isDelimiter 19 = .ok (.bipush 62, 2) := by decide +kernel
theorem d_M_isDelimiter_21 : decode b_M_isDelimiter 21 = .ok (.if_icmp .eq 21, 3) := by decide +kernel
theorem d_M_isDelimiter_24 : decode b_M_isDelimiter 24 = .ok (.iload_n 0, 1) := by decide +kernel
theorem d_M_isDelimiter_25 : decode b_M_isDelimiter 25 = .ok (.bipush 91, 2) := by decide +kernel
theorem d_M_isDelimiter_27 : decode b_M_isDelimiter 27 = .ok (.if_icmp .eq 15, 3) := by decide +kernel
theorem d_M_isDelimiter_30 : decode b_M_isDelimiter 30 = .ok (.iload_n 0, 1) := by decide +kernel
theorem d_M_isDelimiter_31 : decode b_M_isDelimiter 31 = .ok (.bipush 93, 2) := by decide +kernel
theorem d_M_isDelimiter_33 : decode b_M_isDelimiter 33 = .ok (.if_icmp .eq 9, 3) := by decide +kernel
theorem d_M_isDelimiter_36 : decode b_M_isDelimiter 36 = .ok (.iload_n 0, 1) := by decide +kernel
theorem d_M_isDelimiter_37 : decode b_M_isDelimiter 37 = .ok (.bipush 47, 2) := by decide +kernel
theorem d_M_isDelimiter_39 : decode b_M_isDelimiter 39 = .ok (.if_icmp .ne 7, 3) := by decide +kernel
theorem d_M_isDelimiter_42 : decode b_M_isDelimiter 42 = .ok (.iconst 1, 1) := by decide +kernel
theorem d_M_isDelimiter_43 : decode b_M_isDelimiter 43 = .ok (.goto 4, 3) := by decide +kernel
theorem d_M_isDelimiter_46 : decode b_M_isDelimiter 46 = .ok (.iconst 0, 1) := by decide +kernel
theorem d_M_isDelimiter_47 : decode b_M_isDelimiter 47 = .ok (.ireturn, 1) := by decide +kernel
theorem d_M_isRegular_0 : decode b_M_isRegular 0 = .ok (.iload_n 0, 1) := by decide +kernel
theorem d_M_isRegular_1 : decode b_M_isRegular 1 = .ok (.bipush 33, 2) := by decide +kernel
theorem d_M_isRegular_3 : decode b_M_isRegular 3 = .ok (.if_icmp .lt 20, 3) := by decide +kernel
theorem d_M_isRegular_6 : decode b_M_isRegular 6 = .ok (.iload_n 0, 1) := by decide +kernel
theorem d_M_isRegular_7 : decode b_M_isRegular 7 = .ok (.bipush 126, 2) := by decide +kernel
theorem d_M_isRegular_9 : decode b_M_isRegular 9 = .ok (.if_icmp .gt 14, 3) := by decide +kernel
theorem d_M_isRegular_12 : decode b_M_isRegular 12 = .ok (.iload_n 0, 1) := by decide +kernel
theorem d_M_isRegular_13 : decode b_M_isRegular 13 = .ok (.invokestatic 1, 3) := by decide +kernel
theorem d_M_isRegular_16 : decode b_M_isRegular 16 = .ok (.ifCond .ne 7, 3) := by decide +kernel
theorem d_M_isRegular_19 : decode b_M_isRegular 19 = .ok (.iconst 1, 1) := by decide +kernel
theorem d_M_isRegular_20 : decode b_M_isRegular 20 = .ok (.goto 4, 3) := by decide +kernel
theorem d_M_isRegular_23 : decode b_M_isRegular 23 = .ok (.iconst 0, 1) := by decide +kernel
theorem d_M_isRegular_24 : decode b_M_isRegular 24 = .ok (.ireturn, 1) := by decide +kernel
theorem d_M_white_0 : decode b_M_white 0 = .ok (.aload_n 0, 1) := by decide +kernel
theorem d_M_white_1 : decode b_M_white 1 = .ok (.getfield 7, 3) := by decide +kernel
theorem d_M_white_4 : decode b_M_white 4 = .ok (.aload_n 0, 1) := by decide +kernel
theorem d_M_white_5 : decode b_M_white 5 = .ok (.getfield 11, 3) := by decide +kernel
theorem d_M_white_8 : decode b_M_white 8 = .ok (.if_icmp .ge 31, 3) := by decide +kernel
theorem d_M_white_11 : decode b_M_white 11 = .ok (.aload_n 0, 1) := by decide +kernel
theorem d_M_white_12 : decode b_M_white 12 = .ok (.getfield 14, 3) := by decide +kernel
theorem d_M_white_15 : decode b_M_white 15 = .ok (.aload_n 0, 1) := by decide +kernel
theorem d_M_white_16 : decode b_M_white 16 = .ok (.getfield 7, 3) := by decide +kernel
theorem d_M_white_19 : decode b_M_white 19 = .ok (.baload, 1) := by decide +kernel
theorem d_M_white_20 : decode b_M_white 20 = .ok (.invokestatic 18, 3) := by decide +kernel
theorem d_M_white_23 : decode b_M_white 23 = .ok (.ifCond .eq 16, 3) := by decide +kernel
theorem d_M_white_26 : decode b_M_white 26 = .ok (.aload_n 0, 1) := by decide +kernel
theorem d_M_white_27 : decode b_M_white 27 = .ok (.dup, 1) := by decide +kernel
theorem d_M_white_28 : decode b_M_white 28 = .ok (.getfield 7, 3) := by decide +kernel
theorem d_M_white_31 : decode b_M_white 31 = .ok (.iconst 1, 1) := by decide +kernel
theorem d_M_white_32 : decode b_M_white 32 = .ok (.iadd, 1) := by decide +kernel
theorem d_M_white_33 : decode b_M_white 33 = .ok (.putfield 7, 3) := by decide +kernel
theorem d_M_white_36 : decode b_M_white 36 = .ok (.goto (-36), 3) := by decide +kernel
theorem d_M_white_39 : decode b_M_white 39 = .ok (.return_, 1) := by decide +kernel
theorem d_M_wordEnd_0 : decode b_M_wordEnd 0 = .ok (.iload_n 1, 1) := by decide +kernel
theorem d_M_wordEnd_1 : decode b_M_wordEnd 1 = .ok (.istore_n 2, 1) := by decide +kernel
theorem d_M_wordEnd_2 : decode b_M_wordEnd 2 = .ok (.iload_n 2, 1) := by decide +kernel
theorem d_M_wordEnd_3 : decode b_M_wordEnd 3 = .ok (.aload_n 0, 1) := by decide +kernel
theorem d_M_wordEnd_4 : decode b_M_wordEnd 4 = .ok (.getfield 11, 3) := by decide +kernel
theorem d_M_wordEnd_7 : decode b_M_wordEnd 7 = .ok (.if_icmp .ge 21, 3) := by decide +kernel
theorem d_M_wordEnd_10 : decode b_M_wordEnd 10 = .ok (.aload_n 0, 1) := by decide +kernel
theorem d_M_wordEnd_11 : decode b_M_wordEnd 11 = .ok (.getfield 14, 3) := by decide +kernel
theorem d_M_wordEnd_14 : decode b_M_wordEnd 14 = .ok (.iload_n 2, 1) := by decide +kernel
theorem d_M_wordEnd_15 : decode b_M_wordEnd 15 = .ok (.baload, 1) := by decide +kernel
theorem d_M_wordEnd_16 : decode b_M_wordEnd 16 = .ok (.invokestatic 21, 3) := by decide +kernel
theorem d_M_wordEnd_19 : decode b_M_wordEnd 19 = .ok (.ifCond .eq 9, 3) := by decide +kernel
theorem d_M_wordEnd_22 : decode b_M_wordEnd 22 = .ok (.iinc 2 1, 3) := by decide +kernel
theorem d_M_wordEnd_25 : decode b_M_wordEnd 25 = .ok (.goto (-23), 3) := by decide +kernel
theorem d_M_wordEnd_28 : decode b_M_wordEnd 28 = .ok (.iload_n 2, 1) := by decide +kernel
theorem d_M_wordEnd_29 : decode b_M_wordEnd 29 = .ok (.ireturn, 1) := by decide +kernel
theorem d_M_isAt_s_0 : decode b_M_isAt_s 0 = .ok (.iload_n 1, 1) := by decide +kernel
theorem d_M_isAt_s_1 : decode b_M_isAt_s 1 = .ok (.ifCond .lt 16, 3) := by decide +kernel
theorem d_M_isAt_s_4 : decode b_M_isAt_s 4 = .ok (.iload_n 1, 1) := by decide +kernel
theorem d_M_isAt_s_5 : decode b_M_isAt_s 5 = .ok (.aload_n 2, 1) := by decide +kernel
theorem d_M_isAt_s_6 : decode b_M_isAt_s 6 = .ok (.invokevirtual 24, 3) := by decide +kernel
theorem d_M_isAt_s_9 : decode b_M_isAt_s 9 = .ok (.iadd, 1) := by decide +kernel
theorem d_M_isAt_s_10 : decode b_M_isAt_s 10 = .ok (.aload_n 0, 1) := by decide +kernel
theorem d_M_isAt_s_11 : decode b_M_isAt_s 11 = .ok (.getfield 11, 3) := by decide +kernel
theorem d_M_isAt_s_14 : decode b_M_isAt_s 14 = .ok (.if_icmp .le 5, 3) := by decide +kernel
theorem d_M_isAt_s_17 : decode b_M_isAt_s 17 = .ok (.iconst 0, 1) := by decide +kernel
theorem d_M_isAt_s_18 : decode b_M_isAt_s 18 = .ok (.ireturn, 1) := by decide +kernel
theorem d_M_isAt_s_19 : decode b_M_isAt_s 19 = .ok (.iconst 0, 1) := by decide +kernel
theorem d_M_isAt_s_20 : decode b_M_isAt_s 20 = .ok (.istore_n 3, 1) := by decide +kernel
theorem d_M_isAt_s_21 : decode b_M_isAt_s 21 = .ok (.iload_n 3, 1) := by decide +kernel
theorem d_M_isAt_s_22 : decode b_M_isAt_s 22 = .ok (.aload_n 2, 1) := by decide +kernel
theorem d_M_isAt_s_23 : decode b_M_isAt_s 23 = .ok (.invokevirtual 24, 3) := by decide +kernel
theorem d_M_isAt_s_26 : decode b_M_isAt_s 26 = .ok (.if_icmp .ge 27, 3) := by decide +kernel
theorem d_M_isAt_s_29 : decode b_M_isAt_s 29 = .ok (.aload_n 0, 1) := by decide +kernel
theorem d_M_isAt_s_30 : decode b_M_isAt_s 30 = .ok (.getfield 14, 3) := by decide +kernel
theorem d_M_isAt_s_33 : decode b_M_isAt_s 33 = .ok (.iload_n 1, 1) := by decide +kernel
theorem d_M_isAt_s_34 : decode b_M_isAt_s 34 = .ok (.iload_n 3, 1) := by decide +kernel
theorem d_M_isAt_s_35 : decode b_M_isAt_s 35 = .ok (.iadd, 1) := by decide +kernel
theorem d_M_isAt_s_36 : decode b_M_isAt_s 36 = .ok (.baload, 1) := by decide +kernel
theorem d_M_isAt_s_37 : decode b_M_isAt_s 37 = .ok (.aload_n 2, 1) := by decide +kernel
theorem d_M_isAt_s_38 : decode b_M_isAt_s 38 = .ok (.iload_n 3, 1) := by decide +kernel
theorem d_M_isAt_s_39 : decode b_M_isAt_s 39 = .ok (.invokevirtual 30, 3) := by decide +kernel
theorem d_M_isAt_s_42 : decode b_M_isAt_s 42 = .ok (.if_icmp .eq 5, 3) := by decide +kernel
theorem d_M_isAt_s_45 : decode b_M_isAt_s 45 = .ok (.iconst 0, 1) := by decide +kernel
theorem d_M_isAt_s_46 : decode b_M_isAt_s 46 = .ok (.ireturn, 1) := by decide +kernel
theorem d_M_isAt_s_47 : decode b_M_isAt_s 47 = .ok (.iinc 3 1, 3) := by decide +kernel
theorem d_M_isAt_s_50 : decode b_M_isAt_s 50 = .ok (.goto (-29), 3) := by decide +kernel
theorem d_M_isAt_s_53 : decode b_M_isAt_s 53 = .ok (.iconst 1, 1) := by decide +kernel
theorem d_M_isAt_s_54 : decode b_M_isAt_s 54 = .ok (.ireturn, 1) := by decide +kernel
theorem d_M_isWord_0 : decode b_M_isWord 0 = .ok (.iload_n 2, 1) := by decide +kernel
theorem d_M_isWord_1 : decode b_M_isWord 1 = .ok (.iload_n 1, 1) := by decide +kernel
theorem d_M_isWord_2 : decode b_M_isWord 2 = .ok (.isub, 1) := by decide +kernel
theorem d_M_isWord_3 : decode b_M_isWord 3 = .ok (.aload_n 3, 1) := by decide +kernel
theorem d_M_isWord_4 : decode b_M_isWord 4 = .ok (.invokevirtual 24, 3) := by decide +kernel
theorem d_M_isWord_7 : decode b_M_isWord 7 = .ok (.if_icmp .ne 16, 3) := by decide +kernel
theorem d_M_isWord_10 : decode b_M_isWord 10 = .ok (.aload_n 0, 1) := by decide +kernel
theorem d_M_isWord_11 : decode b_M_isWord 11 = .ok (.iload_n 1, 1) := by decide +kernel
theorem d_M_isWord_12 : decode b_M_isWord 12 = .ok (.aload_n 3, 1) := by decide +kernel
theorem d_M_isWord_13 : decode b_M_isWord 13 = .ok (.invokevirtual 34, 3) := by decide +kernel
theorem d_M_isWord_16 : decode b_M_isWord 16 = .ok (.ifCond .eq 7, 3) := by decide +kernel
theorem d_M_isWord_19 : decode b_M_isWord 19 = .ok (.iconst 1, 1) := by decide +kernel
theorem d_M_isWord_20 : decode b_M_isWord 20 = .ok (.goto 4, 3) := by decide +kernel
theorem d_M_isWord_23 : decode b_M_isWord 23 = .ok (.iconst 0, 1) := by decide +kernel
theorem d_M_isWord_24 : decode b_M_isWord 24 = .ok (.ireturn, 1) := by decide +kernel
theorem d_M_takeWord_0 : decode b_M_takeWord 0 = .ok (.aload_n 0, 1) := by decide +kernel
theorem d_M_takeWord_1 : decode b_M_takeWord 1 = .ok (.aload_n 0, 1) := by decide +kernel
theorem d_M_takeWord_2 : decode b_M_takeWord 2 = .ok (.getfield 7, 3) := by decide +kernel
theorem d_M_takeWord_5 : decode b_M_takeWord 5 = .ok (.invokevirtual 38, 3) := by decide +kernel
theorem d_M_takeWord_8 : decode b_M_takeWord 8 = .ok (.istore_n 2, 1) := by decide +kernel
theorem d_M_takeWord_9 : decode b_M_takeWord 9 = .ok (.aload_n 0, 1) := by decide +kernel
theorem d_M_takeWord_10 : decode b_M_takeWord 10 = .ok (.aload_n 0, 1) := by decide +kernel
theorem d_M_takeWord_11 : decode b_M_takeWord 11 = .ok (.getfield 7, 3) := by decide +kernel
theorem d_M_takeWord_14 : decode b_M_takeWord 14 = .ok (.iload_n 2, 1) := by decide +kernel
theorem d_M_takeWord_15 : decode b_M_takeWord 15 = .ok (.aload_n 1, 1) := by decide +kernel
theorem d_M_takeWord_16 : decode b_M_takeWord 16 = .ok (.invokevirtual 42, 3) := by decide +kernel
theorem d_M_takeWord_19 : decode b_M_takeWord 19 = .ok (.ifCond .ne 5, 3) := by decide +kernel
theorem d_M_takeWord_22 : decode b_M_takeWord 22 = .ok (.iconst 0, 1) := by decide +kernel
theorem d_M_takeWord_23 : decode b_M_takeWord 23 = .ok (.ireturn, 1) := by decide +kernel
theorem d_M_takeWord_24 : decode b_M_takeWord 24 = .ok (.aload_n 0, 1) := by decide +kernel
theorem d_M_takeWord_25 : decode b_M_takeWord 25 = .ok (.iload_n 2, 1) := by decide +kernel
theorem d_M_takeWord_26 : decode b_M_takeWord 26 = .ok (.putfield 7, 3) := by decide +kernel
theorem d_M_takeWord_29 : decode b_M_takeWord 29 = .ok (.iconst 1, 1) := by decide +kernel
theorem d_M_takeWord_30 : decode b_M_takeWord 30 = .ok (.ireturn, 1) := by decide +kernel
theorem d_M_takeByte_0 : decode b_M_takeByte 0 = .ok (.aload_n 0, 1) := by decide +kernel
theorem d_M_takeByte_1 : decode b_M_takeByte 1 = .ok (.getfield 7, 3) := by decide +kernel
theorem d_M_takeByte_4 : decode b_M_takeByte 4 = .ok (.aload_n 0, 1) := by decide +kernel
theorem d_M_takeByte_5 : decode b_M_takeByte 5 = .ok (.getfield 11, 3) := by decide +kernel
theorem d_M_takeByte_8 : decode b_M_takeByte 8 = .ok (.if_icmp .ge 16, 3) := by decide +kernel
theorem d_M_takeByte_11 : decode b_M_takeByte 11 = .ok (.aload_n 0, 1) := by decide +kernel
theorem d_M_takeByte_12 : decode b_M_takeByte 12 = .ok (.getfield 14, 3) := by decide +kernel
theorem d_M_takeByte_15 : decode b_M_takeByte 15 = .ok (.aload_n 0, 1) := by decide +kernel
theorem d_M_takeByte_16 : decode b_M_takeByte 16 = .ok (.getfield 7, 3) := by decide +kernel
theorem d_M_takeByte_19 : decode b_M_takeByte 19 = .ok (.baload, 1) := by decide +kernel
theorem d_M_takeByte_20 : decode b_M_takeByte 20 = .ok (.iload_n 1, 1) := by decide +kernel
theorem d_M_takeByte_21 : decode b_M_takeByte 21 = .ok (.if_icmp .eq 5, 3) := by decide +kernel
theorem d_M_takeByte_24 : decode b_M_takeByte 24 = .ok (.iconst 0, 1) := by decide +kernel
theorem d_M_takeByte_25 : decode b_M_takeByte 25 = .ok (.ireturn, 1) := by decide +kernel
theorem d_M_takeByte_26 : decode b_M_takeByte 26 = .ok (.aload_n 0, 1) := by decide +kernel
theorem d_M_takeByte_27 : decode b_M_takeByte 27 = .ok (.dup, 1) := by decide +kernel
theorem d_M_takeByte_28 : decode b_M_takeByte 28 = .ok (.getfield 7, 3) := by decide +kernel
theorem d_M_takeByte_31 : decode b_M_takeByte 31 = .ok (.iconst 1, 1) := by decide +kernel
theorem d_M_takeByte_32 : decode b_M_takeByte 32 = .ok (.iadd, 1) := by decide +kernel
theorem d_M_takeByte_33 : decode b_M_takeByte 33 = .ok (.putfield 7, 3) := by decide +kernel
theorem d_M_takeByte_36 : decode b_M_takeByte 36 = .ok (.iconst 1, 1) := by decide +kernel
theorem d_M_takeByte_37 : decode b_M_takeByte 37 = .ok (.ireturn, 1) := by decide +kernel
theorem d_M_isDigit_0 : decode b_M_isDigit 0 = .ok (.iload_n 0, 1) := by decide +kernel
theorem d_M_isDigit_1 : decode b_M_isDigit 1 = .ok (.bipush 48, 2) := by decide +kernel
theorem d_M_isDigit_3 : decode b_M_isDigit 3 = .ok (.if_icmp .lt 13, 3) := by decide +kernel
theorem d_M_isDigit_6 : decode b_M_isDigit 6 = .ok (.iload_n 0, 1) := by decide +kernel
theorem d_M_isDigit_7 : decode b_M_isDigit 7 = .ok (.bipush 57, 2) := by decide +kernel
theorem d_M_isDigit_9 : decode b_M_isDigit 9 = .ok (.if_icmp .gt 7, 3) := by decide +kernel
theorem d_M_isDigit_12 : decode b_M_isDigit 12 = .ok (.iconst 1, 1) := by decide +kernel
theorem d_M_isDigit_13 : decode b_M_isDigit 13 = .ok (.goto 4, 3) := by decide +kernel
theorem d_M_isDigit_16 : decode b_M_isDigit 16 = .ok (.iconst 0, 1) := by decide +kernel
theorem d_M_isDigit_17 : decode b_M_isDigit 17 = .ok (.ireturn, 1) := by decide +kernel
theorem d_M_numberOf_0 : decode b_M_numberOf 0 = .ok (.iload_n 2, 1) := by decide +kernel
theorem d_M_numberOf_1 : decode b_M_numberOf 1 = .ok (.iload_n 1, 1) := by decide +kernel
theorem d_M_numberOf_2 : decode b_M_numberOf 2 = .ok (.isub, 1) := by decide +kernel
theorem d_M_numberOf_3 : decode b_M_numberOf 3 = .ok (.i2l, 1) := by decide +kernel
theorem d_M_numberOf_4 : decode b_M_numberOf 4 = .ok (.lconst 1, 1) := by decide +kernel
theorem d_M_numberOf_5 : decode b_M_numberOf 5 = .ok (.ldc2_w 46, 3) := by decide +kernel
theorem d_M_numberOf_8 : decode b_M_numberOf 8 = .ok (.invokestatic 48, 3) := by decide +kernel
theorem d_M_numberOf_11 : decode b_M_numberOf 11 = .ok (.ifCond .ne 5, 3) := by decide +kernel
theorem d_M_numberOf_14 : decode b_M_numberOf 14 = .ok (.iconst (-1), 1) := by decide +kernel
theorem d_M_numberOf_15 : decode b_M_numberOf 15 = .ok (.ireturn, 1) := by decide +kernel
theorem d_M_numberOf_16 : decode b_M_numberOf 16 = .ok (.iconst 0, 1) := by decide +kernel
theorem d_M_numberOf_17 : decode b_M_numberOf 17 = .ok (.istore_n 3, 1) := by decide +kernel
theorem d_M_numberOf_18 : decode b_M_numberOf 18 = .ok (.iload_n 1, 1) := by decide +kernel
theorem d_M_numberOf_19 : decode b_M_numberOf 19 = .ok (.istore 4, 2) := by decide +kernel
theorem d_M_numberOf_21 : decode b_M_numberOf 21 = .ok (.iload 4, 2) := by decide +kernel
theorem d_M_numberOf_23 : decode b_M_numberOf 23 = .ok (.iload_n 2, 1) := by decide +kernel
theorem d_M_numberOf_24 : decode b_M_numberOf 24 = .ok (.if_icmp .ge 40, 3) := by decide +kernel
theorem d_M_numberOf_27 : decode b_M_numberOf 27 = .ok (.aload_n 0, 1) := by decide +kernel
theorem d_M_numberOf_28 : decode b_M_numberOf 28 = .ok (.getfield 14, 3) := by decide +kernel
theorem d_M_numberOf_31 : decode b_M_numberOf 31 = .ok (.iload 4, 2) := by decide +kernel
theorem d_M_numberOf_33 : decode b_M_numberOf 33 = .ok (.baload, 1) := by decide +kernel
theorem d_M_numberOf_34 : decode b_M_numberOf 34 = .ok (.invokestatic 52, 3) := by decide +kernel
theorem d_M_numberOf_37 : decode b_M_numberOf 37 = .ok (.ifCond .ne 5, 3) := by decide +kernel
theorem d_M_numberOf_40 : decode b_M_numberOf 40 = .ok (.iconst (-1), 1) := by decide +kernel
theorem d_M_numberOf_41 : decode b_M_numberOf 41 = .ok (.ireturn, 1) := by decide +kernel
theorem d_M_numberOf_42 : decode b_M_numberOf 42 = .ok (.bipush 10, 2) := by decide +kernel
theorem d_M_numberOf_44 : decode b_M_numberOf 44 = .ok (.iload_n 3, 1) := by decide +kernel
theorem d_M_numberOf_45 : decode b_M_numberOf 45 = .ok (.imul, 1) := by decide +kernel
theorem d_M_numberOf_46 : decode b_M_numberOf 46 = .ok (.aload_n 0, 1) := by decide +kernel
theorem d_M_numberOf_47 : decode b_M_numberOf 47 = .ok (.getfield 14, 3) := by decide +kernel
theorem d_M_numberOf_50 : decode b_M_numberOf 50 = .ok (.iload 4, 2) := by decide +kernel
theorem d_M_numberOf_52 : decode b_M_numberOf 52 = .ok (.baload, 1) := by decide +kernel
theorem d_M_numberOf_53 : decode b_M_numberOf 53 = .ok (.iadd, 1) := by decide +kernel
theorem d_M_numberOf_54 : decode b_M_numberOf 54 = .ok (.bipush 48, 2) := by decide +kernel
theorem d_M_numberOf_56 : decode b_M_numberOf 56 = .ok (.isub, 1) := by decide +kernel
theorem d_M_numberOf_57 : decode b_M_numberOf 57 = .ok (.istore_n 3, 1) := by decide +kernel
theorem d_M_numberOf_58 : decode b_M_numberOf 58 = .ok (.iinc 4 1, 3) := by decide +kernel
theorem d_M_numberOf_61 : decode b_M_numberOf 61 = .ok (.goto (-40), 3) := by decide +kernel
theorem d_M_numberOf_64 : decode b_M_numberOf 64 = .ok (.iload_n 3, 1) := by decide +kernel
theorem d_M_numberOf_65 : decode b_M_numberOf 65 = .ok (.ireturn, 1) := by decide +kernel
theorem d_M_takeNumber_0 : decode b_M_takeNumber 0 = .ok (.aload_n 0, 1) := by decide +kernel
theorem d_M_takeNumber_1 : decode b_M_takeNumber 1 = .ok (.aload_n 0, 1) := by decide +kernel
theorem d_M_takeNumber_2 : decode b_M_takeNumber 2 = .ok (.getfield 7, 3) := by decide +kernel
theorem d_M_takeNumber_5 : decode b_M_takeNumber 5 = .ok (.invokevirtual 38, 3) := by decide +kernel
theorem d_M_takeNumber_8 : decode b_M_takeNumber 8 = .ok (.istore_n 1, 1) := by decide +kernel
theorem d_M_takeNumber_9 : decode b_M_takeNumber 9 = .ok (.aload_n 0, 1) := by decide +kernel
theorem d_M_takeNumber_10 : decode b_M_takeNumber 10 = .ok (.aload_n 0, 1) := by decide +kernel
theorem d_M_takeNumber_11 : decode b_M_takeNumber 11 = .ok (.getfield 7, 3) := by decide +kernel
theorem d_M_takeNumber_14 : decode b_M_takeNumber 14 = .ok (.iload_n 1, 1) := by decide +kernel
theorem d_M_takeNumber_15 : decode b_M_takeNumber 15 = .ok (.invokevirtual 55, 3) := by decide +kernel
theorem d_M_takeNumber_18 : decode b_M_takeNumber 18 = .ok (.istore_n 2, 1) := by decide +kernel
theorem d_M_takeNumber_19 : decode b_M_takeNumber 19 = .ok (.iload_n 2, 1) := by decide +kernel
theorem d_M_takeNumber_20 : decode b_M_takeNumber 20 = .ok (.ifCond .lt 8, 3) := by decide +kernel
theorem d_M_takeNumber_23 : decode b_M_takeNumber 23 = .ok (.aload_n 0, 1) := by decide +kernel
theorem d_M_takeNumber_24 : decode b_M_takeNumber 24 = .ok (.iload_n 1, 1) := by decide +kernel
theorem d_M_takeNumber_25 : decode b_M_takeNumber 25 = .ok (.putfield 7, 3) := by decide +kernel
theorem d_M_takeNumber_28 : decode b_M_takeNumber 28 = .ok (.iload_n 2, 1) := by decide +kernel
theorem d_M_takeNumber_29 : decode b_M_takeNumber 29 = .ok (.ireturn, 1) := by decide +kernel
theorem d_M_object_0 : decode b_M_object 0 = .ok (.aload_n 0, 1) := by decide +kernel
theorem d_M_object_1 : decode b_M_object 1 = .ok (.invokevirtual 59, 3) := by decide +kernel
theorem d_M_object_4 : decode b_M_object 4 = .ok (.aload_n 0, 1) := by decide +kernel
theorem d_M_object_5 : decode b_M_object 5 = .ok (.getfield 7, 3) := by decide +kernel
theorem d_M_object_8 : decode b_M_object 8 = .ok (.aload_n 0, 1) := by decide +kernel
theorem d_M_object_9 : decode b_M_object 9 = .ok (.getfield 11, 3) := by decide +kernel
theorem d_M_object_12 : decode b_M_object 12 = .ok (.if_icmp .lt 5, 3) := by decide +kernel
theorem d_M_object_15 : decode b_M_object 15 = .ok (.aconst_null, 1) := by decide +kernel
theorem d_M_object_16 : decode b_M_object 16 = .ok (.areturn, 1) := by decide +kernel
theorem d_M_object_17 : decode b_M_object 17 = .ok (.aload_n 0, 1) := by decide +kernel
theorem d_M_object_18 : decode b_M_object 18 = .ok (.getfield 14, 3) := by decide +kernel
theorem d_M_object_21 : decode b_M_object 21 = .ok (.aload_n 0, 1) := by decide +kernel
theorem d_M_object_22 : decode b_M_object 22 = .ok (.getfield 7, 3) := by decide +kernel
theorem d_M_object_25 : decode b_M_object 25 = .ok (.baload, 1) := by decide +kernel
theorem d_M_object_26 : decode b_M_object 26 = .ok (.istore_n 2, 1) := by decide +kernel
theorem d_M_object_27 : decode b_M_object 27 = .ok (.iload_n 2, 1) := by decide +kernel
theorem d_M_object_28 : decode b_M_object 28 = .ok (.bipush 47, 2) := by decide +kernel
theorem d_M_object_30 : decode b_M_object 30 = .ok (.if_icmp .ne 8, 3) := by decide +kernel
theorem d_M_object_33 : decode b_M_object 33 = .ok (.aload_n 0, 1) := by decide +kernel
theorem d_M_object_34 : decode b_M_object 34 = .ok (.invokevirtual 63, 3) := by decide +kernel
theorem d_M_object_37 : decode b_M_object 37 = .ok (.areturn, 1) := by decide +kernel
theorem d_M_object_38 : decode b_M_object 38 = .ok (.iload_n 2, 1) := by decide +kernel
theorem d_M_object_39 : decode b_M_object 39 = .ok (.bipush 40, 2) := by decide +kernel
theorem d_M_object_41 : decode b_M_object 41 = .ok (.if_icmp .ne 8, 3) := by decide +kernel
theorem d_M_object_44 : decode b_M_object 44 = .ok (.aload_n 0, 1) := by decide +kernel
theorem d_M_object_45 : decode b_M_object 45 = .ok (.invokevirtual 67, 3) := by decide +kernel
theorem d_M_object_48 : decode b_M_object 48 = .ok (.areturn, 1) := by decide +kernel
theorem d_M_object_49 : decode b_M_object 49 = .ok (.iload_n 2, 1) := by decide +kernel
theorem d_M_object_50 : decode b_M_object 50 = .ok (.bipush 91, 2) := by decide +kernel
theorem d_M_object_52 : decode b_M_object 52 = .ok (.if_icmp .ne 9, 3) := by decide +kernel
theorem d_M_object_55 : decode b_M_object 55 = .ok (.aload_n 0, 1) := by decide +kernel
theorem d_M_object_56 : decode b_M_object 56 = .ok (.iload_n 1, 1) := by decide +kernel
theorem d_M_object_57 : decode b_M_object 57 = .ok (.invokevirtual 70, 3) := by decide +kernel
theorem d_M_object_60 : decode b_M_object 60 = .ok (.areturn, 1) := by decide +kernel
theorem d_M_object_61 : decode b_M_object 61 = .ok (.iload_n 2, 1) := by decide +kernel
theorem d_M_object_62 : decode b_M_object 62 = .ok (.bipush 60, 2) := by decide +kernel
theorem d_M_object_64 : decode b_M_object 64 = .ok (.if_icmp .ne 45, 3) := by decide +kernel
theorem d_M_object_67 : decode b_M_object 67 = .ok (.aload_n 0, 1) := by decide +kernel
theorem d_M_object_68 : decode b_M_object 68 = .ok (.getfield 7, 3) := by decide +kernel
theorem d_M_object_71 : decode b_M_object 71 = .ok (.iconst 1, 1) := by decide +kernel
theorem d_M_object_72 : decode b_M_object 72 = .ok (.iadd, 1) := by decide +kernel
theorem d_M_object_73 : decode b_M_object 73 = .ok (.aload_n 0, 1) := by decide +kernel
theorem d_M_object_74 : decode b_M_object 74 = .ok (.getfield 11, 3) := by decide +kernel
theorem d_M_object_77 : decode b_M_object 77 = .ok (.if_icmp .ge 27, 3) := by decide +kernel
theorem d_M_object_80 : decode b_M_object 80 = .ok (.aload_n 0, 1) := by decide +kernel
theorem d_M_object_81 : decode b_M_object 81 = .ok (.getfield 14, 3) := by decide +kernel
theorem d_M_object_84 : decode b_M_object 84 = .ok (.aload_n 0, 1) := by decide +kernel
theorem d_M_object_85 : decode b_M_object 85 = .ok (.getfield 7, 3) := by decide +kernel
theorem d_M_object_88 : decode b_M_object 88 = .ok (.iconst 1, 1) := by decide +kernel
theorem d_M_object_89 : decode b_M_object 89 = .ok (.iadd, 1) := by decide +kernel
theorem d_M_object_90 : decode b_M_object 90 = .ok (.baload, 1) := by decide +kernel
theorem d_M_object_91 : decode b_M_object 91 = .ok (.bipush 60, 2) := by decide +kernel
theorem d_M_object_93 : decode b_M_object 93 = .ok (.if_icmp .ne 11, 3) := by decide +kernel
theorem d_M_object_96 : decode b_M_object 96 = .ok (.aload_n 0, 1) := by decide +kernel
theorem d_M_object_97 : decode b_M_object 97 = .ok (.iload_n 1, 1) := by decide +kernel
theorem d_M_object_98 : decode b_M_object 98 = .ok (.invokevirtual 74, 3) := by decide +kernel
theorem d_M_object_101 : decode b_M_object 101 = .ok (.goto 7, 3) := by decide +kernel
theorem d_M_object_104 : decode b_M_object 104 = .ok (.aload_n 0, 1) := by decide +kernel
theorem d_M_object_105 : decode b_M_object 105 = .ok (.invokevirtual 77, 3) := by decide +kernel
theorem d_M_object_108 : decode b_M_object 108 = .ok (.areturn, 1) := by decide +kernel
theorem d_M_object_109 : decode b_M_object 109 = .ok (.aload_n 0, 1) := by decide +kernel
theorem d_M_object_110 : decode b_M_object 110 = .ok (.getfield 7, 3) := by decide +kernel
theorem d_M_object_113 : decode b_M_object 113 = .ok (.istore_n 3, 1) := by decide +kernel
theorem d_M_object_114 : decode b_M_object 114 = .ok (.aload_n 0, 1) := by decide +kernel
theorem d_M_object_115 : decode b_M_object 115 = .ok (.aload_n 0, 1) := by decide +kernel
theorem d_M_object_116 : decode b_M_object 116 = .ok (.getfield 7, 3) := by decide +kernel
theorem d_M_object_119 : decode b_M_object 119 = .ok (.invokevirtual 38, 3) := by decide +kernel
theorem d_M_object_122 : decode b_M_object 122 = .ok (.istore 4, 2) := by decide +kernel
theorem d_M_object_124 : decode b_M_object 124 = .ok (.aload_n 0, 1) := by decide +kernel
theorem d_M_object_125 : decode b_M_object 125 = .ok (.iload 4, 2) := by decide +kernel
theorem d_M_object_127 : decode b_M_object 127 = .ok (.putfield 7, 3) := by decide +kernel
theorem d_M_object_130 : decode b_M_object 130 = .ok (.aload_n 0, 1) := by decide +kernel
theorem d_M_object_131 : decode b_M_object 131 = .ok (.iload_n 3, 1) := by decide +kernel
theorem d_M_object_132 : decode b_M_object 132 = .ok (.iload 4, 2) := by decide +kernel
theorem d_M_object_134 : decode b_M_object 134 = .ok (.ldc 80, 2) := by decide +kernel
theorem d_M_object_136 : decode b_M_object 136 = .ok (.invokevirtual 42, 3) := by decide +kernel
theorem d_M_object_139 : decode b_M_object 139 = .ok (.ifCond .eq 12, 3) := by decide +kernel
theorem d_M_object_142 : decode b_M_object 142 = .ok (.new 82, 3) := by decide +kernel
theorem d_M_object_145 : decode b_M_object 145 = .ok (.dup, 1) := by decide +kernel
theorem d_M_object_146 : decode b_M_object 146 = .ok (.iconst 0, 1) := by decide +kernel
theorem d_M_object_147 : decode b_M_object 147 = .ok (.invokespecial 84, 3) := by decide +kernel
theorem d_M_object_150 : decode b_M_object 150 = .ok (.areturn, 1) := by decide +kernel
theorem d_M_object_151 : decode b_M_object 151 = .ok (.aload_n 0, 1) := by decide +kernel
theorem d_M_object_152 : decode b_M_object 152 = .ok (.iload_n 3, 1) := by decide +kernel
theorem d_M_object_153 : decode b_M_object 153 = .ok (.iload 4, 2) := by decide +kernel
theorem d_M_object_155 : decode b_M_object 155 = .ok (.ldc 88, 2) := by decide +kernel
theorem d_M_object_157 : decode b_M_object 157 = .ok (.invokevirtual 42, 3) := by decide +kernel
theorem d_M_object_160 : decode b_M_object 160 = .ok (.ifCond .eq 12, 3) := by decide +kernel
theorem d_M_object_163 : decode b_M_object 163 = .ok (.new 82, 3) := by decide +kernel
theorem d_M_object_166 : decode b_M_object 166 = .ok (.dup, 1) := by decide +kernel
theorem d_M_object_167 : decode b_M_object 167 = .ok (.iconst 1, 1) := by decide +kernel
theorem d_M_object_168 : decode b_M_object 168 = .ok (.invokespecial 84, 3) := by decide +kernel
theorem d_M_object_171 : decode b_M_object 171 = .ok (.areturn, 1) := by decide +kernel
theorem d_M_object_172 : decode b_M_object 172 = .ok (.aload_n 0, 1) := by decide +kernel
theorem d_M_object_173 : decode b_M_object 173 = .ok (.iload_n 3, 1) := by decide +kernel
theorem d_M_object_174 : decode b_M_object 174 = .ok (.iload 4, 2) := by decide +kernel
theorem d_M_object_176 : decode b_M_object 176 = .ok (.ldc 90, 2) := by decide +kernel
theorem d_M_object_178 : decode b_M_object 178 = .ok (.invokevirtual 42, 3) := by decide +kernel
theorem d_M_object_181 : decode b_M_object 181 = .ok (.ifCond .eq 12, 3) := by decide +kernel
theorem d_M_object_184 : decode b_M_object 184 = .ok (.new 82, 3) := by decide +kernel
theorem d_M_object_187 : decode b_M_object 187 = .ok (.dup, 1) := by decide +kernel
theorem d_M_object_188 : decode b_M_object 188 = .ok (.iconst 2, 1) := by decide +kernel
theorem d_M_object_189 : decode b_M_object 189 = .ok (.invokespecial 84, 3) := by decide +kernel
theorem d_M_object_192 : decode b_M_object 192 = .ok (.areturn, 1) := by decide +kernel
theorem d_M_object_193 : decode b_M_object 193 = .ok (.iload_n 3, 1) := by decide +kernel
theorem d_M_object_194 : decode b_M_object 194 = .ok (.iload 4, 2) := by decide +kernel
theorem d_M_object_196 : decode b_M_object 196 = .ok (.if_icmp .ge 18, 3) := by decide +kernel
theorem d_M_object_199 : decode b_M_object 199 = .ok (.aload_n 0, 1) := by decide +kernel
theorem d_M_object_200 : decode b_M_object 200 = .ok (.getfield 14, 3) := by decide +kernel
theorem d_M_object_203 : decode b_M_object 203 = .ok (.iload_n 3, 1) := by decide +kernel
theorem d_M_object_204 : decode b_M_object 204 = .ok (.baload, 1) := by decide +kernel
theorem d_M_object_205 : decode b_M_object 205 = .ok (.bipush 45, 2) := by decide +kernel
theorem d_M_object_207 : decode b_M_object 207 = .ok (.if_icmp .ne 7, 3) := by decide +kernel
theorem d_M_object_210 : decode b_M_object 210 = .ok (.iconst 1, 1) := by decide +kernel
theorem d_M_object_211 : decode b_M_object 211 = .ok (.goto 4, 3) := by decide +kernel
theorem d_M_object_214 : decode b_M_object 214 = .ok (.iconst 0, 1) := by decide +kernel
theorem d_M_object_215 : decode b_M_object 215 = .ok (.istore 5, 2) := by decide +kernel
theorem d_M_object_217 : decode b_M_object 217 = .ok (.aload_n 0, 1) := by decide +kernel
theorem d_M_object_218 : decode b_M_object 218 = .ok (.iload 5, 2) := by decide +kernel
theorem d_M_object_220 : decode b_M_object 220 = .ok (.ifCond .eq 9, 3) := by decide +kernel
theorem d_M_object_223 : decode b_M_object 223 = .ok (.iload_n 3, 1) := by decide +kernel
theorem d_M_object_224 : decode b_M_object 224 = .ok (.iconst 1, 1) := by decide +kernel
theorem d_M_object_225 : decode b_M_object 225 = .ok (.iadd, 1) := by decide +kernel
theorem d_M_object_226 : decode b_M_object 226 = .ok (.goto 4, 3) := by decide +kernel
theorem d_M_object_229 : decode b_M_object 229 = .ok (.iload_n 3, 1) := by decide +kernel
theorem d_M_object_230 : decode b_M_object 230 = .ok (.iload 4, 2) := by decide +kernel
theorem d_M_object_232 : decode b_M_object 232 = .ok (.invokevirtual 55, 3) := by decide +kernel
theorem d_M_object_235 : decode b_M_object 235 = .ok (.istore 6, 2) := by decide +kernel
theorem d_M_object_237 : decode b_M_object 237 = .ok (.iload 6, 2) := by decide +kernel
theorem d_M_object_239 : decode b_M_object 239 = .ok (.ifCond .ge 5, 3) := by decide +kernel
theorem d_M_object_242 : decode b_M_object 242 = .ok (.aconst_null, 1) := by decide +kernel
theorem d_M_object_243 : decode b_M_object 243 = .ok (.areturn, 1) := by decide +kernel
theorem d_M_object_244 : decode b_M_object 244 = .ok (.iload 5, 2) := by decide +kernel
theorem d_M_object_246 : decode b_M_object 246 = .ok (.ifCond .eq 7, 3) := by decide +kernel
theorem d_M_object_249 : decode b_M_object 249 = .ok (.aconst_null, 1) := by decide +kernel
theorem d_M_object_250 : decode b_M_object 250 = .ok (.goto 9, 3) := by decide +kernel
theorem d_M_object_253 : decode b_M_object 253 = .ok (.aload_n 0, 1) := by decide +kernel
theorem d_M_object_254 : decode b_M_object 254 = .ok (.iload 6, 2) := by decide +kernel
theorem d_M_object_256 : decode b_M_object 256 = .ok (.invokevirtual 92, 3) := by decide +kernel
theorem d_M_object_259 : decode b_M_object 259 = .ok (.astore 7, 2) := by decide +kernel
theorem d_M_object_261 : decode b_M_object 261 = .ok (.aload 7, 2) := by decide +kernel
theorem d_M_object_263 : decode b_M_object 263 = .ok (.ifnull 6, 3) := by decide +kernel
theorem d_M_object_266 : decode b_M_object 266 = .ok (.aload 7, 2) := by decide +kernel
theorem d_M_object_268 : decode b_M_object 268 = .ok (.areturn, 1) := by decide +kernel
theorem d_M_object_269 : decode b_M_object 269 = .ok (.aload_n 0, 1) := by decide +kernel
theorem d_M_object_270 : decode b_M_object 270 = .ok (.iload 4, 2) := by decide +kernel
theorem d_M_object_272 : decode b_M_object 272 = .ok (.putfield 7, 3) := by decide +kernel
theorem d_M_object_275 : decode b_M_object 275 = .ok (.new 82, 3) := by decide +kernel
theorem d_M_object_278 : decode b_M_object 278 = .ok (.dup, 1) := by decide +kernel
theorem d_M_object_279 : decode b_M_object 279 = .ok (.iconst 3, 1) := by decide +kernel
theorem d_M_object_280 : decode b_M_object 280 = .ok (.invokespecial 84, 3) := by decide +kernel
theorem d_M_object_283 : decode b_M_object 283 = .ok (.astore 8, 2) := by decide +kernel
theorem d_M_object_285 : decode b_M_object 285 = .ok (.aload 8, 2) := by decide +kernel
theorem d_M_object_287 : decode b_M_object 287 = .ok (.iload 5, 2) := by decide +kernel
theorem d_M_object_289 : decode b_M_object 289 = .ok (.ifCond .eq 9, 3) := by decide +kernel
theorem d_M_object_292 : decode b_M_object 292 = .ok (.iload 6, 2) := by decide +kernel
theorem d_M_object_294 : decode b_M_object 294 = .ok (.ineg, 1) := by decide +kernel
theorem d_M_object_295 : decode b_M_object 295 = .ok (.goto 5, 3) := by decide +kernel
theorem d_M_object_298 : decode b_M_object 298 = .ok (.iload 6, 2) := by decide +kernel
theorem d_M_object_300 : decode b_M_object 300 = .ok (.putfield 95, 3) := by decide +kernel
theorem d_M_object_303 : decode b_M_object 303 = .ok (.aload 8, 2) := by decide +kernel
theorem d_M_object_305 : decode b_M_object 305 = .ok (.areturn, 1) := by decide +kernel
theorem d_M_reference_0 : decode b_M_reference 0 = .ok (.aload_n 0, 1) := by decide +kernel
theorem d_M_reference_1 : decode b_M_reference 1 = .ok (.invokevirtual 59, 3) := by decide +kernel
theorem d_M_reference_4 : decode b_M_reference 4 = .ok (.aload_n 0, 1) := by decide +kernel
theorem d_M_reference_5 : decode b_M_reference 5 = .ok (.invokevirtual 98, 3) := by decide +kernel
theorem d_M_reference_8 : decode b_M_reference 8 = .ok (.istore_n 2, 1) := by decide +kernel
theorem d_M_reference_9 : decode b_M_reference 9 = .ok (.iload_n 2, 1) := by decide +kernel
theorem d_M_reference_10 : decode b_M_reference 10 = .ok (.ifCond .ge 5, 3) := by decide +kernel
theorem d_M_reference_13 : decode b_M_reference 13 = .ok (.aconst_null, 1) := by decide +kernel
theorem d_M_reference_14 : decode b_M_reference 14 = .ok (.areturn, 1) := by decide +kernel
theorem d_M_reference_15 : decode b_M_reference 15 = .ok (.aload_n 0, 1) := by decide +kernel
theorem d_M_reference_16 : decode b_M_reference 16 = .ok (.getfield 7, 3) := by decide +kernel
theorem d_M_reference_19 : decode b_M_reference 19 = .ok (.istore_n 3, 1) := by decide +kernel
theorem d_M_reference_20 : decode b_M_reference 20 = .ok (.aload_n 0, 1) := by decide +kernel
theorem d_M_reference_21 : decode b_M_reference 21 = .ok (.invokevirtual 59, 3) := by decide +kernel
theorem d_M_reference_24 : decode b_M_reference 24 = .ok (.aload_n 0, 1) := by decide +kernel
theorem d_M_reference_25 : decode b_M_reference 25 = .ok (.getfield 7, 3) := by decide +kernel
theorem d_M_reference_28 : decode b_M_reference 28 = .ok (.iload_n 3, 1) := by decide +kernel
theorem d_M_reference_29 : decode b_M_reference 29 = .ok (.if_icmp .eq 25, 3) := by decide +kernel
theorem d_M_reference_32 : decode b_M_reference 32 = .ok (.aload_n 0, 1) := by decide +kernel
theorem d_M_reference_33 : decode b_M_reference 33 = .ok (.ldc 101, 2) := by decide +kernel
theorem d_M_reference_35 : decode b_M_reference 35 = .ok (.invokevirtual 103, 3) := by decide +kernel
theorem d_M_reference_38 : decode b_M_reference 38 = .ok (.ifCond .eq 16, 3) := by decide +kernel
theorem d_M_reference_41 : decode b_M_reference 41 = .ok (.iload_n 1, 1) := by decide +kernel
theorem d_M_reference_42 : decode b_M_reference 42 = .ok (.sipush 300, 3) := by decide +kernel
theorem d_M_reference_45 : decode b_M_reference 45 = .ok (.if_icmp .ge 9, 3) := by decide +kernel
theorem d_M_reference_48 : decode b_M_reference 48 = .ok (.iload_n 2, 1) := by decide +kernel
theorem d_M_reference_49 : decode b_M_reference 49 = .ok (.ldc 107, 2) := by decide +kernel
theorem d_M_reference_51 : decode b_M_reference 51 = .ok (.if_icmp .le 5, 3) := by decide +kernel
theorem d_M_reference_54 : decode b_M_reference 54 = .ok (.aconst_null, 1) := by decide +kernel
theorem d_M_reference_55 : decode b_M_reference 55 = .ok (.areturn, 1) := by decide +kernel
theorem d_M_reference_56 : decode b_M_reference 56 = .ok (.new 82, 3) := by decide +kernel
theorem d_M_reference_59 : decode b_M_reference 59 = .ok (.dup, 1) := by decide +kernel
theorem d_M_reference_60 : decode b_M_reference 60 = .ok (.bipush 8, 2) := by decide +kernel
theorem d_M_reference_62 : decode b_M_reference 62 = .ok (.invokespecial 84, 3) := by decide +kernel
theorem d_M_reference_65 : decode b_M_reference 65 = .ok (.astore 4, 2) := by decide +kernel
theorem d_M_reference_67 : decode b_M_reference 67 = .ok (.aload 4, 2) := by decide +kernel
theorem d_M_reference_69 : decode b_M_reference 69 = .ok (.iload_n 1, 1) := by decide +kernel
theorem d_M_reference_70 : decode b_M_reference 70 = .ok (.putfield 95, 3) := by decide +kernel
theorem d_M_reference_73 : decode b_M_reference 73 = .ok (.aload 4, 2) := by decide +kernel
theorem d_M_reference_75 : decode b_M_reference 75 = .ok (.iload_n 2, 1) := by decide +kernel
theorem d_M_reference_76 : decode b_M_reference 76 = .ok (.putfield 108, 3) := by decide +kernel
theorem d_M_reference_79 : decode b_M_reference 79 = .ok (.aload 4, 2) := by decide +kernel
theorem d_M_reference_81 : decode b_M_reference 81 = .ok (.areturn, 1) := by decide +kernel
theorem d_M_name_0 : decode b_M_name 0 = .ok (.aload_n 0, 1) := by decide +kernel
theorem d_M_name_1 : decode b_M_name 1 = .ok (.aload_n 0, 1) := by decide +kernel
theorem d_M_name_2 : decode b_M_name 2 = .ok (.getfield 7, 3) := by decide +kernel
theorem d_M_name_5 : decode b_M_name 5 = .ok (.iconst 1, 1) := by decide +kernel
theorem d_M_name_6 : decode b_M_name 6 = .ok (.iadd, 1) := by decide +kernel
theorem d_M_name_7 : decode b_M_name 7 = .ok (.invokevirtual 38, 3) := by decide +kernel
theorem d_M_name_10 : decode b_M_name 10 = .ok (.istore_n 1, 1) := by decide +kernel
theorem d_M_name_11 : decode b_M_name 11 = .ok (.iload_n 1, 1) := by decide +kernel
theorem d_M_name_12 : decode b_M_name 12 = .ok (.aload_n 0, 1) := by decide +kernel
theorem d_M_name_13 : decode b_M_name 13 = .ok (.getfield 7, 3) := by decide +kernel
theorem d_M_name_16 : decode b_M_name 16 = .ok (.isub, 1) := by decide +kernel
theorem d_M_name_17 : decode b_M_name 17 = .ok (.iconst 1, 1) := by decide +kernel
theorem d_M_name_18 : decode b_M_name 18 = .ok (.isub, 1) := by decide +kernel
theorem d_M_name_19 : decode b_M_name 19 = .ok (.i2l, 1) := by decide +kernel
theorem d_M_name_20 : decode b_M_name 20 = .ok (.lconst 1, 1) := by decide +kernel
theorem d_M_name_21 : decode b_M_name 21 = .ok (.ldc2_w 111, 3) := by decide +kernel
theorem d_M_name_24 : decode b_M_name 24 = .ok (.invokestatic 48, 3) := by decide +kernel
theorem d_M_name_27 : decode b_M_name 27 = .ok (.ifCond .ne 5, 3) := by decide +kernel
theorem d_M_name_30 : decode b_M_name 30 = .ok (.aconst_null, 1) := by decide +kernel
theorem d_M_name_31 : decode b_M_name 31 = .ok (.areturn, 1) := by decide +kernel
theorem d_M_name_32 : decode b_M_name 32 = .ok (.new 82, 3) := by decide +kernel
theorem d_M_name_35 : decode b_M_name 35 = .ok (.dup, 1) := by decide +kernel
theorem d_M_name_36 : decode b_M_name 36 = .ok (.iconst 4, 1) := by decide +kernel
theorem d_M_name_37 : decode b_M_name 37 = .ok (.invokespecial 84, 3) := by decide +kernel
theorem d_M_name_40 : decode b_M_name 40 = .ok (.astore_n 2, 1) := by decide +kernel
theorem d_M_name_41 : decode b_M_name 41 = .ok (.aload_n 2, 1) := by decide +kernel
theorem d_M_name_42 : decode b_M_name 42 = .ok (.aload_n 0, 1) := by decide +kernel
theorem d_M_name_43 : decode b_M_name 43 = .ok (.getfield 14, 3) := by decide +kernel
theorem d_M_name_46 : decode b_M_name 46 = .ok (.aload_n 0, 1) := by decide +kernel
theorem d_M_name_47 : decode b_M_name 47 = .ok (.getfield 7, 3) := by decide +kernel
theorem d_M_name_50 : decode b_M_name 50 = .ok (.iconst 1, 1) := by decide +kernel
theorem d_M_name_51 : decode b_M_name 51 = .ok (.iadd, 1) := by decide +kernel
theorem d_M_name_52 : decode b_M_name 52 = .ok (.iload_n 1, 1) := by decide +kernel
theorem d_M_name_53 : decode b_M_name 53 = .ok (.invokestatic 113, 3) := by decide +kernel
theorem d_M_name_56 : decode b_M_name 56 = .ok (.putfield 119, 3) := by decide +kernel
theorem d_M_name_59 : decode b_M_name 59 = .ok (.aload_n 0, 1) := by decide +kernel
theorem d_M_name_60 : decode b_M_name 60 = .ok (.iload_n 1, 1) := by decide +kernel
theorem d_M_name_61 : decode b_M_name 61 = .ok (.putfield 7, 3) := by decide +kernel
theorem d_M_name_64 : decode b_M_name 64 = .ok (.aload_n 2, 1) := by decide +kernel
theorem d_M_name_65 : decode b_M_name 65 = .ok (.areturn, 1) := by decide +kernel
theorem d_M_ofBytes_0 : decode b_M_ofBytes 0 = .ok (.new 82, 3) := by decide +kernel
theorem d_M_ofBytes_3 : decode b_M_ofBytes 3 = .ok (.dup, 1) := by decide +kernel
theorem d_M_ofBytes_4 : decode b_M_ofBytes 4 = .ok (.iconst 5, 1) := by decide +kernel
theorem d_M_ofBytes_5 : decode b_M_ofBytes 5 = .ok (.invokespecial 84, 3) := by decide +kernel
theorem d_M_ofBytes_8 : decode b_M_ofBytes 8 = .ok (.astore_n 2, 1) := by decide +kernel
theorem d_M_ofBytes_9 : decode b_M_ofBytes 9 = .ok (.aload_n 2, 1) := by decide +kernel
theorem d_M_ofBytes_10 : decode b_M_ofBytes 10 = .ok (.aload_n 0, 1) := by decide +kernel
theorem d_M_ofBytes_11 : decode b_M_ofBytes 11 = .ok (.getfield 122, 3) := by decide +kernel
theorem d_M_ofBytes_14 : decode b_M_ofBytes 14 = .ok (.iload_n 1, 1) := by decide +kernel
theorem d_M_ofBytes_15 : decode b_M_ofBytes 15 = .ok (.invokestatic 125, 3) := by decide +kernel
theorem d_M_ofBytes_18 : decode b_M_ofBytes 18 = .ok (.putfield 119, 3) := by decide +kernel
theorem d_M_ofBytes_21 : decode b_M_ofBytes 21 = .ok (.aload_n 2, 1) := by decide +kernel
theorem d_M_ofBytes_22 : decode b_M_ofBytes 22 = .ok (.areturn, 1) := by decide +kernel
theorem d_M_string_0 : decode b_M_string 0 = .ok (.aload_n 0, 1) := by decide +kernel
theorem d_M_string_1 : decode b_M_string 1 = .ok (.dup, 1) := by decide +kernel
theorem d_M_string_2 : decode b_M_string 2 = .ok (.getfield 7, 3) := by decide +kernel
theorem d_M_string_5 : decode b_M_string 5 = .ok (.iconst 1, 1) := by decide +kernel
theorem d_M_string_6 : decode b_M_string 6 = .ok (.iadd, 1) := by decide +kernel
theorem d_M_string_7 : decode b_M_string 7 = .ok (.putfield 7, 3) := by decide +kernel
theorem d_M_string_10 : decode b_M_string 10 = .ok (.iconst 0, 1) := by decide +kernel
theorem d_M_string_11 : decode b_M_string 11 = .ok (.istore_n 1, 1) := by decide +kernel
theorem d_M_string_12 : decode b_M_string 12 = .ok (.aload_n 0, 1) := by decide +kernel
theorem d_M_string_13 : decode b_M_string 13 = .ok (.getfield 7, 3) := by decide +kernel
theorem d_M_string_16 : decode b_M_string 16 = .ok (.aload_n 0, 1) := by decide +kernel
theorem d_M_string_17 : decode b_M_string 17 = .ok (.getfield 11, 3) := by decide +kernel
theorem d_M_string_20 : decode b_M_string 20 = .ok (.if_icmp .ge 82, 3) := by decide +kernel
theorem d_M_string_23 : decode b_M_string 23 = .ok (.aload_n 0, 1) := by decide +kernel
theorem d_M_string_24 : decode b_M_string 24 = .ok (.getfield 14, 3) := by decide +kernel
theorem d_M_string_27 : decode b_M_string 27 = .ok (.aload_n 0, 1) := by decide +kernel
theorem d_M_string_28 : decode b_M_string 28 = .ok (.getfield 7, 3) := by decide +kernel
theorem d_M_string_31 : decode b_M_string 31 = .ok (.baload, 1) := by decide +kernel
theorem d_M_string_32 : decode b_M_string 32 = .ok (.bipush 41, 2) := by decide +kernel
theorem d_M_string_34 : decode b_M_string 34 = .ok (.if_icmp .eq 68, 3) := by decide +kernel
theorem d_M_string_37 : decode b_M_string 37 = .ok (.aload_n 0, 1) := by decide +kernel
theorem d_M_string_38 : decode b_M_string 38 = .ok (.getfield 14, 3) := by decide +kernel
theorem d_M_string_41 : decode b_M_string 41 = .ok (.aload_n 0, 1) := by decide +kernel
theorem d_M_string_42 : decode b_M_string 42 = .ok (.getfield 7, 3) := by decide +kernel
theorem d_M_string_45 : decode b_M_string 45 = .ok (.baload, 1) := by decide +kernel
theorem d_M_string_46 : decode b_M_string 46 = .ok (.istore_n 2, 1) := by decide +kernel
theorem d_M_string_47 : decode b_M_string 47 = .ok (.iload_n 2, 1) := by decide +kernel
theorem d_M_string_48 : decode b_M_string 48 = .ok (.bipush 40, 2) := by decide +kernel
theorem d_M_string_50 : decode b_M_string 50 = .ok (.if_icmp .eq 9, 3) := by decide +kernel
theorem d_M_string_53 : decode b_M_string 53 = .ok (.iload_n 1, 1) := by decide +kernel
theorem d_M_string_54 : decode b_M_string 54 = .ok (.bipush 100, 2) := by decide +kernel
theorem d_M_string_56 : decode b_M_string 56 = .ok (.if_icmp .ne 5, 3) := by decide +kernel
theorem d_M_string_59 : decode b_M_string 59 = .ok (.aconst_null, 1) := by decide +kernel
theorem d_M_string_60 : decode b_M_string 60 = .ok (.areturn, 1) := by decide +kernel
theorem d_M_string_61 : decode b_M_string 61 = .ok (.aload_n 0, 1) := by decide +kernel
theorem d_M_string_62 : decode b_M_string 62 = .ok (.dup, 1) := by decide +kernel
theorem d_M_string_63 : decode b_M_string 63 = .ok (.getfield 7, 3) := by decide +kernel
theorem d_M_string_66 : decode b_M_string 66 = .ok (.iconst 1, 1) := by decide +kernel
theorem d_M_string_67 : decode b_M_string 67 = .ok (.iadd, 1) := by decide +kernel
theorem d_M_string_68 : decode b_M_string 68 = .ok (.putfield 7, 3) := by decide +kernel
theorem d_M_string_71 : decode b_M_string 71 = .ok (.iload_n 2, 1) := by decide +kernel
theorem d_M_string_72 : decode b_M_string 72 = .ok (.bipush 92, 2) := by decide +kernel
theorem d_M_string_74 : decode b_M_string 74 = .ok (.if_icmp .ne 14, 3) := by decide +kernel
theorem d_M_string_77 : decode b_M_string 77 = .ok (.aload_n 0, 1) := by decide +kernel
theorem d_M_string_78 : decode b_M_string 78 = .ok (.invokevirtual 129, 3) := by decide +kernel
theorem d_M_string_81 : decode b_M_string 81 = .ok (.istore_n 2, 1) := by decide +kernel
theorem d_M_string_82 : decode b_M_string 82 = .ok (.iload_n 2, 1) := by decide +kernel
theorem d_M_string_83 : decode b_M_string 83 = .ok (.ifCond .ge 5, 3) := by decide +kernel
theorem d_M_string_86 : decode b_M_string 86 = .ok (.aconst_null, 1) := by decide +kernel
theorem d_M_string_87 : decode b_M_string 87 = .ok (.areturn, 1) := by decide +kernel
theorem d_M_string_88 : decode b_M_string 88 = .ok (.aload_n 0, 1) := by decide +kernel
theorem d_M_string_89 : decode b_M_string 89 = .ok (.getfield 122, 3) := by decide +kernel
theorem d_M_string_92 : decode b_M_string 92 = .ok (.iload_n 1, 1) := by decide +kernel
theorem d_M_string_93 : decode b_M_string 93 = .ok (.iload_n 2, 1) := by decide +kernel
theorem d_M_string_94 : decode b_M_string 94 = .ok (.i2b, 1) := by decide +kernel
theorem d_M_string_95 : decode b_M_string 95 = .ok (.bastore, 1) := by decide +kernel
theorem d_M_string_96 : decode b_M_string 96 = .ok (.iinc 1 1, 3) := by decide +kernel
theorem d_M_string_99 : decode b_M_string 99 = .ok (.goto (-87), 3) := by decide +kernel
theorem d_M_string_102 : decode b_M_string 102 = .ok (.aload_n 0, 1) := by decide +kernel
theorem d_M_string_103 : decode b_M_string 103 = .ok (.bipush 41, 2) := by decide +kernel
theorem d_M_string_105 : decode b_M_string 105 = .ok (.invokevirtual 132, 3) := by decide +kernel
theorem d_M_string_108 : decode b_M_string 108 = .ok (.ifCond .eq 11, 3) := by decide +kernel
theorem d_M_string_111 : decode b_M_string 111 = .ok (.aload_n 0, 1) := by decide +kernel
theorem d_M_string_112 : decode b_M_string 112 = .ok (.iload_n 1, 1) := by decide +kernel
theorem d_M_string_113 : decode b_M_string 113 = .ok (.invokevirtual 135, 3) := by decide +kernel
theorem d_M_string_116 : decode b_M_string 116 = .ok (.goto 4, 3) := by decide +kernel
theorem d_M_string_119 : decode b_M_string 119 = .ok (.aconst_null, 1) := by decide +kernel
theorem d_M_string_120 : decode b_M_string 120 = .ok (.areturn, 1) := by decide +kernel
theorem d_M_escaped_0 : decode b_M_escaped 0 = .ok (.aload_n 0, 1) := by decide +kernel
theorem d_M_escaped_1 : decode b_M_escaped 1 = .ok (.getfield 7, 3) := by decide +kernel
theorem d_M_escaped_4 : decode b_M_escaped 4 = .ok (.aload_n 0, 1) := by decide +kernel
theorem d_M_escaped_5 : decode b_M_escaped 5 = .ok (.getfield 11, 3) := by decide +kernel
theorem d_M_escaped_8 : decode b_M_escaped 8 = .ok (.if_icmp .ge 67, 3) := by decide +kernel
theorem d_M_escaped_11 : decode b_M_escaped 11 = .ok (.aload_n 0, 1) := by decide +kernel
theorem d_M_escaped_12 : decode b_M_escaped 12 = .ok (.getfield 14, 3) := by decide +kernel
theorem d_M_escaped_15 : decode b_M_escaped 15 = .ok (.aload_n 0, 1) := by decide +kernel
theorem d_M_escaped_16 : decode b_M_escaped 16 = .ok (.getfield 7, 3) := by decide +kernel
theorem d_M_escaped_19 : decode b_M_escaped 19 = .ok (.baload, 1) := by decide +kernel
theorem d_M_escaped_20 : decode b_M_escaped 20 = .ok (.bipush 40, 2) := by decide +kernel
theorem d_M_escaped_22 : decode b_M_escaped 22 = .ok (.if_icmp .eq 31, 3) := by decide +kernel
theorem d_M_escaped_25 : decode b_M_escaped 25 = .ok (.aload_n 0, 1) := by decide +kernel
theorem d_M_escaped_26 : decode b_M_escaped 26 = .ok (.getfield 14, 3) := by decide +kernel
theorem d_M_escaped_29 : decode b_M_escaped 29 = .ok (.aload_n 0, 1) := by decide +kernel
theorem d_M_escaped_30 : decode b_M_escaped 30 = .ok (.getfield 7, 3) := by decide +kernel
theorem d_M_escaped_33 : decode b_M_escaped 33 = .ok (.baload, 1) := by decide +kernel
theorem d_M_escaped_34 : decode b_M_escaped 34 = .ok (.bipush 41, 2) := by decide +kernel
theorem d_M_escaped_36 : decode b_M_escaped 36 = .ok (.if_icmp .eq 17, 3) := by decide +kernel
theorem d_M_escaped_39 : decode b_M_escaped 39 = .ok (.aload_n 0, 1) := by decide +kernel
theorem d_M_escaped_40 : decode b_M_escaped 40 = .ok (.getfield 14, 3) := by decide +kernel
theorem d_M_escaped_43 : decode b_M_escaped 43 = .ok (.aload_n 0, 1) := by decide +kernel
theorem d_M_escaped_44 : decode b_M_escaped 44 = .ok (.getfield 7, 3) := by decide +kernel
theorem d_M_escaped_47 : decode b_M_escaped 47 = .ok (.baload, 1) := by decide +kernel
theorem d_M_escaped_48 : decode b_M_escaped 48 = .ok (.bipush 92, 2) := by decide +kernel
theorem d_M_escaped_50 : decode b_M_escaped 50 = .ok (.if_icmp .ne 25, 3) := by decide +kernel
theorem d_M_escaped_53 : decode b_M_escaped 53 = .ok (.aload_n 0, 1) := by decide +kernel
theorem d_M_escaped_54 : decode b_M_escaped 54 = .ok (.dup, 1) := by decide +kernel
theorem d_M_escaped_55 : decode b_M_escaped 55 = .ok (.getfield 7, 3) := by decide +kernel
theorem d_M_escaped_58 : decode b_M_escaped 58 = .ok (.iconst 1, 1) := by decide +kernel
theorem d_M_escaped_59 : decode b_M_escaped 59 = .ok (.iadd, 1) := by decide +kernel
theorem d_M_escaped_60 : decode b_M_escaped 60 = .ok (.putfield 7, 3) := by decide +kernel
theorem d_M_escaped_63 : decode b_M_escaped 63 = .ok (.aload_n 0, 1) := by decide +kernel
theorem d_M_escaped_64 : decode b_M_escaped 64 = .ok (.getfield 14, 3) := by decide +kernel
theorem d_M_escaped_67 : decode b_M_escaped 67 = .ok (.aload_n 0, 1) := by decide +kernel
theorem d_M_escaped_68 : decode b_M_escaped 68 = .ok (.getfield 7, 3) := by decide +kernel
theorem d_M_escaped_71 : decode b_M_escaped 71 = .ok (.iconst 1, 1) := by decide +kernel
theorem d_M_escaped_72 : decode b_M_escaped 72 = .ok (.isub, 1) := by decide +kernel
theorem d_M_escaped_73 : decode b_M_escaped 73 = .ok (.baload, 1) := by decide +kernel
theorem d_M_escaped_74 : decode b_M_escaped 74 = .ok (.ireturn, 1) := by decide +kernel
theorem d_M_escaped_75 : decode b_M_escaped 75 = .ok (.iconst 0, 1) := by decide +kernel
theorem d_M_escaped_76 : decode b_M_escaped 76 = .ok (.istore_n 1, 1) := by decide +kernel
theorem d_M_escaped_77 : decode b_M_escaped 77 = .ok (.iconst 0, 1) := by decide +kernel
theorem d_M_escaped_78 : decode b_M_escaped 78 = .ok (.istore_n 2, 1) := by decide +kernel
theorem d_M_escaped_79 : decode b_M_escaped 79 = .ok (.iload_n 2, 1) := by decide +kernel
theorem d_M_escaped_80 : decode b_M_escaped 80 = .ok (.iconst 3, 1) := by decide +kernel
theorem d_M_escaped_81 : decode b_M_escaped 81 = .ok (.if_icmp .ge 78, 3) := by decide +kernel
theorem d_M_escaped_84 : decode b_M_escaped 84 = .ok (.aload_n 0, 1) := by decide +kernel
theorem d_M_escaped_85 : decode b_M_escaped 85 = .ok (.getfield 7, 3) := by decide +kernel
theorem d_M_escaped_88 : decode b_M_escaped 88 = .ok (.aload_n 0, 1) := by decide +kernel
theorem d_M_escaped_89 : decode b_M_escaped 89 = .ok (.getfield 11, 3) := by decide +kernel
theorem d_M_escaped_92 : decode b_M_escaped 92 = .ok (.if_icmp .ge 31, 3) := by decide +kernel
theorem d_M_escaped_95 : decode b_M_escaped 95 = .ok (.aload_n 0, 1) := by decide +kernel
theorem d_M_escaped_96 : decode b_M_escaped 96 = .ok (.getfield 14, 3) := by decide +kernel
theorem d_M_escaped_99 : decode b_M_escaped 99 = .ok (.aload_n 0, 1) := by decide +kernel
theorem d_M_escaped_100 : decode b_M_escaped 100 = .ok (.getfield 7, 3) := by decide +kernel
theorem d_M_escaped_103 : decode b_M_escaped 103 = .ok (.baload, 1) := by decide +kernel
theorem d_M_escaped_104 : decode b_M_escaped 104 = .ok (.bipush 48, 2) := by decide +kernel
theorem d_M_escaped_106 : decode b_M_escaped 106 = .ok (.if_icmp .lt 17, 3) := by decide +kernel
theorem d_M_escaped_109 : decode b_M_escaped 109 = .ok (.aload_n 0, 1) := by decide +kernel
theorem d_M_escaped_110 : decode b_M_escaped 110 = .ok (.getfield 14, 3) := by decide +kernel
theorem d_M_escaped_113 : decode b_M_escaped 113 = .ok (.aload_n 0, 1) := by decide +kernel
theorem d_M_escaped_114 : decode b_M_escaped 114 = .ok (.getfield 7, 3) := by decide +kernel
theorem d_M_escaped_117 : decode b_M_escaped 117 = .ok (.baload, 1) := by decide +kernel
theorem d_M_escaped_118 : decode b_M_escaped 118 = .ok (.bipush 55, 2) := by decide +kernel
theorem d_M_escaped_120 : decode b_M_escaped 120 = .ok (.if_icmp .le 5, 3) := by decide +kernel
theorem d_M_escaped_123 : decode b_M_escaped 123 = .ok (.iconst (-1), 1) := by decide +kernel
theorem d_M_escaped_124 : decode b_M_escaped 124 = .ok (.ireturn, 1) := by decide +kernel
theorem d_M_escaped_125 : decode b_M_escaped 125 = .ok (.bipush 8, 2) := by decide +kernel
theorem d_M_escaped_127 : decode b_M_escaped 127 = .ok (.iload_n 1, 1) := by decide +kernel
theorem d_M_escaped_128 : decode b_M_escaped 128 = .ok (.imul, 1) := by decide +kernel
theorem d_M_escaped_129 : decode b_M_escaped 129 = .ok (.aload_n 0, 1) := by decide +kernel
theorem d_M_escaped_130 : decode b_M_escaped 130 = .ok (.getfield 14, 3) := by decide +kernel
theorem d_M_escaped_133 : decode b_M_escaped 133 = .ok (.aload_n 0, 1) := by decide +kernel
theorem d_M_escaped_134 : decode b_M_escaped 134 = .ok (.getfield 7, 3) := by decide +kernel
theorem d_M_escaped_137 : decode b_M_escaped 137 = .ok (.baload, 1) := by decide +kernel
theorem d_M_escaped_138 : decode b_M_escaped 138 = .ok (.iadd, 1) := by decide +kernel
theorem d_M_escaped_139 : decode b_M_escaped 139 = .ok (.bipush 48, 2) := by decide +kernel
theorem d_M_escaped_141 : decode b_M_escaped 141 = .ok (.isub, 1) := by decide +kernel
theorem d_M_escaped_142 : decode b_M_escaped 142 = .ok (.istore_n 1, 1) := by decide +kernel
theorem d_M_escaped_143 : decode b_M_escaped 143 = .ok (.aload_n 0, 1) := by decide +kernel
theorem d_M_escaped_144 : decode b_M_escaped 144 = .ok (.dup, 1) := by decide +kernel
theorem d_M_escaped_145 : decode b_M_escaped 145 = .ok (.getfield 7, 3) := by decide +kernel
theorem d_M_escaped_148 : decode b_M_escaped 148 = .ok (.iconst 1, 1) := by decide +kernel
theorem d_M_escaped_149 : decode b_M_escaped 149 = .ok (.iadd, 1) := by decide +kernel
theorem d_M_escaped_150 : decode b_M_escaped 150 = .ok (.putfield 7, 3) := by decide +kernel
theorem d_M_escaped_153 : decode b_M_escaped 153 = .ok (.iinc 2 1, 3) := by decide +kernel
theorem d_M_escaped_156 : decode b_M_escaped 156 = .ok (.goto (-77), 3) := by decide +kernel
theorem d_M_escaped_159 : decode b_M_escaped 159 = .ok (.iload_n 1, 1) := by decide +kernel
theorem d_M_escaped_160 : decode b_M_escaped 160 = .ok (.sipush 255, 3) := by decide +kernel
theorem d_M_escaped_163 : decode b_M_escaped 163 = .ok (.if_icmp .le 7, 3) := by decide +kernel
theorem d_M_escaped_166 : decode b_M_escaped 166 = .ok (.iconst (-1), 1) := by decide +kernel
theorem d_M_escaped_167 : decode b_M_escaped 167 = .ok (.goto 4, 3) := by decide +kernel
theorem d_M_escaped_170 : decode b_M_escaped 170 = .ok (.iload_n 1, 1) := by decide +kernel
theorem d_M_escaped_171 : decode b_M_escaped 171 = .ok (.ireturn, 1) := by decide +kernel
theorem d_M_hexOf_0 : decode b_M_hexOf 0 = .ok (.iload_n 0, 1) := by decide +kernel
theorem d_M_hexOf_1 : decode b_M_hexOf 1 = .ok (.invokestatic 52, 3) := by decide +kernel
theorem d_M_hexOf_4 : decode b_M_hexOf 4 = .ok (.ifCond .eq 10, 3) := by decide +kernel
theorem d_M_hexOf_7 : decode b_M_hexOf 7 = .ok (.iload_n 0, 1) := by decide +kernel
theorem d_M_hexOf_8 : decode b_M_hexOf 8 = .ok (.bipush 48, 2) := by decide +kernel
theorem d_M_hexOf_10 : decode b_M_hexOf 10 = .ok (.isub, 1) := by decide +kernel
theorem d_M_hexOf_11 : decode b_M_hexOf 11 = .ok (.goto 48, 3) := by decide +kernel
theorem d_M_hexOf_14 : decode b_M_hexOf 14 = .ok (.iload_n 0, 1) := by decide +kernel
theorem d_M_hexOf_15 : decode b_M_hexOf 15 = .ok (.bipush 97, 2) := by decide +kernel
theorem d_M_hexOf_17 : decode b_M_hexOf 17 = .ok (.if_icmp .lt 19, 3) := by decide +kernel
theorem d_M_hexOf_20 : decode b_M_hexOf 20 = .ok (.iload_n 0, 1) := by decide +kernel
theorem d_M_hexOf_21 : decode b_M_hexOf 21 = .ok (.bipush 102, 2) := by decide +kernel
theorem d_M_hexOf_23 : decode b_M_hexOf 23 = .ok (.if_icmp .gt 13, 3) := by decide +kernel
theorem d_M_hexOf_26 : decode b_M_hexOf 26 = .ok (.iload_n 0, 1) := by decide +kernel
theorem d_M_hexOf_27 : decode b_M_hexOf 27 = .ok (.bipush 97, 2) := by decide +kernel
theorem d_M_hexOf_29 : decode b_M_hexOf 29 = .ok (.isub, 1) := by decide +kernel
theorem d_M_hexOf_30 : decode b_M_hexOf 30 = .ok (.bipush 10, 2) := by decide +kernel
theorem d_M_hexOf_32 : decode b_M_hexOf 32 = .ok (.iadd, 1) := by decide +kernel
theorem d_M_hexOf_33 : decode b_M_hexOf 33 = .ok (.goto 26, 3) := by decide +kernel
theorem d_M_hexOf_36 : decode b_M_hexOf 36 = .ok (.iload_n 0, 1) := by decide +kernel
theorem d_M_hexOf_37 : decode b_M_hexOf 37 = .ok (.bipush 65, 2) := by decide +kernel
theorem d_M_hexOf_39 : decode b_M_hexOf 39 = .ok (.if_icmp .lt 19, 3) := by decide +kernel
theorem d_M_hexOf_42 : decode b_M_hexOf 42 = .ok (.iload_n 0, 1) := by decide +kernel
theorem d_M_hexOf_43 : decode b_M_hexOf 43 = .ok (.bipush 70, 2) := by decide +kernel
theorem d_M_hexOf_45 : decode b_M_hexOf 45 = .ok (.if_icmp .gt 13, 3) := by decide +kernel
theorem d_M_hexOf_48 : decode b_M_hexOf 48 = .ok (.iload_n 0, 1) := by decide +kernel
theorem d_M_hexOf_49 : decode b_M_hexOf 49 = .ok (.bipush 65, 2) := by decide +kernel
theorem d_M_hexOf_51 : decode b_M_hexOf 51 = .ok (.isub, 1) := by decide +kernel
theorem d_M_hexOf_52 : decode b_M_hexOf 52 = .ok (.bipush 10, 2) := by decide +kernel
theorem d_M_hexOf_54 : decode b_M_hexOf 54 = .ok (.iadd, 1) := by decide +kernel
theorem d_M_hexOf_55 : decode b_M_hexOf 55 = .ok (.goto 4, 3) := by decide +kernel
theorem d_M_hexOf_58 : decode b_M_hexOf 58 = .ok (.iconst (-1), 1) := by decide +kernel
theorem d_M_hexOf_59 : decode b_M_hexOf 59 = .ok (.ireturn, 1) := by decide +kernel
theorem d_M_digits_0 : decode b_M_digits 0 = .ok (.aload_n 0, 1) := by decide +kernel
theorem d_M_digits_1 : decode b_M_digits 1 = .ok (.dup, 1) := by decide +kernel
theorem d_M_digits_2 : decode b_M_digits 2 = .ok (.getfield 7, 3) := by decide +kernel
theorem d_M_digits_5 : decode b_M_digits 5 = .ok (.iconst 1, 1) := by decide +kernel
theorem d_M_digits_6 : decode b_M_digits 6 = .ok (.iadd, 1) := by decide +kernel
theorem d_M_digits_7 : decode b_M_digits 7 = .ok (.putfield 7, 3) := by decide +kernel
theorem d_M_digits_10 : decode b_M_digits 10 = .ok (.iconst 0, 1) := by decide +kernel
theorem d_M_digits_11 : decode b_M_digits 11 = .ok (.istore_n 1, 1) := by decide +kernel
theorem d_M_digits_12 : decode b_M_digits 12 = .ok (.aload_n 0, 1) := by decide +kernel
theorem d_M_digits_13 : decode b_M_digits 13 = .ok (.getfield 7, 3) := by decide +kernel
theorem d_M_digits_16 : decode b_M_digits 16 = .ok (.aload_n 0, 1) := by decide +kernel
theorem d_M_digits_17 : decode b_M_digits 17 = .ok (.getfield 11, 3) := by decide +kernel
theorem d_M_digits_20 : decode b_M_digits 20 = .ok (.if_icmp .ge 123, 3) := by decide +kernel
theorem d_M_digits_23 : decode b_M_digits 23 = .ok (.aload_n 0, 1) := by decide +kernel
theorem d_M_digits_24 : decode b_M_digits 24 = .ok (.getfield 14, 3) := by decide +kernel
theorem d_M_digits_27 : decode b_M_digits 27 = .ok (.aload_n 0, 1) := by decide +kernel
theorem d_M_digits_28 : decode b_M_digits 28 = .ok (.getfield 7, 3) := by decide +kernel
theorem d_M_digits_31 : decode b_M_digits 31 = .ok (.baload, 1) := by decide +kernel
theorem d_M_digits_32 : decode b_M_digits 32 = .ok (.bipush 62, 2) := by decide +kernel
theorem d_M_digits_34 : decode b_M_digits 34 = .ok (.if_icmp .eq 109, 3) := by decide +kernel
theorem d_M_digits_37 : decode b_M_digits 37 = .ok (.aload_n 0, 1) := by decide +kernel
theorem d_M_digits_38 : decode b_M_digits 38 = .ok (.getfield 7, 3) := by decide +kernel
theorem d_M_digits_41 : decode b_M_digits 41 = .ok (.iconst 1, 1) := by decide +kernel
theorem d_M_digits_42 : decode b_M_digits 42 = .ok (.iadd, 1) := by decide +kernel
theorem d_M_digits_43 : decode b_M_digits 43 = .ok (.aload_n 0, 1) := by decide +kernel
theorem d_M_digits_44 : decode b_M_digits 44 = .ok (.getfield 11, 3) := by decide +kernel
theorem d_M_digits_47 : decode b_M_digits 47 = .ok (.if_icmp .ge 41, 3) := by decide +kernel
theorem d_M_digits_50 : decode b_M_digits 50 = .ok (.aload_n 0, 1) := by decide +kernel
theorem d_M_digits_51 : decode b_M_digits 51 = .ok (.getfield 14, 3) := by decide +kernel
theorem d_M_digits_54 : decode b_M_digits 54 = .ok (.aload_n 0, 1) := by decide +kernel
theorem d_M_digits_55 : decode b_M_digits 55 = .ok (.getfield 7, 3) := by decide +kernel
theorem d_M_digits_58 : decode b_M_digits 58 = .ok (.baload, 1) := by decide +kernel
theorem d_M_digits_59 : decode b_M_digits 59 = .ok (.invokestatic 138, 3) := by decide +kernel
theorem d_M_digits_62 : decode b_M_digits 62 = .ok (.ifCond .lt 26, 3) := by decide +kernel
theorem d_M_digits_65 : decode b_M_digits 65 = .ok (.aload_n 0, 1) := by decide +kernel
theorem d_M_digits_66 : decode b_M_digits 66 = .ok (.getfield 14, 3) := by decide +kernel
theorem d_M_digits_69 : decode b_M_digits 69 = .ok (.aload_n 0, 1) := by decide +kernel
theorem d_M_digits_70 : decode b_M_digits 70 = .ok (.getfield 7, 3) := by decide +kernel
theorem d_M_digits_73 : decode b_M_digits 73 = .ok (.iconst 1, 1) := by decide +kernel
theorem d_M_digits_74 : decode b_M_digits 74 = .ok (.iadd, 1) := by decide +kernel
theorem d_M_digits_75 : decode b_M_digits 75 = .ok (.baload, 1) := by decide +kernel
theorem d_M_digits_76 : decode b_M_digits 76 = .ok (.invokestatic 138, 3) := by decide +kernel
theorem d_M_digits_79 : decode b_M_digits 79 = .ok (.ifCond .lt 9, 3) := by decide +kernel
theorem d_M_digits_82 : decode b_M_digits 82 = .ok (.iload_n 1, 1) := by decide +kernel
theorem d_M_digits_83 : decode b_M_digits 83 = .ok (.bipush 100, 2) := by decide +kernel
theorem d_M_digits_85 : decode b_M_digits 85 = .ok (.if_icmp .ne 5, 3) := by decide +kernel
theorem d_M_digits_88 : decode b_M_digits 88 = .ok (.aconst_null, 1) := by decide +kernel
theorem d_M_digits_89 : decode b_M_digits 89 = .ok (.areturn, 1) := by decide +kernel
theorem d_M_digits_90 : decode b_M_digits 90 = .ok (.aload_n 0, 1) := by decide +kernel
theorem d_M_digits_91 : decode b_M_digits 91 = .ok (.getfield 122, 3) := by decide +kernel
theorem d_M_digits_94 : decode b_M_digits 94 = .ok (.iload_n 1, 1) := by decide +kernel
theorem d_M_digits_95 : decode b_M_digits 95 = .ok (.bipush 16, 2) := by decide +kernel
theorem d_M_digits_97 : decode b_M_digits 97 = .ok (.aload_n 0, 1) := by decide +kernel
theorem d_M_digits_98 : decode b_M_digits 98 = .ok (.getfield 14, 3) := by decide +kernel
theorem d_M_digits_101 : decode b_M_digits 101 = .ok (.aload_n 0, 1) := by decide +kernel
theorem d_M_digits_102 : decode b_M_digits 102 = .ok (.getfield 7, 3) := by decide +kernel
theorem d_M_digits_105 : decode b_M_digits 105 = .ok (.baload, 1) := by decide +kernel
theorem d_M_digits_106 : decode b_M_digits 106 = .ok (.invokestatic 138, 3) := by decide +kernel
theorem d_M_digits_109 : decode b_M_digits 109 = .ok (.imul, 1) := by decide +kernel
theorem d_M_digits_110 : decode b_M_digits 110 = .ok (.aload_n 0, 1) := by decide +kernel
theorem d_M_digits_111 : decode b_M_digits 111 = .ok (.getfield 14, 3) := by decide +kernel
theorem d_M_digits_114 : decode b_M_digits 114 = .ok (.aload_n 0, 1) := by decide +kernel
theorem d_M_digits_115 : decode b_M_digits 115 = .ok (.getfield 7, 3) := by decide +kernel
theorem d_M_digits_118 : decode b_M_digits 118 = .ok (.iconst 1, 1) := by decide +kernel
theorem d_M_digits_119 : decode b_M_digits 119 = .ok (.iadd, 1) := by decide +kernel
theorem d_M_digits_120 : decode b_M_digits 120 = .ok (.baload, 1) := by decide +kernel
theorem d_M_digits_121 : decode b_M_digits 121 = .ok (.invokestatic 138, 3) := by decide +kernel
theorem d_M_digits_124 : decode b_M_digits 124 = .ok (.iadd, 1) := by decide +kernel
theorem d_M_digits_125 : decode b_M_digits 125 = .ok (.i2b, 1) := by decide +kernel
theorem d_M_digits_126 : decode b_M_digits 126 = .ok (.bastore, 1) := by decide +kernel
theorem d_M_digits_127 : decode b_M_digits 127 = .ok (.iinc 1 1, 3) := by decide +kernel
theorem d_M_digits_130 : decode b_M_digits 130 = .ok (.aload_n 0, 1) := by decide +kernel
theorem d_M_digits_131 : decode b_M_digits 131 = .ok (.dup, 1) := by decide +kernel
theorem d_M_digits_132 : decode b_M_digits 132 = .ok (.getfield 7, 3) := by decide +kernel
theorem d_M_digits_135 : decode b_M_digits 135 = .ok (.iconst 2, 1) := by decide +kernel
theorem d_M_digits_136 : decode b_M_digits 136 = .ok (.iadd, 1) := by decide +kernel
theorem d_M_digits_137 : decode b_M_digits 137 = .ok (.putfield 7, 3) := by decide +kernel
theorem d_M_digits_140 : decode b_M_digits 140 = .ok (.goto (-128), 3) := by decide +kernel
theorem d_M_digits_143 : decode b_M_digits 143 = .ok (.aload_n 0, 1) := by decide +kernel
theorem d_M_digits_144 : decode b_M_digits 144 = .ok (.bipush 62, 2) := by decide +kernel
theorem d_M_digits_146 : decode b_M_digits 146 = .ok (.invokevirtual 132, 3) := by decide +kernel
theorem d_M_digits_149 : decode b_M_digits 149 = .ok (.ifCond .eq 11, 3) := by decide +kernel
theorem d_M_digits_152 : decode b_M_digits 152 = .ok (.aload_n 0, 1) := by decide +kernel
theorem d_M_digits_153 : decode b_M_digits 153 = .ok (.iload_n 1, 1) := by decide +kernel
theorem d_M_digits_154 : decode b_M_digits 154 = .ok (.invokevirtual 135, 3) := by decide +kernel
theorem d_M_digits_157 : decode b_M_digits 157 = .ok (.goto 4, 3) := by decide +kernel
theorem d_M_digits_160 : decode b_M_digits 160 = .ok (.aconst_null, 1) := by decide +kernel
theorem d_M_digits_161 : decode b_M_digits 161 = .ok (.areturn, 1) := by decide +kernel
theorem d_M_array_0 : decode b_M_array 0 = .ok (.iload_n 1, 1) := by decide +kernel
theorem d_M_array_1 : decode b_M_array 1 = .ok (.bipush 8, 2) := by decide +kernel
theorem d_M_array_3 : decode b_M_array 3 = .ok (.if_icmp .ne 5, 3) := by decide +kernel
theorem d_M_array_6 : decode b_M_array 6 = .ok (.aconst_null, 1) := by decide +kernel
theorem d_M_array_7 : decode b_M_array 7 = .ok (.areturn, 1) := by decide +kernel
theorem d_M_array_8 : decode b_M_array 8 = .ok (.aload_n 0, 1) := by decide +kernel
theorem d_M_array_9 : decode b_M_array 9 = .ok (.dup, 1) := by decide +kernel
theorem d_M_array_10 : decode b_M_array 10 = .ok (.getfield 7, 3) := by decide +kernel
theorem d_M_array_13 : decode b_M_array 13 = .ok (.iconst 1, 1) := by decide +kernel
theorem d_M_array_14 : decode b_M_array 14 = .ok (.iadd, 1) := by decide +kernel
theorem d_M_array_15 : decode b_M_array 15 = .ok (.putfield 7, 3) := by decide +kernel
theorem d_M_array_18 : decode b_M_array 18 = .ok (.new 82, 3) := by decide +kernel
theorem d_M_array_21 : decode b_M_array 21 = .ok (.dup, 1) := by decide +kernel
theorem d_M_array_22 : decode b_M_array 22 = .ok (.bipush 6, 2) := by decide +kernel
theorem d_M_array_24 : decode b_M_array 24 = .ok (.invokespecial 84, 3) := by decide +kernel
theorem d_M_array_27 : decode b_M_array 27 = .ok (.astore_n 2, 1) := by decide +kernel
theorem d_M_array_28 : decode b_M_array 28 = .ok (.aload_n 2, 1) := by decide +kernel
theorem d_M_array_29 : decode b_M_array 29 = .ok (.iconst 4, 1) := by decide +kernel
theorem d_M_array_30 : decode b_M_array 30 = .ok (.anewarray 82, 3) := by decide +kernel
theorem d_M_array_33 : decode b_M_array 33 = .ok (.putfield 141, 3) := by decide +kernel
theorem d_M_array_36 : decode b_M_array 36 = .ok (.aload_n 0, 1) := by decide +kernel
theorem d_M_array_37 : decode b_M_array 37 = .ok (.invokevirtual 59, 3) := by decide +kernel
theorem d_M_array_40 : decode b_M_array 40 = .ok (.aload_n 0, 1) := by decide +kernel
theorem d_M_array_41 : decode b_M_array 41 = .ok (.getfield 7, 3) := by decide +kernel
theorem d_M_array_44 : decode b_M_array 44 = .ok (.aload_n 0, 1) := by decide +kernel
theorem d_M_array_45 : decode b_M_array 45 = .ok (.getfield 11, 3) := by decide +kernel
theorem d_M_array_48 : decode b_M_array 48 = .ok (.if_icmp .ge 94, 3) := by decide +kernel
theorem d_M_array_51 : decode b_M_array 51 = .ok (.aload_n 0, 1) := by decide +kernel
theorem d_M_array_52 : decode b_M_array 52 = .ok (.getfield 14, 3) := by decide +kernel
theorem d_M_array_55 : decode b_M_array 55 = .ok (.aload_n 0, 1) := by decide +kernel
theorem d_M_array_56 : decode b_M_array 56 = .ok (.getfield 7, 3) := by decide +kernel
theorem d_M_array_59 : decode b_M_array 59 = .ok (.baload, 1) := by decide +kernel
theorem d_M_array_60 : decode b_M_array 60 = .ok (.bipush 93, 2) := by decide +kernel
theorem d_M_array_62 : decode b_M_array 62 = .ok (.if_icmp .eq 80, 3) := by decide +kernel
theorem d_M_array_65 : decode b_M_array 65 = .ok (.aload_n 2, 1) := by decide +kernel
theorem d_M_array_66 : decode b_M_array 66 = .ok (.getfield 145, 3) := by decide +kernel
theorem d_M_array_69 : decode b_M_array 69 = .ok (.bipush 60, 2) := by decide +kernel
theorem d_M_array_71 : decode b_M_array 71 = .ok (.if_icmp .ne 7, 3) := by decide +kernel
theorem d_M_array_74 : decode b_M_array 74 = .ok (.aconst_null, 1) := by decide +kernel
theorem d_M_array_75 : decode b_M_array 75 = .ok (.goto 10, 3) := by decide +kernel
theorem d_M_array_78 : decode b_M_array 78 = .ok (.aload_n 0, 1) := by decide +kernel
theorem d_M_array_79 : decode b_M_array 79 = .ok (.iload_n 1, 1) := by decide +kernel
theorem d_M_array_80 : decode b_M_array 80 = .ok (.iconst 1, 1) := by decide +kernel
theorem d_M_array_81 : decode b_M_array 81 = .ok (.iadd, 1) := by decide +kernel
theorem d_M_array_82 : decode b_M_array 82 = .ok (.invokevirtual 148, 3) := by decide +kernel
theorem d_M_array_85 : decode b_M_array 85 = .ok (.astore_n 3, 1) := by decide +kernel
theorem d_M_array_86 : decode b_M_array 86 = .ok (.aload_n 3, 1) := by decide +kernel
theorem d_M_array_87 : decode b_M_array 87 = .ok (.ifnonnull 5, 3) := by decide +kernel
theorem d_M_array_90 : decode b_M_array 90 = .ok (.aconst_null, 1) := by decide +kernel
theorem d_M_array_91 : decode b_M_array 91 = .ok (.areturn, 1) := by decide +kernel
theorem d_M_array_92 : decode b_M_array 92 = .ok (.aload_n 2, 1) := by decide +kernel
theorem d_M_array_93 : decode b_M_array 93 = .ok (.getfield 145, 3) := by decide +kernel
theorem d_M_array_96 : decode b_M_array 96 = .ok (.aload_n 2, 1) := by decide +kernel
theorem d_M_array_97 : decode b_M_array 97 = .ok (.getfield 141, 3) := by decide +kernel
theorem d_M_array_100 : decode b_M_array 100 = .ok (.arraylength, 1) := by decide +kernel
theorem d_M_array_101 : decode b_M_array 101 = .ok (.if_icmp .ne 14, 3) := by decide +kernel
theorem d_M_array_104 : decode b_M_array 104 = .ok (.aload_n 2, 1) := by decide +kernel
theorem d_M_array_105 : decode b_M_array 105 = .ok (.aload_n 2, 1) := by decide +kernel
theorem d_M_array_106 : decode b_M_array 106 = .ok (.getfield 141, 3) := by decide +kernel
theorem d_M_array_109 : decode b_M_array 109 = .ok (.invokestatic 151, 3) := by decide +kernel
theorem d_M_array_112 : decode b_M_array 112 = .ok (.putfield 141, 3) := by decide +kernel
theorem d_M_array_115 : decode b_M_array 115 = .ok (.aload_n 2, 1) := by decide +kernel
theorem d_M_array_116 : decode b_M_array 116 = .ok (.getfield 141, 3) := by decide +kernel
theorem d_M_array_119 : decode b_M_array 119 = .ok (.aload_n 2, 1) := by decide +kernel
theorem d_M_array_120 : decode b_M_array 120 = .ok (.getfield 145, 3) := by decide +kernel
theorem d_M_array_123 : decode b_M_array 123 = .ok (.aload_n 3, 1) := by decide +kernel
theorem d_M_array_124 : decode b_M_array 124 = .ok (.aastore, 1) := by decide +kernel
theorem d_M_array_125 : decode b_M_array 125 = .ok (.aload_n 2, 1) := by decide +kernel
theorem d_M_array_126 : decode b_M_array 126 = .ok (.dup, 1) := by decide +kernel
theorem d_M_array_127 : decode b_M_array 127 = .ok (.getfield 145, 3) := by decide +kernel
theorem d_M_array_130 : decode b_M_array 130 = .ok (.iconst 1, 1) := by decide +kernel
theorem d_M_array_131 : decode b_M_array 131 = .ok (.iadd, 1) := by decide +kernel
theorem d_M_array_132 : decode b_M_array 132 = .ok (.putfield 145, 3) := by decide +kernel
theorem d_M_array_135 : decode b_M_array 135 = .ok (.aload_n 0, 1) := by decide +kernel
theorem d_M_array_136 : decode b_M_array 136 = .ok (.invokevirtual 59, 3) := by decide +kernel
theorem d_M_array_139 : decode b_M_array 139 = .ok (.goto (-99), 3) := by decide +kernel
theorem d_M_array_142 : decode b_M_array 142 = .ok (.aload_n 0, 1) := by decide +kernel
theorem d_M_array_143 : decode b_M_array 143 = .ok (.bipush 93, 2) := by decide +kernel
theorem d_M_array_145 : decode b_M_array 145 = .ok (.invokevirtual 132, 3) := by decide +kernel
theorem d_M_array_148 : decode b_M_array 148 = .ok (.ifCond .eq 7, 3) := by decide +kernel
theorem d_M_array_151 : decode b_M_array 151 = .ok (.aload_n 2, 1) := by decide +kernel
theorem d_M_array_152 : decode b_M_array 152 = .ok (.goto 4, 3) := by decide +kernel
theorem d_M_array_155 : decode b_M_array 155 = .ok (.aconst_null, 1) := by decide +kernel
theorem d_M_array_156 : decode b_M_array 156 = .ok (.areturn, 1) := by decide +kernel
theorem d_M_longer_0 : decode b_M_longer 0 = .ok (.iconst 2, 1) := by decide +kernel
theorem d_M_longer_1 : decode b_M_longer 1 = .ok (.aload_n 0, 1) := by decide +kernel
theorem d_M_longer_2 : decode b_M_longer 2 = .ok (.arraylength, 1) := by decide +kernel
theorem d_M_longer_3 : decode b_M_longer 3 = .ok (.imul, 1) := by decide +kernel
theorem d_M_longer_4 : decode b_M_longer 4 = .ok (.anewarray 82, 3) := by decide +kernel
theorem d_M_longer_7 : decode b_M_longer 7 = .ok (.astore_n 1, 1) := by decide +kernel
theorem d_M_longer_8 : decode b_M_longer 8 = .ok (.iconst 0, 1) := by decide +kernel
theorem d_M_longer_9 : decode b_M_longer 9 = .ok (.istore_n 2, 1) := by decide +kernel
theorem d_M_longer_10 : decode b_M_longer 10 = .ok (.iload_n 2, 1) := by decide +kernel
theorem d_M_longer_11 : decode b_M_longer 11 = .ok (.aload_n 0, 1) := by decide +kernel
theorem d_M_longer_12 : decode b_M_longer 12 = .ok (.arraylength, 1) := by decide +kernel
theorem d_M_longer_13 : decode b_M_longer 13 = .ok (.if_icmp .ge 15, 3) := by decide +kernel
theorem d_M_longer_16 : decode b_M_longer 16 = .ok (.aload_n 1, 1) := by decide +kernel
theorem d_M_longer_17 : decode b_M_longer 17 = .ok (.iload_n 2, 1) := by decide +kernel
theorem d_M_longer_18 : decode b_M_longer 18 = .ok (.aload_n 0, 1) := by decide +kernel
theorem d_M_longer_19 : decode b_M_longer 19 = .ok (.iload_n 2, 1) := by decide +kernel
theorem d_M_longer_20 : decode b_M_longer 20 = .ok (.aaload, 1) := by decide +kernel
theorem d_M_longer_21 : decode b_M_longer 21 = .ok (.aastore, 1) := by decide +kernel
theorem d_M_longer_22 : decode b_M_longer 22 = .ok (.iinc 2 1, 3) := by decide +kernel
theorem d_M_longer_25 : decode b_M_longer 25 = .ok (.goto (-15), 3) := by decide +kernel
theorem d_M_longer_28 : decode b_M_longer 28 = .ok (.aload_n 1, 1) := by decide +kernel
theorem d_M_longer_29 : decode b_M_longer 29 = .ok (.areturn, 1) := by decide +kernel
