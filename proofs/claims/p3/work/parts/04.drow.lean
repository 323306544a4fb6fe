theorem d_Row_init_0 : decode b_Row_init 0 = .ok (.aload_n 0, 1) := by decide +kernel
theorem d_Row_init_1 : decode b_Row_init 1 = .ok (.invokespecial 1, 3) := by decide +kernel
theorem d_Row_init_4 : decode b_Row_init 4 = .ok (.aload_n 0, 1) := by decide +kernel
theorem d_Row_init_5 : decode b_Row_init 5 = .ok (.iload_n 1, 1) := by decide +kernel
theorem d_Row_init_6 : decode b_Row_init 6 = .ok (.newarray .byte, 2) := by decide +kernel
theorem d_Row_init_8 : decode b_Row_init 8 = .ok (.putfield 7, 3) := by decide +kernel
theorem d_Row_init_11 : decode b_Row_init 11 = .ok (.aload_n 0, 1) := by decide +kernel
theorem d_Row_init_12 : decode b_Row_init 12 = .ok (.iconst 0, 1) := by decide +kernel
theorem d_Row_init_13 : decode b_Row_init 13 = .ok (.putfield 13, 3) := by decide +kernel
theorem d_Row_init_16 : decode b_Row_init 16 = .ok (.return_, 1) := by decide +kernel
theorem d_Row_size_0 : decode b_Row_size 0 = .ok (.aload_n 0, 1) := by decide +kernel
theorem d_Row_size_1 : decode b_Row_size 1 = .ok (.getfield 13, 3) := by decide +kernel
theorem d_Row_size_4 : decode b_Row_size 4 = .ok (.ireturn, 1) := by decide +kernel
theorem d_Row_get_0 : decode b_Row_get 0 = .ok (.iload_n 1, 1) := by decide +kernel
theorem d_Row_get_1 : decode b_Row_get 1 = .ok (.ifCond .lt 24, 3) := by decide +kernel
theorem d_Row_get_4 : decode b_Row_get 4 = .ok (.iload_n 1, 1) := by decide +kernel
theorem d_Row_get_5 : decode b_Row_get 5 = .ok (.aload_n 0, 1) := by decide +kernel
theorem d_Row_get_6 : decode b_Row_get 6 = .ok (.getfield 13, 3) := by decide +kernel
theorem d_Row_get_9 : decode b_Row_get 9 = .ok (.if_icmp .ge 16, 3) := by decide +kernel
theorem d_Row_get_12 : decode b_Row_get 12 = .ok (.aload_n 0, 1) := by decide +kernel
theorem d_Row_get_13 : decode b_Row_get 13 = .ok (.getfield 7, 3) := by decide +kernel
theorem d_Row_get_16 : decode b_Row_get 16 = .ok (.iload_n 1, 1) := by decide +kernel
theorem d_Row_get_17 : decode b_Row_get 17 = .ok (.baload, 1) := by decide +kernel
theorem d_Row_get_18 : decode b_Row_get 18 = .ok (.sipush 255, 3) := by decide +kernel
theorem d_Row_get_21 : decode b_Row_get 21 = .ok (.iand, 1) := by decide +kernel
theorem d_Row_get_22 : decode b_Row_get 22 = .ok (.goto 4, 3) := by decide +kernel
theorem d_Row_get_25 : decode b_Row_get 25 = .ok (.iconst (-1), 1) := by decide +kernel
theorem d_Row_get_26 : decode b_Row_get 26 = .ok (.ireturn, 1) := by decide +kernel
theorem d_Row_cut_0 : decode b_Row_cut 0 = .ok (.iload_n 1, 1) := by decide +kernel
theorem d_Row_cut_1 : decode b_Row_cut 1 = .ok (.ifCond .lt 16, 3) := by decide +kernel
theorem d_Row_cut_4 : decode b_Row_cut 4 = .ok (.iload_n 1, 1) := by decide +kernel
theorem d_Row_cut_5 : decode b_Row_cut 5 = .ok (.aload_n 0, 1) := by decide +kernel
theorem d_Row_cut_6 : decode b_Row_cut 6 = .ok (.getfield 13, 3) := by decide +kernel
theorem d_Row_cut_9 : decode b_Row_cut 9 = .ok (.if_icmp .gt 8, 3) := by decide +kernel
theorem d_Row_cut_12 : decode b_Row_cut 12 = .ok (.aload_n 0, 1) := by decide +kernel
theorem d_Row_cut_13 : decode b_Row_cut 13 = .ok (.iload_n 1, 1) := by decide +kernel
theorem d_Row_cut_14 : decode b_Row_cut 14 = .ok (.putfield 13, 3) := by decide +kernel
theorem d_Row_cut_17 : decode b_Row_cut 17 = .ok (.return_, 1) := by decide +kernel
theorem d_Row_add_0 : decode b_Row_add 0 = .ok (.aload_n 0, 1) := by decide +kernel
theorem d_Row_add_1 : decode b_Row_add 1 = .ok (.getfield 13, 3) := by decide +kernel
theorem d_Row_add_4 : decode b_Row_add 4 = .ok (.aload_n 0, 1) := by decide +kernel
theorem d_Row_add_5 : decode b_Row_add 5 = .ok (.getfield 7, 3) := by decide +kernel
theorem d_Row_add_8 : decode b_Row_add 8 = .ok (.arraylength, 1) := by decide +kernel
theorem d_Row_add_9 : decode b_Row_add 9 = .ok (.if_icmp .ge 24, 3) := by decide +kernel
theorem d_Row_add_12 : decode b_Row_add 12 = .ok (.aload_n 0, 1) := by decide +kernel
theorem d_Row_add_13 : decode b_Row_add 13 = .ok (.getfield 7, 3) := by decide +kernel
theorem d_Row_add_16 : decode b_Row_add 16 = .ok (.aload_n 0, 1) := by decide +kernel
theorem d_Row_add_17 : decode b_Row_add 17 = .ok (.getfield 13, 3) := by decide +kernel
theorem d_Row_add_20 : decode b_Row_add 20 = .ok (.iload_n 1, 1) := by decide +kernel
theorem d_Row_add_21 : decode b_Row_add 21 = .ok (.i2b, 1) := by decide +kernel
theorem d_Row_add_22 : decode b_Row_add 22 = .ok (.bastore, 1) := by decide +kernel
theorem d_Row_add_23 : decode b_Row_add 23 = .ok (.aload_n 0, 1) := by decide +kernel
theorem d_Row_add_24 : decode b_Row_add 24 = .ok (.dup, 1) := by decide +kernel
theorem d_Row_add_25 : decode b_Row_add 25 = .ok (.getfield 13, 3) := by decide +kernel
theorem d_Row_add_28 : decode b_Row_add 28 = .ok (.iconst 1, 1) := by decide +kernel
theorem d_Row_add_29 : decode b_Row_add 29 = .ok (.iadd, 1) := by decide +kernel
theorem d_Row_add_30 : decode b_Row_add 30 = .ok (.putfield 13, 3) := by decide +kernel
theorem d_Row_add_33 : decode b_Row_add 33 = .ok (.return_, 1) := by decide +kernel
theorem d_Row_addFour_0 : decode b_Row_addFour 0 = .ok (.aload_n 0, 1) := by decide +kernel
theorem d_Row_addFour_1 : decode b_Row_addFour 1 = .ok (.iload_n 1, 1) := by decide +kernel
theorem d_Row_addFour_2 : decode b_Row_addFour 2 = .ok (.bipush 24, 2) := by decide +kernel
theorem d_Row_addFour_4 : decode b_Row_addFour 4 = .ok (.iushr, 1) := by decide +kernel
theorem d_Row_addFour_5 : decode b_Row_addFour 5 = .ok (.invokevirtual 17, 3) := by decide +kernel
theorem d_Row_addFour_8 : decode b_Row_addFour 8 = .ok (.aload_n 0, 1) := by decide +kernel
theorem d_Row_addFour_9 : decode b_Row_addFour 9 = .ok (.iload_n 1, 1) := by decide +kernel
theorem d_Row_addFour_10 : decode b_Row_addFour 10 = .ok (.bipush 16, 2) := by decide +kernel
theorem d_Row_addFour_12 : decode b_Row_addFour 12 = .ok (.iushr, 1) := by decide +kernel
theorem d_Row_addFour_13 : decode b_Row_addFour 13 = .ok (.invokevirtual 17, 3) := by decide +kernel
theorem d_Row_addFour_16 : decode b_Row_addFour 16 = .ok (.aload_n 0, 1) := by decide +kernel
theorem d_Row_addFour_17 : decode b_Row_addFour 17 = .ok (.iload_n 1, 1) := by decide +kernel
theorem d_Row_addFour_18 : decode b_Row_addFour 18 = .ok (.bipush 8, 2) := by decide +kernel
theorem d_Row_addFour_20 : decode b_Row_addFour 20 = .ok (.iushr, 1) := by decide +kernel
theorem d_Row_addFour_21 : decode b_Row_addFour 21 = .ok (.invokevirtual 17, 3) := by decide +kernel
theorem d_Row_addFour_24 : decode b_Row_addFour 24 = .ok (.aload_n 0, 1) := by decide +kernel
theorem d_Row_addFour_25 : decode b_Row_addFour 25 = .ok (.iload_n 1, 1) := by decide +kernel
theorem d_Row_addFour_26 : decode b_Row_addFour 26 = .ok (.invokevirtual 17, 3) := by decide +kernel
theorem d_Row_addFour_29 : decode b_Row_addFour 29 = .ok (.return_, 1) := by decide +kernel
theorem d_Row_addWord_0 : decode b_Row_addWord 0 = .ok (.iconst 0, 1) := by decide +kernel
theorem d_Row_addWord_1 : decode b_Row_addWord 1 = .ok (.istore_n 2, 1) := by decide +kernel
theorem d_Row_addWord_2 : decode b_Row_addWord 2 = .ok (.iload_n 2, 1) := by decide +kernel
theorem d_Row_addWord_3 : decode b_Row_addWord 3 = .ok (.aload_n 1, 1) := by decide +kernel
theorem d_Row_addWord_4 : decode b_Row_addWord 4 = .ok (.invokevirtual 21, 3) := by decide +kernel
theorem d_Row_addWord_7 : decode b_Row_addWord 7 = .ok (.if_icmp .ge 18, 3) := by decide +kernel
theorem d_Row_addWord_10 : decode b_Row_addWord 10 = .ok (.aload_n 0, 1) := by decide +kernel
theorem d_Row_addWord_11 : decode b_Row_addWord 11 = .ok (.aload_n 1, 1) := by decide +kernel
theorem d_Row_addWord_12 : decode b_Row_addWord 12 = .ok (.iload_n 2, 1) := by decide +kernel
theorem d_Row_addWord_13 : decode b_Row_addWord 13 = .ok (.invokevirtual 27, 3) := by decide +kernel
theorem d_Row_addWord_16 : decode b_Row_addWord 16 = .ok (.invokevirtual 17, 3) := by decide +kernel
theorem d_Row_addWord_19 : decode b_Row_addWord 19 = .ok (.iinc 2 1, 3) := by decide +kernel
theorem d_Row_addWord_22 : decode b_Row_addWord 22 = .ok (.goto (-20), 3) := by decide +kernel
theorem d_Row_addWord_25 : decode b_Row_addWord 25 = .ok (.return_, 1) := by decide +kernel
theorem d_Row_addFrom_0 : decode b_Row_addFrom 0 = .ok (.iconst 0, 1) := by decide +kernel
theorem d_Row_addFrom_1 : decode b_Row_addFrom 1 = .ok (.istore 4, 2) := by decide +kernel
theorem d_Row_addFrom_3 : decode b_Row_addFrom 3 = .ok (.iload 4, 2) := by decide +kernel
theorem d_Row_addFrom_5 : decode b_Row_addFrom 5 = .ok (.iload_n 3, 1) := by decide +kernel
theorem d_Row_addFrom_6 : decode b_Row_addFrom 6 = .ok (.if_icmp .ge 21, 3) := by decide +kernel
theorem d_Row_addFrom_9 : decode b_Row_addFrom 9 = .ok (.aload_n 0, 1) := by decide +kernel
theorem d_Row_addFrom_10 : decode b_Row_addFrom 10 = .ok (.aload_n 1, 1) := by decide +kernel
theorem d_Row_addFrom_11 : decode b_Row_addFrom 11 = .ok (.iload_n 2, 1) := by decide +kernel
theorem d_Row_addFrom_12 : decode b_Row_addFrom 12 = .ok (.iload 4, 2) := by decide +kernel
theorem d_Row_addFrom_14 : decode b_Row_addFrom 14 = .ok (.iadd, 1) := by decide +kernel
theorem d_Row_addFrom_15 : decode b_Row_addFrom 15 = .ok (.invokevirtual 31, 3) := by decide +kernel
theorem d_Row_addFrom_18 : decode b_Row_addFrom 18 = .ok (.invokevirtual 17, 3) := by decide +kernel
theorem d_Row_addFrom_21 : decode b_Row_addFrom 21 = .ok (.iinc 4 1, 3) := by decide +kernel
theorem d_Row_addFrom_24 : decode b_Row_addFrom 24 = .ok (.goto (-21), 3) := by decide +kernel
theorem d_Row_addFrom_27 : decode b_Row_addFrom 27 = .ok (.return_, 1) := by decide +kernel
theorem d_Row_hasAt_0 : decode b_Row_hasAt 0 = .ok (.iconst 0, 1) := by decide +kernel
theorem d_Row_hasAt_1 : decode b_Row_hasAt 1 = .ok (.istore 5, 2) := by decide +kernel
theorem d_Row_hasAt_3 : decode b_Row_hasAt 3 = .ok (.iload 5, 2) := by decide +kernel
theorem d_Row_hasAt_5 : decode b_Row_hasAt 5 = .ok (.iload 4, 2) := by decide +kernel
theorem d_Row_hasAt_7 : decode b_Row_hasAt 7 = .ok (.if_icmp .ge 30, 3) := by decide +kernel
theorem d_Row_hasAt_10 : decode b_Row_hasAt 10 = .ok (.aload_n 0, 1) := by decide +kernel
theorem d_Row_hasAt_11 : decode b_Row_hasAt 11 = .ok (.iload_n 1, 1) := by decide +kernel
theorem d_Row_hasAt_12 : decode b_Row_hasAt 12 = .ok (.iload 5, 2) := by decide +kernel
theorem d_Row_hasAt_14 : decode b_Row_hasAt 14 = .ok (.iadd, 1) := by decide +kernel
theorem d_Row_hasAt_15 : decode b_Row_hasAt 15 = .ok (.invokevirtual 31, 3) := by decide +kernel
theorem d_Row_hasAt_18 : decode b_Row_hasAt 18 = .ok (.aload_n 2, 1) := by decide +kernel
theorem d_Row_hasAt_19 : decode b_Row_hasAt 19 = .ok (.iload_n 3, 1) := by decide +kernel
theorem d_Row_hasAt_20 : decode b_Row_hasAt 20 = .ok (.iload 5, 2) := by decide +kernel
theorem d_Row_hasAt_22 : decode b_Row_hasAt 22 = .ok (.iadd, 1) := by decide +kernel
theorem d_Row_hasAt_23 : decode b_Row_hasAt 23 = .ok (.invokevirtual 31, 3) := by decide +kernel
theorem d_Row_hasAt_26 : decode b_Row_hasAt 26 = .ok (.if_icmp .eq 5, 3) := by decide +kernel
theorem d_Row_hasAt_29 : decode b_Row_hasAt 29 = .ok (.iconst 0, 1) := by decide +kernel
theorem d_Row_hasAt_30 : decode b_Row_hasAt 30 = .ok (.ireturn, 1) := by decide +kernel
theorem d_Row_hasAt_31 : decode b_Row_hasAt 31 = .ok (.iinc 5 1, 3) := by decide +kernel
theorem d_Row_hasAt_34 : decode b_Row_hasAt 34 = .ok (.goto (-31), 3) := by decide +kernel
theorem d_Row_hasAt_37 : decode b_Row_hasAt 37 = .ok (.iconst 1, 1) := by decide +kernel
theorem d_Row_hasAt_38 : decode b_Row_hasAt 38 = .ok (.ireturn, 1) := by decide +kernel
theorem d_Tree_init_0 : decode b_Tree_init 0 = .ok (.aload_n 0, 1) := by decide +kernel
theorem d_Tree_init_1 : decode b_Tree_init 1 = .ok (.invokespecial 3, 3) := by decide +kernel
theorem d_Tree_init_4 : decode b_Tree_init 4 = .ok (.aload_n 0, 1) := by decide +kernel
theorem d_Tree_init_5 : decode b_Tree_init 5 = .ok (.sipush 1000, 3) := by decide +kernel
theorem d_Tree_init_8 : decode b_Tree_init 8 = .ok (.newarray .byte, 2) := by decide +kernel
theorem d_Tree_init_10 : decode b_Tree_init 10 = .ok (.putfield 9, 3) := by decide +kernel
theorem d_Tree_init_13 : decode b_Tree_init 13 = .ok (.aload_n 0, 1) := by decide +kernel
theorem d_Tree_init_14 : decode b_Tree_init 14 = .ok (.sipush 1000, 3) := by decide +kernel
theorem d_Tree_init_17 : decode b_Tree_init 17 = .ok (.newarray .int, 2) := by decide +kernel
theorem d_Tree_init_19 : decode b_Tree_init 19 = .ok (.putfield 15, 3) := by decide +kernel
theorem d_Tree_init_22 : decode b_Tree_init 22 = .ok (.aload_n 0, 1) := by decide +kernel
theorem d_Tree_init_23 : decode b_Tree_init 23 = .ok (.sipush 1000, 3) := by decide +kernel
theorem d_Tree_init_26 : decode b_Tree_init 26 = .ok (.newarray .int, 2) := by decide +kernel
theorem d_Tree_init_28 : decode b_Tree_init 28 = .ok (.putfield 19, 3) := by decide +kernel
theorem d_Tree_init_31 : decode b_Tree_init 31 = .ok (.aload_n 0, 1) := by decide +kernel
theorem d_Tree_init_32 : decode b_Tree_init 32 = .ok (.sipush 1000, 3) := by decide +kernel
theorem d_Tree_init_35 : decode b_Tree_init 35 = .ok (.newarray .int, 2) := by decide +kernel
theorem d_Tree_init_37 : decode b_Tree_init 37 = .ok (.putfield 22, 3) := by decide +kernel
theorem d_Tree_init_40 : decode b_Tree_init 40 = .ok (.aload_n 0, 1) := by decide +kernel
theorem d_Tree_init_41 : decode b_Tree_init 41 = .ok (.new 25, 3) := by decide +kernel
theorem d_Tree_init_44 : decode b_Tree_init 44 = .ok (.dup, 1) := by decide +kernel
theorem d_Tree_init_45 : decode b_Tree_init 45 = .ok (.sipush 1000, 3) := by decide +kernel
theorem d_Tree_init_48 : decode b_Tree_init 48 = .ok (.invokespecial 27, 3) := by decide +kernel
theorem d_Tree_init_51 : decode b_Tree_init 51 = .ok (.putfield 30, 3) := by decide +kernel
theorem d_Tree_init_54 : decode b_Tree_init 54 = .ok (.aload_n 0, 1) := by decide +kernel
theorem d_Tree_init_55 : decode b_Tree_init 55 = .ok (.iconst 0, 1) := by decide +kernel
theorem d_Tree_init_56 : decode b_Tree_init 56 = .ok (.putfield 34, 3) := by decide +kernel
theorem d_Tree_init_59 : decode b_Tree_init 59 = .ok (.return_, 1) := by decide +kernel
theorem d_Tree_clear_0 : decode b_Tree_clear 0 = .ok (.aload_n 0, 1) := by decide +kernel
theorem d_Tree_clear_1 : decode b_Tree_clear 1 = .ok (.iconst 0, 1) := by decide +kernel
theorem d_Tree_clear_2 : decode b_Tree_clear 2 = .ok (.putfield 34, 3) := by decide +kernel
theorem d_Tree_clear_5 : decode b_Tree_clear 5 = .ok (.aload_n 0, 1) := by decide +kernel
theorem d_Tree_clear_6 : decode b_Tree_clear 6 = .ok (.getfield 30, 3) := by decide +kernel
theorem d_Tree_clear_9 : decode b_Tree_clear 9 = .ok (.iconst 0, 1) := by decide +kernel
theorem d_Tree_clear_10 : decode b_Tree_clear 10 = .ok (.invokevirtual 38, 3) := by decide +kernel
theorem d_Tree_clear_13 : decode b_Tree_clear 13 = .ok (.return_, 1) := by decide +kernel
theorem d_Tree_add_0 : decode b_Tree_add 0 = .ok (.aload_n 0, 1) := by decide +kernel
theorem d_Tree_add_1 : decode b_Tree_add 1 = .ok (.getfield 34, 3) := by decide +kernel
theorem d_Tree_add_4 : decode b_Tree_add 4 = .ok (.istore 4, 2) := by decide +kernel
theorem d_Tree_add_6 : decode b_Tree_add 6 = .ok (.iload 4, 2) := by decide +kernel
theorem d_Tree_add_8 : decode b_Tree_add 8 = .ok (.sipush 1000, 3) := by decide +kernel
theorem d_Tree_add_11 : decode b_Tree_add 11 = .ok (.if_icmp .ge 46, 3) := by decide +kernel
theorem d_Tree_add_14 : decode b_Tree_add 14 = .ok (.aload_n 0, 1) := by decide +kernel
theorem d_Tree_add_15 : decode b_Tree_add 15 = .ok (.getfield 9, 3) := by decide +kernel
theorem d_Tree_add_18 : decode b_Tree_add 18 = .ok (.iload 4, 2) := by decide +kernel
theorem d_Tree_add_20 : decode b_Tree_add 20 = .ok (.iload_n 1, 1) := by decide +kernel
theorem d_Tree_add_21 : decode b_Tree_add 21 = .ok (.i2b, 1) := by decide +kernel
theorem d_Tree_add_22 : decode b_Tree_add 22 = .ok (.bastore, 1) := by decide +kernel
theorem d_Tree_add_23 : decode b_Tree_add 23 = .ok (.aload_n 0, 1) := by decide +kernel
theorem d_Tree_add_24 : decode b_Tree_add 24 = .ok (.getfield 15, 3) := by decide +kernel
theorem d_Tree_add_27 : decode b_Tree_add 27 = .ok (.iload 4, 2) := by decide +kernel
theorem d_Tree_add_29 : decode b_Tree_add 29 = .ok (.iload_n 2, 1) := by decide +kernel
theorem d_Tree_add_30 : decode b_Tree_add 30 = .ok (.iastore, 1) := by decide +kernel
theorem d_Tree_add_31 : decode b_Tree_add 31 = .ok (.aload_n 0, 1) := by decide +kernel
theorem d_Tree_add_32 : decode b_Tree_add 32 = .ok (.getfield 19, 3) := by decide +kernel
theorem d_Tree_add_35 : decode b_Tree_add 35 = .ok (.iload 4, 2) := by decide +kernel
theorem d_Tree_add_37 : decode b_Tree_add 37 = .ok (.iload_n 3, 1) := by decide +kernel
theorem d_Tree_add_38 : decode b_Tree_add 38 = .ok (.iastore, 1) := by decide +kernel
theorem d_Tree_add_39 : decode b_Tree_add 39 = .ok (.aload_n 0, 1) := by decide +kernel
theorem d_Tree_add_40 : decode b_Tree_add 40 = .ok (.getfield 22, 3) := by decide +kernel
theorem d_Tree_add_43 : decode b_Tree_add 43 = .ok (.iload 4, 2) := by decide +kernel
theorem d_Tree_add_45 : decode b_Tree_add 45 = .ok (.iconst 1, 1) := by decide +kernel
theorem d_Tree_add_46 : decode b_Tree_add 46 = .ok (.iastore, 1) := by decide +kernel
theorem d_Tree_add_47 : decode b_Tree_add 47 = .ok (.aload_n 0, 1) := by decide +kernel
theorem d_Tree_add_48 : decode b_Tree_add 48 = .ok (.dup, 1) := by decide +kernel
theorem d_Tree_add_49 : decode b_Tree_add 49 = .ok (.getfield 34, 3) := by decide +kernel
theorem d_Tree_add_52 : decode b_Tree_add 52 = .ok (.iconst 1, 1) := by decide +kernel
theorem d_Tree_add_53 : decode b_Tree_add 53 = .ok (.iadd, 1) := by decide +kernel
theorem d_Tree_add_54 : decode b_Tree_add 54 = .ok (.putfield 34, 3) := by decide +kernel
theorem d_Tree_add_57 : decode b_Tree_add 57 = .ok (.iload 4, 2) := by decide +kernel
theorem d_Tree_add_59 : decode b_Tree_add 59 = .ok (.ireturn, 1) := by decide +kernel
theorem d_Tree_countPart_0 : decode b_Tree_countPart 0 = .ok (.aload_n 0, 1) := by decide +kernel
theorem d_Tree_countPart_1 : decode b_Tree_countPart 1 = .ok (.iload_n 1, 1) := by decide +kernel
theorem d_Tree_countPart_2 : decode b_Tree_countPart 2 = .ok (.invokevirtual 41, 3) := by decide +kernel
theorem d_Tree_countPart_5 : decode b_Tree_countPart 5 = .ok (.ifCond .eq 25, 3) := by decide +kernel
theorem d_Tree_countPart_8 : decode b_Tree_countPart 8 = .ok (.aload_n 0, 1) := by decide +kernel
theorem d_Tree_countPart_9 : decode b_Tree_countPart 9 = .ok (.getfield 15, 3) := by decide +kernel
theorem d_Tree_countPart_12 : decode b_Tree_countPart 12 = .ok (.iload_n 1, 1) := by decide +kernel
theorem d_Tree_countPart_13 : decode b_Tree_countPart 13 = .ok (.dup2, 1) := by decide +kernel
theorem d_Tree_countPart_14 : decode b_Tree_countPart 14 = .ok (.iaload, 1) := by decide +kernel
theorem d_Tree_countPart_15 : decode b_Tree_countPart 15 = .ok (.iconst 1, 1) := by decide +kernel
theorem d_Tree_countPart_16 : decode b_Tree_countPart 16 = .ok (.iadd, 1) := by decide +kernel
theorem d_Tree_countPart_17 : decode b_Tree_countPart 17 = .ok (.iastore, 1) := by decide +kernel
theorem d_Tree_countPart_18 : decode b_Tree_countPart 18 = .ok (.aload_n 0, 1) := by decide +kernel
theorem d_Tree_countPart_19 : decode b_Tree_countPart 19 = .ok (.getfield 22, 3) := by decide +kernel
theorem d_Tree_countPart_22 : decode b_Tree_countPart 22 = .ok (.iload_n 1, 1) := by decide +kernel
theorem d_Tree_countPart_23 : decode b_Tree_countPart 23 = .ok (.aload_n 0, 1) := by decide +kernel
theorem d_Tree_countPart_24 : decode b_Tree_countPart 24 = .ok (.getfield 34, 3) := by decide +kernel
theorem d_Tree_countPart_27 : decode b_Tree_countPart 27 = .ok (.iload_n 1, 1) := by decide +kernel
theorem d_Tree_countPart_28 : decode b_Tree_countPart 28 = .ok (.isub, 1) := by decide +kernel
theorem d_Tree_countPart_29 : decode b_Tree_countPart 29 = .ok (.iastore, 1) := by decide +kernel
theorem d_Tree_countPart_30 : decode b_Tree_countPart 30 = .ok (.return_, 1) := by decide +kernel
theorem d_Tree_text_0 : decode b_Tree_text 0 = .ok (.aload_n 0, 1) := by decide +kernel
theorem d_Tree_text_1 : decode b_Tree_text 1 = .ok (.getfield 30, 3) := by decide +kernel
theorem d_Tree_text_4 : decode b_Tree_text 4 = .ok (.areturn, 1) := by decide +kernel
theorem d_Tree_kind_0 : decode b_Tree_kind 0 = .ok (.aload_n 0, 1) := by decide +kernel
theorem d_Tree_kind_1 : decode b_Tree_kind 1 = .ok (.iload_n 1, 1) := by decide +kernel
theorem d_Tree_kind_2 : decode b_Tree_kind 2 = .ok (.invokevirtual 41, 3) := by decide +kernel
theorem d_Tree_kind_5 : decode b_Tree_kind 5 = .ok (.ifCond .eq 12, 3) := by decide +kernel
theorem d_Tree_kind_8 : decode b_Tree_kind 8 = .ok (.aload_n 0, 1) := by decide +kernel
theorem d_Tree_kind_9 : decode b_Tree_kind 9 = .ok (.getfield 9, 3) := by decide +kernel
theorem d_Tree_kind_12 : decode b_Tree_kind 12 = .ok (.iload_n 1, 1) := by decide +kernel
theorem d_Tree_kind_13 : decode b_Tree_kind 13 = .ok (.baload, 1) := by decide +kernel
theorem d_Tree_kind_14 : decode b_Tree_kind 14 = .ok (.goto 5, 3) := by decide +kernel
theorem d_Tree_kind_17 : decode b_Tree_kind 17 = .ok (.bipush (-2), 2) := by decide +kernel
theorem d_Tree_kind_19 : decode b_Tree_kind 19 = .ok (.ireturn, 1) := by decide +kernel
theorem d_Tree_number_0 : decode b_Tree_number 0 = .ok (.aload_n 0, 1) := by decide +kernel
theorem d_Tree_number_1 : decode b_Tree_number 1 = .ok (.iload_n 1, 1) := by decide +kernel
theorem d_Tree_number_2 : decode b_Tree_number 2 = .ok (.invokevirtual 41, 3) := by decide +kernel
theorem d_Tree_number_5 : decode b_Tree_number 5 = .ok (.ifCond .eq 12, 3) := by decide +kernel
theorem d_Tree_number_8 : decode b_Tree_number 8 = .ok (.aload_n 0, 1) := by decide +kernel
theorem d_Tree_number_9 : decode b_Tree_number 9 = .ok (.getfield 15, 3) := by decide +kernel
theorem d_Tree_number_12 : decode b_Tree_number 12 = .ok (.iload_n 1, 1) := by decide +kernel
theorem d_Tree_number_13 : decode b_Tree_number 13 = .ok (.iaload, 1) := by decide +kernel
theorem d_Tree_number_14 : decode b_Tree_number 14 = .ok (.goto 4, 3) := by decide +kernel
theorem d_Tree_number_17 : decode b_Tree_number 17 = .ok (.iconst 0, 1) := by decide +kernel
theorem d_Tree_number_18 : decode b_Tree_number 18 = .ok (.ireturn, 1) := by decide +kernel
theorem d_Tree_other_0 : decode b_Tree_other 0 = .ok (.aload_n 0, 1) := by decide +kernel
theorem d_Tree_other_1 : decode b_Tree_other 1 = .ok (.iload_n 1, 1) := by decide +kernel
theorem d_Tree_other_2 : decode b_Tree_other 2 = .ok (.invokevirtual 41, 3) := by decide +kernel
theorem d_Tree_other_5 : decode b_Tree_other 5 = .ok (.ifCond .eq 12, 3) := by decide +kernel
theorem d_Tree_other_8 : decode b_Tree_other 8 = .ok (.aload_n 0, 1) := by decide +kernel
theorem d_Tree_other_9 : decode b_Tree_other 9 = .ok (.getfield 19, 3) := by decide +kernel
theorem d_Tree_other_12 : decode b_Tree_other 12 = .ok (.iload_n 1, 1) := by decide +kernel
theorem d_Tree_other_13 : decode b_Tree_other 13 = .ok (.iaload, 1) := by decide +kernel
theorem d_Tree_other_14 : decode b_Tree_other 14 = .ok (.goto 4, 3) := by decide +kernel
theorem d_Tree_other_17 : decode b_Tree_other 17 = .ok (.iconst 0, 1) := by decide +kernel
theorem d_Tree_other_18 : decode b_Tree_other 18 = .ok (.ireturn, 1) := by decide +kernel
theorem d_Tree_holds_0 : decode b_Tree_holds 0 = .ok (.iload_n 1, 1) := by decide +kernel
theorem d_Tree_holds_1 : decode b_Tree_holds 1 = .ok (.ifCond .lt 15, 3) := by decide +kernel
theorem d_Tree_holds_4 : decode b_Tree_holds 4 = .ok (.iload_n 1, 1) := by decide +kernel
theorem d_Tree_holds_5 : decode b_Tree_holds 5 = .ok (.aload_n 0, 1) := by decide +kernel
theorem d_Tree_holds_6 : decode b_Tree_holds 6 = .ok (.getfield 34, 3) := by decide +kernel
theorem d_Tree_holds_9 : decode b_Tree_holds 9 = .ok (.if_icmp .ge 7, 3) := by decide +kernel
theorem d_Tree_holds_12 : decode b_Tree_holds 12 = .ok (.iconst 1, 1) := by decide +kernel
theorem d_Tree_holds_13 : decode b_Tree_holds 13 = .ok (.goto 4, 3) := by decide +kernel
theorem d_Tree_holds_16 : decode b_Tree_holds 16 = .ok (.iconst 0, 1) := by decide +kernel
theorem d_Tree_holds_17 : decode b_Tree_holds 17 = .ok (.ireturn, 1) := by decide +kernel
theorem d_Tree_after_0 : decode b_Tree_after 0 = .ok (.aload_n 0, 1) := by decide +kernel
theorem d_Tree_after_1 : decode b_Tree_after 1 = .ok (.iload_n 1, 1) := by decide +kernel
theorem d_Tree_after_2 : decode b_Tree_after 2 = .ok (.invokevirtual 41, 3) := by decide +kernel
theorem d_Tree_after_5 : decode b_Tree_after 5 = .ok (.ifCond .eq 14, 3) := by decide +kernel
theorem d_Tree_after_8 : decode b_Tree_after 8 = .ok (.iload_n 1, 1) := by decide +kernel
theorem d_Tree_after_9 : decode b_Tree_after 9 = .ok (.aload_n 0, 1) := by decide +kernel
theorem d_Tree_after_10 : decode b_Tree_after 10 = .ok (.getfield 22, 3) := by decide +kernel
theorem d_Tree_after_13 : decode b_Tree_after 13 = .ok (.iload_n 1, 1) := by decide +kernel
theorem d_Tree_after_14 : decode b_Tree_after 14 = .ok (.iaload, 1) := by decide +kernel
theorem d_Tree_after_15 : decode b_Tree_after 15 = .ok (.iadd, 1) := by decide +kernel
theorem d_Tree_after_16 : decode b_Tree_after 16 = .ok (.goto 7, 3) := by decide +kernel
theorem d_Tree_after_19 : decode b_Tree_after 19 = .ok (.aload_n 0, 1) := by decide +kernel
theorem d_Tree_after_20 : decode b_Tree_after 20 = .ok (.getfield 34, 3) := by decide +kernel
theorem d_Tree_after_23 : decode b_Tree_after 23 = .ok (.ireturn, 1) := by decide +kernel
theorem d_Tree_part_0 : decode b_Tree_part 0 = .ok (.iload_n 2, 1) := by decide +kernel
theorem d_Tree_part_1 : decode b_Tree_part 1 = .ok (.ifCond .lt 12, 3) := by decide +kernel
theorem d_Tree_part_4 : decode b_Tree_part 4 = .ok (.iload_n 2, 1) := by decide +kernel
theorem d_Tree_part_5 : decode b_Tree_part 5 = .ok (.aload_n 0, 1) := by decide +kernel
theorem d_Tree_part_6 : decode b_Tree_part 6 = .ok (.iload_n 1, 1) := by decide +kernel
theorem d_Tree_part_7 : decode b_Tree_part 7 = .ok (.invokevirtual 45, 3) := by decide +kernel
theorem d_Tree_part_10 : decode b_Tree_part 10 = .ok (.if_icmp .lt 6, 3) := by decide +kernel
theorem d_Tree_part_13 : decode b_Tree_part 13 = .ok (.bipush (-2), 2) := by decide +kernel
theorem d_Tree_part_15 : decode b_Tree_part 15 = .ok (.ireturn, 1) := by decide +kernel
theorem d_Tree_part_16 : decode b_Tree_part 16 = .ok (.aload_n 0, 1) := by decide +kernel
theorem d_Tree_part_17 : decode b_Tree_part 17 = .ok (.iload_n 1, 1) := by decide +kernel
theorem d_Tree_part_18 : decode b_Tree_part 18 = .ok (.invokevirtual 49, 3) := by decide +kernel
theorem d_Tree_part_21 : decode b_Tree_part 21 = .ok (.bipush 7, 2) := by decide +kernel
theorem d_Tree_part_23 : decode b_Tree_part 23 = .ok (.if_icmp .ne 12, 3) := by decide +kernel
theorem d_Tree_part_26 : decode b_Tree_part 26 = .ok (.aload_n 0, 1) := by decide +kernel
theorem d_Tree_part_27 : decode b_Tree_part 27 = .ok (.iload_n 1, 1) := by decide +kernel
theorem d_Tree_part_28 : decode b_Tree_part 28 = .ok (.iload_n 2, 1) := by decide +kernel
theorem d_Tree_part_29 : decode b_Tree_part 29 = .ok (.invokevirtual 52, 3) := by decide +kernel
theorem d_Tree_part_32 : decode b_Tree_part 32 = .ok (.iconst 1, 1) := by decide +kernel
theorem d_Tree_part_33 : decode b_Tree_part 33 = .ok (.iadd, 1) := by decide +kernel
theorem d_Tree_part_34 : decode b_Tree_part 34 = .ok (.ireturn, 1) := by decide +kernel
theorem d_Tree_part_35 : decode b_Tree_part 35 = .ok (.aload_n 0, 1) := by decide +kernel
theorem d_Tree_part_36 : decode b_Tree_part 36 = .ok (.iload_n 1, 1) := by decide +kernel
theorem d_Tree_part_37 : decode b_Tree_part 37 = .ok (.invokevirtual 49, 3) := by decide +kernel
theorem d_Tree_part_40 : decode b_Tree_part 40 = .ok (.bipush 6, 2) := by decide +kernel
theorem d_Tree_part_42 : decode b_Tree_part 42 = .ok (.if_icmp .ne 12, 3) := by decide +kernel
theorem d_Tree_part_45 : decode b_Tree_part 45 = .ok (.aload_n 0, 1) := by decide +kernel
theorem d_Tree_part_46 : decode b_Tree_part 46 = .ok (.iload_n 1, 1) := by decide +kernel
theorem d_Tree_part_47 : decode b_Tree_part 47 = .ok (.iload_n 2, 1) := by decide +kernel
theorem d_Tree_part_48 : decode b_Tree_part 48 = .ok (.invokevirtual 56, 3) := by decide +kernel
theorem d_Tree_part_51 : decode b_Tree_part 51 = .ok (.goto 5, 3) := by decide +kernel
theorem d_Tree_part_54 : decode b_Tree_part 54 = .ok (.bipush (-2), 2) := by decide +kernel
theorem d_Tree_part_56 : decode b_Tree_part 56 = .ok (.ireturn, 1) := by decide +kernel
theorem d_Tree_itemNode_0 : decode b_Tree_itemNode 0 = .ok (.iload_n 1, 1) := by decide +kernel
theorem d_Tree_itemNode_1 : decode b_Tree_itemNode 1 = .ok (.iconst 1, 1) := by decide +kernel
theorem d_Tree_itemNode_2 : decode b_Tree_itemNode 2 = .ok (.iadd, 1) := by decide +kernel
theorem d_Tree_itemNode_3 : decode b_Tree_itemNode 3 = .ok (.istore_n 3, 1) := by decide +kernel
theorem d_Tree_itemNode_4 : decode b_Tree_itemNode 4 = .ok (.iconst 0, 1) := by decide +kernel
theorem d_Tree_itemNode_5 : decode b_Tree_itemNode 5 = .ok (.istore 4, 2) := by decide +kernel
theorem d_Tree_itemNode_7 : decode b_Tree_itemNode 7 = .ok (.iload 4, 2) := by decide +kernel
theorem d_Tree_itemNode_9 : decode b_Tree_itemNode 9 = .ok (.iload_n 2, 1) := by decide +kernel
theorem d_Tree_itemNode_10 : decode b_Tree_itemNode 10 = .ok (.if_icmp .ge 15, 3) := by decide +kernel
theorem d_Tree_itemNode_13 : decode b_Tree_itemNode 13 = .ok (.aload_n 0, 1) := by decide +kernel
theorem d_Tree_itemNode_14 : decode b_Tree_itemNode 14 = .ok (.iload_n 3, 1) := by decide +kernel
theorem d_Tree_itemNode_15 : decode b_Tree_itemNode 15 = .ok (.invokevirtual 59, 3) := by decide +kernel
theorem d_Tree_itemNode_18 : decode b_Tree_itemNode 18 = .ok (.istore_n 3, 1) := by decide +kernel
theorem d_Tree_itemNode_19 : decode b_Tree_itemNode 19 = .ok (.iinc 4 1, 3) := by decide +kernel
theorem d_Tree_itemNode_22 : decode b_Tree_itemNode 22 = .ok (.goto (-15), 3) := by decide +kernel
theorem d_Tree_itemNode_25 : decode b_Tree_itemNode 25 = .ok (.iload_n 3, 1) := by decide +kernel
theorem d_Tree_itemNode_26 : decode b_Tree_itemNode 26 = .ok (.ireturn, 1) := by decide +kernel
theorem d_Tree_nameNode_0 : decode b_Tree_nameNode 0 = .ok (.iload_n 1, 1) := by decide +kernel
theorem d_Tree_nameNode_1 : decode b_Tree_nameNode 1 = .ok (.iconst 1, 1) := by decide +kernel
theorem d_Tree_nameNode_2 : decode b_Tree_nameNode 2 = .ok (.iadd, 1) := by decide +kernel
theorem d_Tree_nameNode_3 : decode b_Tree_nameNode 3 = .ok (.istore_n 3, 1) := by decide +kernel
theorem d_Tree_nameNode_4 : decode b_Tree_nameNode 4 = .ok (.iconst 0, 1) := by decide +kernel
theorem d_Tree_nameNode_5 : decode b_Tree_nameNode 5 = .ok (.istore 4, 2) := by decide +kernel
theorem d_Tree_nameNode_7 : decode b_Tree_nameNode 7 = .ok (.iload 4, 2) := by decide +kernel
theorem d_Tree_nameNode_9 : decode b_Tree_nameNode 9 = .ok (.iload_n 2, 1) := by decide +kernel
theorem d_Tree_nameNode_10 : decode b_Tree_nameNode 10 = .ok (.if_icmp .ge 17, 3) := by decide +kernel
theorem d_Tree_nameNode_13 : decode b_Tree_nameNode 13 = .ok (.aload_n 0, 1) := by decide +kernel
theorem d_Tree_nameNode_14 : decode b_Tree_nameNode 14 = .ok (.iload_n 3, 1) := by decide +kernel
theorem d_Tree_nameNode_15 : decode b_Tree_nameNode 15 = .ok (.iconst 1, 1) := by decide +kernel
theorem d_Tree_nameNode_16 : decode b_Tree_nameNode 16 = .ok (.iadd, 1) := by decide +kernel
theorem d_Tree_nameNode_17 : decode b_Tree_nameNode 17 = .ok (.invokevirtual 59, 3) := by decide +kernel
theorem d_Tree_nameNode_20 : decode b_Tree_nameNode 20 = .ok (.istore_n 3, 1) := by decide +kernel
theorem d_Tree_nameNode_21 : decode b_Tree_nameNode 21 = .ok (.iinc 4 1, 3) := by decide +kernel
theorem d_Tree_nameNode_24 : decode b_Tree_nameNode 24 = .ok (.goto (-17), 3) := by decide +kernel
theorem d_Tree_nameNode_27 : decode b_Tree_nameNode 27 = .ok (.iload_n 3, 1) := by decide +kernel
theorem d_Tree_nameNode_28 : decode b_Tree_nameNode 28 = .ok (.ireturn, 1) := by decide +kernel
theorem d_Tree_valueNamed_0 : decode b_Tree_valueNamed 0 = .ok (.aload_n 0, 1) := by decide +kernel
theorem d_Tree_valueNamed_1 : decode b_Tree_valueNamed 1 = .ok (.iload_n 1, 1) := by decide +kernel
theorem d_Tree_valueNamed_2 : decode b_Tree_valueNamed 2 = .ok (.invokevirtual 49, 3) := by decide +kernel
theorem d_Tree_valueNamed_5 : decode b_Tree_valueNamed 5 = .ok (.bipush 7, 2) := by decide +kernel
theorem d_Tree_valueNamed_7 : decode b_Tree_valueNamed 7 = .ok (.if_icmp .ne 11, 3) := by decide +kernel
theorem d_Tree_valueNamed_10 : decode b_Tree_valueNamed 10 = .ok (.aload_n 0, 1) := by decide +kernel
theorem d_Tree_valueNamed_11 : decode b_Tree_valueNamed 11 = .ok (.iload_n 1, 1) := by decide +kernel
theorem d_Tree_valueNamed_12 : decode b_Tree_valueNamed 12 = .ok (.invokevirtual 45, 3) := by decide +kernel
theorem d_Tree_valueNamed_15 : decode b_Tree_valueNamed 15 = .ok (.goto 4, 3) := by decide +kernel
theorem d_Tree_valueNamed_18 : decode b_Tree_valueNamed 18 = .ok (.iconst 0, 1) := by decide +kernel
theorem d_Tree_valueNamed_19 : decode b_Tree_valueNamed 19 = .ok (.istore 5, 2) := by decide +kernel
theorem d_Tree_valueNamed_21 : decode b_Tree_valueNamed 21 = .ok (.iload_n 1, 1) := by decide +kernel
theorem d_Tree_valueNamed_22 : decode b_Tree_valueNamed 22 = .ok (.iconst 1, 1) := by decide +kernel
theorem d_Tree_valueNamed_23 : decode b_Tree_valueNamed 23 = .ok (.iadd, 1) := by decide +kernel
theorem d_Tree_valueNamed_24 : decode b_Tree_valueNamed 24 = .ok (.istore 6, 2) := by decide +kernel
theorem d_Tree_valueNamed_26 : decode b_Tree_valueNamed 26 = .ok (.iconst 0, 1) := by decide +kernel
theorem d_Tree_valueNamed_27 : decode b_Tree_valueNamed 27 = .ok (.istore 7, 2) := by decide +kernel
theorem d_Tree_valueNamed_29 : decode b_Tree_valueNamed 29 = .ok (.iload 7, 2) := by decide +kernel
theorem d_Tree_valueNamed_31 : decode b_Tree_valueNamed 31 = .ok (.iload 5, 2) := by decide +kernel
theorem d_Tree_valueNamed_33 : decode b_Tree_valueNamed 33 = .ok (.if_icmp .ge 55, 3) := by decide +kernel
theorem d_Tree_valueNamed_36 : decode b_Tree_valueNamed 36 = .ok (.aload_n 0, 1) := by decide +kernel
theorem d_Tree_valueNamed_37 : decode b_Tree_valueNamed 37 = .ok (.iload 6, 2) := by decide +kernel
theorem d_Tree_valueNamed_39 : decode b_Tree_valueNamed 39 = .ok (.invokevirtual 45, 3) := by decide +kernel
theorem d_Tree_valueNamed_42 : decode b_Tree_valueNamed 42 = .ok (.iload 4, 2) := by decide +kernel
theorem d_Tree_valueNamed_44 : decode b_Tree_valueNamed 44 = .ok (.if_icmp .ne 28, 3) := by decide +kernel
theorem d_Tree_valueNamed_47 : decode b_Tree_valueNamed 47 = .ok (.aload_n 0, 1) := by decide +kernel
theorem d_Tree_valueNamed_48 : decode b_Tree_valueNamed 48 = .ok (.getfield 30, 3) := by decide +kernel
theorem d_Tree_valueNamed_51 : decode b_Tree_valueNamed 51 = .ok (.aload_n 0, 1) := by decide +kernel
theorem d_Tree_valueNamed_52 : decode b_Tree_valueNamed 52 = .ok (.iload 6, 2) := by decide +kernel
theorem d_Tree_valueNamed_54 : decode b_Tree_valueNamed 54 = .ok (.invokevirtual 62, 3) := by decide +kernel
theorem d_Tree_valueNamed_57 : decode b_Tree_valueNamed 57 = .ok (.aload_n 2, 1) := by decide +kernel
theorem d_Tree_valueNamed_58 : decode b_Tree_valueNamed 58 = .ok (.iload_n 3, 1) := by decide +kernel
theorem d_Tree_valueNamed_59 : decode b_Tree_valueNamed 59 = .ok (.iload 4, 2) := by decide +kernel
theorem d_Tree_valueNamed_61 : decode b_Tree_valueNamed 61 = .ok (.invokevirtual 65, 3) := by decide +kernel
theorem d_Tree_valueNamed_64 : decode b_Tree_valueNamed 64 = .ok (.ifCond .eq 8, 3) := by decide +kernel
theorem d_Tree_valueNamed_67 : decode b_Tree_valueNamed 67 = .ok (.iload 6, 2) := by decide +kernel
theorem d_Tree_valueNamed_69 : decode b_Tree_valueNamed 69 = .ok (.iconst 1, 1) := by decide +kernel
theorem d_Tree_valueNamed_70 : decode b_Tree_valueNamed 70 = .ok (.iadd, 1) := by decide +kernel
theorem d_Tree_valueNamed_71 : decode b_Tree_valueNamed 71 = .ok (.ireturn, 1) := by decide +kernel
theorem d_Tree_valueNamed_72 : decode b_Tree_valueNamed 72 = .ok (.aload_n 0, 1) := by decide +kernel
theorem d_Tree_valueNamed_73 : decode b_Tree_valueNamed 73 = .ok (.iload 6, 2) := by decide +kernel
theorem d_Tree_valueNamed_75 : decode b_Tree_valueNamed 75 = .ok (.iconst 1, 1) := by decide +kernel
theorem d_Tree_valueNamed_76 : decode b_Tree_valueNamed 76 = .ok (.iadd, 1) := by decide +kernel
theorem d_Tree_valueNamed_77 : decode b_Tree_valueNamed 77 = .ok (.invokevirtual 59, 3) := by decide +kernel
theorem d_Tree_valueNamed_80 : decode b_Tree_valueNamed 80 = .ok (.istore 6, 2) := by decide +kernel
theorem d_Tree_valueNamed_82 : decode b_Tree_valueNamed 82 = .ok (.iinc 7 1, 3) := by decide +kernel
theorem d_Tree_valueNamed_85 : decode b_Tree_valueNamed 85 = .ok (.goto (-56), 3) := by decide +kernel
theorem d_Tree_valueNamed_88 : decode b_Tree_valueNamed 88 = .ok (.bipush (-2), 2) := by decide +kernel
theorem d_Tree_valueNamed_90 : decode b_Tree_valueNamed 90 = .ok (.ireturn, 1) := by decide +kernel
theorem d_Tree_nodeWithText_0 : decode b_Tree_nodeWithText 0 = .ok (.aload_n 0, 1) := by decide +kernel
theorem d_Tree_nodeWithText_1 : decode b_Tree_nodeWithText 1 = .ok (.iload_n 1, 1) := by decide +kernel
theorem d_Tree_nodeWithText_2 : decode b_Tree_nodeWithText 2 = .ok (.invokevirtual 49, 3) := by decide +kernel
theorem d_Tree_nodeWithText_5 : decode b_Tree_nodeWithText 5 = .ok (.istore_n 3, 1) := by decide +kernel
theorem d_Tree_nodeWithText_6 : decode b_Tree_nodeWithText 6 = .ok (.iload_n 3, 1) := by decide +kernel
theorem d_Tree_nodeWithText_7 : decode b_Tree_nodeWithText 7 = .ok (.iconst 4, 1) := by decide +kernel
theorem d_Tree_nodeWithText_8 : decode b_Tree_nodeWithText 8 = .ok (.if_icmp .eq 8, 3) := by decide +kernel
theorem d_Tree_nodeWithText_11 : decode b_Tree_nodeWithText 11 = .ok (.iload_n 3, 1) := by decide +kernel
theorem d_Tree_nodeWithText_12 : decode b_Tree_nodeWithText 12 = .ok (.iconst 5, 1) := by decide +kernel
theorem d_Tree_nodeWithText_13 : decode b_Tree_nodeWithText 13 = .ok (.if_icmp .ne 5, 3) := by decide +kernel
theorem d_Tree_nodeWithText_16 : decode b_Tree_nodeWithText 16 = .ok (.iload_n 1, 1) := by decide +kernel
theorem d_Tree_nodeWithText_17 : decode b_Tree_nodeWithText 17 = .ok (.ireturn, 1) := by decide +kernel
theorem d_Tree_nodeWithText_18 : decode b_Tree_nodeWithText 18 = .ok (.iload_n 3, 1) := by decide +kernel
theorem d_Tree_nodeWithText_19 : decode b_Tree_nodeWithText 19 = .ok (.bipush 7, 2) := by decide +kernel
theorem d_Tree_nodeWithText_21 : decode b_Tree_nodeWithText 21 = .ok (.if_icmp .ne 25, 3) := by decide +kernel
theorem d_Tree_nodeWithText_24 : decode b_Tree_nodeWithText 24 = .ok (.iload_n 2, 1) := by decide +kernel
theorem d_Tree_nodeWithText_25 : decode b_Tree_nodeWithText 25 = .ok (.ifCond .lt 21, 3) := by decide +kernel
theorem d_Tree_nodeWithText_28 : decode b_Tree_nodeWithText 28 = .ok (.iload_n 2, 1) := by decide +kernel
theorem d_Tree_nodeWithText_29 : decode b_Tree_nodeWithText 29 = .ok (.aload_n 0, 1) := by decide +kernel
theorem d_Tree_nodeWithText_30 : decode b_Tree_nodeWithText 30 = .ok (.iload_n 1, 1) := by decide +kernel
theorem d_Tree_nodeWithText_31 : decode b_Tree_nodeWithText 31 = .ok (.invokevirtual 45, 3) := by decide +kernel
theorem d_Tree_nodeWithText_34 : decode b_Tree_nodeWithText 34 = .ok (.if_icmp .ge 12, 3) := by decide +kernel
theorem d_Tree_nodeWithText_37 : decode b_Tree_nodeWithText 37 = .ok (.aload_n 0, 1) := by decide +kernel
theorem d_Tree_nodeWithText_38 : decode b_Tree_nodeWithText 38 = .ok (.iload_n 1, 1) := by decide +kernel
theorem d_Tree_nodeWithText_39 : decode b_Tree_nodeWithText 39 = .ok (.iload_n 2, 1) := by decide +kernel
theorem d_Tree_nodeWithText_40 : decode b_Tree_nodeWithText 40 = .ok (.invokevirtual 52, 3) := by decide +kernel
theorem d_Tree_nodeWithText_43 : decode b_Tree_nodeWithText 43 = .ok (.goto 5, 3) := by decide +kernel
theorem d_Tree_nodeWithText_46 : decode b_Tree_nodeWithText 46 = .ok (.bipush (-2), 2) := by decide +kernel
theorem d_Tree_nodeWithText_48 : decode b_Tree_nodeWithText 48 = .ok (.ireturn, 1) := by decide +kernel
theorem d_Tree_countValues_0 : decode b_Tree_countValues 0 = .ok (.iconst 0, 1) := by decide +kernel
theorem d_Tree_countValues_1 : decode b_Tree_countValues 1 = .ok (.istore_n 2, 1) := by decide +kernel
theorem d_Tree_countValues_2 : decode b_Tree_countValues 2 = .ok (.aload_n 0, 1) := by decide +kernel
theorem d_Tree_countValues_3 : decode b_Tree_countValues 3 = .ok (.iload_n 1, 1) := by decide +kernel
theorem d_Tree_countValues_4 : decode b_Tree_countValues 4 = .ok (.invokevirtual 59, 3) := by decide +kernel
theorem d_Tree_countValues_7 : decode b_Tree_countValues 7 = .ok (.istore_n 3, 1) := by decide +kernel
theorem d_Tree_countValues_8 : decode b_Tree_countValues 8 = .ok (.iload_n 1, 1) := by decide +kernel
theorem d_Tree_countValues_9 : decode b_Tree_countValues 9 = .ok (.istore 4, 2) := by decide +kernel
theorem d_Tree_countValues_11 : decode b_Tree_countValues 11 = .ok (.iload 4, 2) := by decide +kernel
theorem d_Tree_countValues_13 : decode b_Tree_countValues 13 = .ok (.iload_n 3, 1) := by decide +kernel
theorem d_Tree_countValues_14 : decode b_Tree_countValues 14 = .ok (.if_icmp .ge 35, 3) := by decide +kernel
theorem d_Tree_countValues_17 : decode b_Tree_countValues 17 = .ok (.iload_n 2, 1) := by decide +kernel
theorem d_Tree_countValues_18 : decode b_Tree_countValues 18 = .ok (.aload_n 0, 1) := by decide +kernel
theorem d_Tree_countValues_19 : decode b_Tree_countValues 19 = .ok (.iload 4, 2) := by decide +kernel
theorem d_Tree_countValues_21 : decode b_Tree_countValues 21 = .ok (.invokevirtual 49, 3) := by decide +kernel
theorem d_Tree_countValues_24 : decode b_Tree_countValues 24 = .ok (.bipush 7, 2) := by decide +kernel
theorem d_Tree_countValues_26 : decode b_Tree_countValues 26 = .ok (.if_icmp .ne 14, 3) := by decide +kernel
theorem d_Tree_countValues_29 : decode b_Tree_countValues 29 = .ok (.iconst 1, 1) := by decide +kernel
theorem d_Tree_countValues_30 : decode b_Tree_countValues 30 = .ok (.aload_n 0, 1) := by decide +kernel
theorem d_Tree_countValues_31 : decode b_Tree_countValues 31 = .ok (.iload 4, 2) := by decide +kernel
theorem d_Tree_countValues_33 : decode b_Tree_countValues 33 = .ok (.invokevirtual 45, 3) := by decide +kernel
theorem d_Tree_countValues_36 : decode b_Tree_countValues 36 = .ok (.isub, 1) := by decide +kernel
theorem d_Tree_countValues_37 : decode b_Tree_countValues 37 = .ok (.goto 4, 3) := by decide +kernel
theorem d_Tree_countValues_40 : decode b_Tree_countValues 40 = .ok (.iconst 1, 1) := by decide +kernel
theorem d_Tree_countValues_41 : decode b_Tree_countValues 41 = .ok (.iadd, 1) := by decide +kernel
theorem d_Tree_countValues_42 : decode b_Tree_countValues 42 = .ok (.istore_n 2, 1) := by decide +kernel
theorem d_Tree_countValues_43 : decode b_Tree_countValues 43 = .ok (.iinc 4 1, 3) := by decide +kernel
theorem d_Tree_countValues_46 : decode b_Tree_countValues 46 = .ok (.goto (-35), 3) := by decide +kernel
theorem d_Tree_countValues_49 : decode b_Tree_countValues 49 = .ok (.iload_n 2, 1) := by decide +kernel
theorem d_Tree_countValues_50 : decode b_Tree_countValues 50 = .ok (.ireturn, 1) := by decide +kernel
