theorem d_Row_init_0 : decode b_Row_init 0 = .ok (.aload_n 0, 1) := by decide +kernel
theorem d_Row_init_1 : decode b_Row_init 1 = .ok (.invokespecial 1, 3) := by decide +kernel
theorem d_Row_init_4 : decode b_Row_init 4 = .ok (.aload_n 0, 1) := by decide +kernel
theorem d_Row_init_5 : decode b_Row_init 5 = .ok (.iload_n 1, 1) := by decide +kernel
theorem d_Row_init_6 : decode b_Row_init 6 = .ok (.newarray .byte, 2) := by decide +kernel
theorem d_Row_init_8 : decode b_Row_init 8 = .ok (.putfield 7, 3) := by decide +kernel
theorem d_Row_init_11 : decode b_Row_init 11 = .ok (.aload_n 0, 1) := by decide +kernel
theorem d_Row_init_12 : decode b_Row_init 12 = .ok (.iconst 0, 1) := by decide +kernel
theorem d_Row_init_13 : decode b_Row_init 13 = .ok (.putfield 13, 3) := by decide +kernel
theorem d_Row_init_16 : decode b_Row_init 16 = .ok (.return_, 1) := by decide +kernel
theorem d_Row_size_0 : decode b_Row_size 0 = .ok (.aload_n 0, 1) := by decide +kernel
theorem d_Row_size_1 : decode b_Row_size 1 = .ok (.getfield 13, 3) := by decide +kernel
theorem d_Row_size_4 : decode b_Row_size 4 = .ok (.ireturn, 1) := by decide +kernel
theorem d_Row_get_0 : decode b_Row_get 0 = .ok (.iload_n 1, 1) := by decide +kernel
theorem d_Row_get_1 : decode b_Row_get 1 = .ok (.ifCond .lt 24, 3) := by decide +kernel
theorem d_Row_get_4 : decode b_Row_get 4 = .ok (.iload_n 1, 1) := by decide +kernel
theorem d_Row_get_5 : decode b_Row_get 5 = .ok (.aload_n 0, 1) := by decide +kernel
theorem d_Row_get_6 : decode b_Row_get 6 = .ok (.getfield 13, 3) := by decide +kernel
theorem d_Row_get_9 : decode b_Row_get 9 = .ok (.if_icmp .ge 16, 3) := by decide +kernel
theorem d_Row_get_12 : decode b_Row_get 12 = .ok (.aload_n 0, 1) := by decide +kernel
theorem d_Row_get_13 : decode b_Row_get 13 = .ok (.getfield 7, 3) := by decide +kernel
theorem d_Row_get_16 : decode b_Row_get 16 = .ok (.iload_n 1, 1) := by decide +kernel
theorem d_Row_get_17 : decode b_Row_get 17 = .ok (.baload, 1) := by decide +kernel
theorem d_Row_get_18 : decode b_Row_get 18 = .ok (.sipush 255, 3) := by decide +kernel
theorem d_Row_get_21 : decode b_Row_get 21 = .ok (.iand, 1) := by decide +kernel
theorem d_Row_get_22 : decode b_Row_get 22 = .ok (.goto 4, 3) := by decide +kernel
theorem d_Row_get_25 : decode b_Row_get 25 = .ok (.iconst (-1), 1) := by decide +kernel
theorem d_Row_get_26 : decode b_Row_get 26 = .ok (.ireturn, 1) := by decide +kernel
theorem d_Row_cut_0 : decode b_Row_cut 0 = .ok (.iload_n 1, 1) := by decide +kernel
theorem d_Row_cut_1 : decode b_Row_cut 1 = .ok (.ifCond .lt 16, 3) := by decide +kernel
theorem d_Row_cut_4 : decode b_Row_cut 4 = .ok (.iload_n 1, 1) := by decide +kernel
theorem d_Row_cut_5 : decode b_Row_cut 5 = .ok (.aload_n 0, 1) := by decide +kernel
theorem d_Row_cut_6 : decode b_Row_cut 6 = .ok (.getfield 13, 3) := by decide +kernel
theorem d_Row_cut_9 : decode b_Row_cut 9 = .ok (.if_icmp .gt 8, 3) := by decide +kernel
theorem d_Row_cut_12 : decode b_Row_cut 12 = .ok (.aload_n 0, 1) := by decide +kernel
theorem d_Row_cut_13 : decode b_Row_cut 13 = .ok (.iload_n 1, 1) := by decide +kernel
theorem d_Row_cut_14 : decode b_Row_cut 14 = .ok (.putfield 13, 3) := by decide +kernel
theorem d_Row_cut_17 : decode b_Row_cut 17 = .ok (.return_, 1) := by decide +kernel
theorem d_Row_add_0 : decode b_Row_add 0 = .ok (.aload_n 0, 1) := by decide +kernel
theorem d_Row_add_1 : decode b_Row_add 1 = .ok (.getfield 13, 3) := by decide +kernel
theorem d_Row_add_4 : decode b_Row_add 4 = .ok (.aload_n 0, 1) := by decide +kernel
theorem d_Row_add_5 : decode b_Row_add 5 = .ok (.getfield 7, 3) := by decide +kernel
theorem d_Row_add_8 : decode b_Row_add 8 = .ok (.arraylength, 1) := by decide +kernel
theorem d_Row_add_9 : decode b_Row_add 9 = .ok (.if_icmp .ge 24, 3) := by decide +kernel
theorem d_Row_add_12 : decode b_Row_add 12 = .ok (.aload_n 0, 1) := by decide +kernel
theorem d_Row_add_13 : decode b_Row_add 13 = .ok (.getfield 7, 3) := by decide +kernel
theorem d_Row_add_16 : decode b_Row_add 16 = .ok (.aload_n 0, 1) := by decide +kernel
theorem d_Row_add_17 : decode b_Row_add 17 = .ok (.getfield 13, 3) := by decide +kernel
theorem d_Row_add_20 : decode b_Row_add 20 = .ok (.iload_n 1, 1) := by decide +kernel
theorem d_Row_add_21 : decode b_Row_add 21 = .ok (.i2b, 1) := by decide +kernel
theorem d_Row_add_22 : decode b_Row_add 22 = .ok (.bastore, 1) := by decide +kernel
theorem d_Row_add_23 : decode b_Row_add 23 = .ok (.aload_n 0, 1) := by decide +kernel
theorem d_Row_add_24 : decode b_Row_add 24 = .ok (.dup, 1) := by decide +kernel
theorem d_Row_add_25 : decode b_Row_add 25 = .ok (.getfield 13, 3) := by decide +kernel
theorem d_Row_add_28 : decode b_Row_add 28 = .ok (.iconst 1, 1) := by decide +kernel
theorem d_Row_add_29 : decode b_Row_add 29 = .ok (.iadd, 1) := by decide +kernel
theorem d_Row_add_30 : decode b_Row_add 30 = .ok (.putfield 13, 3) := by decide +kernel
theorem d_Row_add_33 : decode b_Row_add 33 = .ok (.return_, 1) := by decide +kernel
theorem d_Row_addFour_0 : decode b_Row_addFour 0 = .ok (.aload_n 0, 1) := by decide +kernel
theorem d_Row_addFour_1 : decode b_Row_addFour 1 = .ok (.iload_n 1, 1) := by decide +kernel
theorem d_Row_addFour_2 : decode b_Row_addFour 2 = .ok (.bipush 24, 2) := by decide +kernel
theorem d_Row_addFour_4 : decode b_Row_addFour 4 = .ok (.iushr, 1) := by decide +kernel
theorem d_Row_addFour_5 : decode b_Row_addFour 5 = .ok (.invokevirtual 17, 3) := by decide +kernel
theorem d_Row_addFour_8 : decode b_Row_addFour 8 = .ok (.aload_n 0, 1) := by decide +kernel
theorem d_Row_addFour_9 : decode b_Row_addFour 9 = .ok (.iload_n 1, 1) := by decide +kernel
theorem d_Row_addFour_10 : decode b_Row_addFour 10 = .ok (.bipush 16, 2) := by decide +kernel
theorem d_Row_addFour_12 : decode b_Row_addFour 12 = .ok (.iushr, 1) := by decide +kernel
theorem d_Row_addFour_13 : decode b_Row_addFour 13 = .ok (.invokevirtual 17, 3) := by decide +kernel
theorem d_Row_addFour_16 : decode b_Row_addFour 16 = .ok (.aload_n 0, 1) := by decide +kernel
theorem d_Row_addFour_17 : decode b_Row_addFour 17 = .ok (.iload_n 1, 1) := by decide +kernel
theorem d_Row_addFour_18 : decode b_Row_addFour 18 = .ok (.bipush 8, 2) := by decide +kernel
theorem d_Row_addFour_20 : decode b_Row_addFour 20 = .ok (.iushr, 1) := by decide +kernel
theorem d_Row_addFour_21 : decode b_Row_addFour 21 = .ok (.invokevirtual 17, 3) := by decide +kernel
theorem d_Row_addFour_24 : decode b_Row_addFour 24 = .ok (.aload_n 0, 1) := by decide +kernel
theorem d_Row_addFour_25 : decode b_Row_addFour 25 = .ok (.iload_n 1, 1) := by decide +kernel
theorem d_Row_addFour_26 : decode b_Row_addFour 26 = .ok (.invokevirtual 17, 3) := by decide +kernel
theorem d_Row_addFour_29 : decode b_Row_addFour 29 = .ok (.return_, 1) := by decide +kernel
theorem d_Row_addWord_0 : decode b_Row_addWord 0 = .ok (.iconst 0, 1) := by decide +kernel
theorem d_Row_addWord_1 : decode b_Row_addWord 1 = .ok (.istore_n 2, 1) := by decide +kernel
theorem d_Row_addWord_2 : decode b_Row_addWord 2 = .ok (.iload_n 2, 1) := by decide +kernel
theorem d_Row_addWord_3 : decode b_Row_addWord 3 = .ok (.aload_n 1, 1) := by decide +kernel
theorem d_Row_addWord_4 : decode b_Row_addWord 4 = .ok (.invokevirtual 21, 3) := by decide +kernel
theorem d_Row_addWord_7 : decode b_Row_addWord 7 = .ok (.if_icmp .ge 18, 3) := by decide +kernel
theorem d_Row_addWord_10 : decode b_Row_addWord 10 = .ok (.aload_n 0, 1) := by decide +kernel
theorem d_Row_addWord_11 : decode b_Row_addWord 11 = .ok (.aload_n 1, 1) := by decide +kernel
theorem d_Row_addWord_12 : decode b_Row_addWord 12 = .ok (.iload_n 2, 1) := by decide +kernel
theorem d_Row_addWord_13 : decode b_Row_addWord 13 = .ok (.invokevirtual 27, 3) := by decide +kernel
theorem d_Row_addWord_16 : decode b_Row_addWord 16 = .ok (.invokevirtual 17, 3) := by decide +kernel
theorem d_Row_addWord_19 : decode b_Row_addWord 19 = .ok (.iinc 2 1, 3) := by decide +kernel
theorem d_Row_addWord_22 : decode b_Row_addWord 22 = .ok (.goto (-20), 3) := by decide +kernel
theorem d_Row_addWord_25 : decode b_Row_addWord 25 = .ok (.return_, 1) := by decide +kernel
theorem d_Row_addFrom_0 : decode b_Row_addFrom 0 = .ok (.iconst 0, 1) := by decide +kernel
theorem d_Row_addFrom_1 : decode b_Row_addFrom 1 = .ok (.istore 4, 2) := by decide +kernel
theorem d_Row_addFrom_3 : decode b_Row_addFrom 3 = .ok (.iload 4, 2) := by decide +kernel
theorem d_Row_addFrom_5 : decode b_Row_addFrom 5 = .ok (.iload_n 3, 1) := by decide +kernel
theorem d_Row_addFrom_6 : decode b_Row_addFrom 6 = .ok (.if_icmp .ge 21, 3) := by decide +kernel
theorem d_Row_addFrom_9 : decode b_Row_addFrom 9 = .ok (.aload_n 0, 1) := by decide +kernel
theorem d_Row_addFrom_10 : decode b_Row_addFrom 10 = .ok (.aload_n 1, 1) := by decide +kernel
theorem d_Row_addFrom_11 : decode b_Row_addFrom 11 = .ok (.iload_n 2, 1) := by decide +kernel
theorem d_Row_addFrom_12 : decode b_Row_addFrom 12 = .ok (.iload 4, 2) := by decide +kernel
theorem d_Row_addFrom_14 : decode b_Row_addFrom 14 = .ok (.iadd, 1) := by decide +kernel
theorem d_Row_addFrom_15 : decode b_Row_addFrom 15 = .ok (.invokevirtual 31, 3) := by decide +kernel
theorem d_Row_addFrom_18 : decode b_Row_addFrom 18 = .ok (.invokevirtual 17, 3) := by decide +kernel
theorem d_Row_addFrom_21 : decode b_Row_addFrom 21 = .ok (.iinc 4 1, 3) := by decide +kernel
theorem d_Row_addFrom_24 : decode b_Row_addFrom 24 = .ok (.goto (-21), 3) := by decide +kernel
theorem d_Row_addFrom_27 : decode b_Row_addFrom 27 = .ok (.return_, 1) := by decide +kernel
theorem d_Row_hasAt_0 : decode b_Row_hasAt 0 = .ok (.iconst 0, 1) := by decide +kernel
theorem d_Row_hasAt_1 : decode b_Row_hasAt 1 = .ok (.istore 5, 2) := by decide +kernel
theorem d_Row_hasAt_3 : decode b_Row_hasAt 3 = .ok (.iload 5, 2) := by decide +kernel
theorem d_Row_hasAt_5 : decode b_Row_hasAt 5 = .ok (.iload 4, 2) := by decide +kernel
theorem d_Row_hasAt_7 : decode b_Row_hasAt 7 = .ok (.if_icmp .ge 30, 3) := by decide +kernel
theorem d_Row_hasAt_10 : decode b_Row_hasAt 10 = .ok (.aload_n 0, 1) := by decide +kernel
theorem d_Row_hasAt_11 : decode b_Row_hasAt 11 = .ok (.iload_n 1, 1) := by decide +kernel
theorem d_Row_hasAt_12 : decode b_Row_hasAt 12 = .ok (.iload 5, 2) := by decide +kernel
theorem d_Row_hasAt_14 : decode b_Row_hasAt 14 = .ok (.iadd, 1) := by decide +kernel
theorem d_Row_hasAt_15 : decode b_Row_hasAt 15 = .ok (.invokevirtual 31, 3) := by decide +kernel
theorem d_Row_hasAt_18 : decode b_Row_hasAt 18 = .ok (.aload_n 2, 1) := by decide +kernel
theorem d_Row_hasAt_19 : decode b_Row_hasAt 19 = .ok (.iload_n 3, 1) := by decide +kernel
theorem d_Row_hasAt_20 : decode b_Row_hasAt 20 = .ok (.iload 5, 2) := by decide +kernel
theorem d_Row_hasAt_22 : decode b_Row_hasAt 22 = .ok (.iadd, 1) := by decide +kernel
theorem d_Row_hasAt_23 : decode b_Row_hasAt 23 = .ok (.invokevirtual 31, 3) := by decide +kernel
theorem d_Row_hasAt_26 : decode b_Row_hasAt 26 = .ok (.if_icmp .eq 5, 3) := by decide +kernel
theorem d_Row_hasAt_29 : decode b_Row_hasAt 29 = .ok (.iconst 0, 1) := by decide +kernel
theorem d_Row_hasAt_30 : decode b_Row_hasAt 30 = .ok (.ireturn, 1) := by decide +kernel
theorem d_Row_hasAt_31 : decode b_Row_hasAt 31 = .ok (.iinc 5 1, 3) := by decide +kernel
theorem d_Row_hasAt_34 : decode b_Row_hasAt 34 = .ok (.goto (-31), 3) := by decide +kernel
theorem d_Row_hasAt_37 : decode b_Row_hasAt 37 = .ok (.iconst 1, 1) := by decide +kernel
theorem d_Row_hasAt_38 : decode b_Row_hasAt 38 = .ok (.ireturn, 1) := by decide +kernel
