theorem d_Reader_init_0 : decode b_Reader_init 0 = .ok (.aload_n 0, 1) := by decide +kernel
theorem d_Reader_init_1 : decode b_Reader_init 1 = .ok (.invokespecial 3, 3) := by decide +kernel
theorem d_Reader_init_4 : decode b_Reader_init 4 = .ok (.aload_n 0, 1) := by decide +kernel
theorem d_Reader_init_5 : decode b_Reader_init 5 = .ok (.aload_n 1, 1) := by decide +kernel
theorem d_Reader_init_6 : decode b_Reader_init 6 = .ok (.putfield 9, 3) := by decide +kernel
theorem d_Reader_init_9 : decode b_Reader_init 9 = .ok (.aload_n 0, 1) := by decide +kernel
theorem d_Reader_init_10 : decode b_Reader_init 10 = .ok (.aload_n 2, 1) := by decide +kernel
theorem d_Reader_init_11 : decode b_Reader_init 11 = .ok (.putfield 15, 3) := by decide +kernel
theorem d_Reader_init_14 : decode b_Reader_init 14 = .ok (.aload_n 0, 1) := by decide +kernel
theorem d_Reader_init_15 : decode b_Reader_init 15 = .ok (.iconst 0, 1) := by decide +kernel
theorem d_Reader_init_16 : decode b_Reader_init 16 = .ok (.putfield 19, 3) := by decide +kernel
theorem d_Reader_init_19 : decode b_Reader_init 19 = .ok (.return_, 1) := by decide +kernel
theorem d_Reader_readsAll_0 : decode b_Reader_readsAll 0 = .ok (.aload_n 0, 1) := by decide +kernel
theorem d_Reader_readsAll_1 : decode b_Reader_readsAll 1 = .ok (.getfield 15, 3) := by decide +kernel
theorem d_Reader_readsAll_4 : decode b_Reader_readsAll 4 = .ok (.invokevirtual 23, 3) := by decide +kernel
theorem d_Reader_readsAll_7 : decode b_Reader_readsAll 7 = .ok (.aload_n 0, 1) := by decide +kernel
theorem d_Reader_readsAll_8 : decode b_Reader_readsAll 8 = .ok (.iconst 0, 1) := by decide +kernel
theorem d_Reader_readsAll_9 : decode b_Reader_readsAll 9 = .ok (.invokevirtual 28, 3) := by decide +kernel
theorem d_Reader_readsAll_12 : decode b_Reader_readsAll 12 = .ok (.ifCond .ne 5, 3) := by decide +kernel
theorem d_Reader_readsAll_15 : decode b_Reader_readsAll 15 = .ok (.iconst 0, 1) := by decide +kernel
theorem d_Reader_readsAll_16 : decode b_Reader_readsAll 16 = .ok (.ireturn, 1) := by decide +kernel
theorem d_Reader_readsAll_17 : decode b_Reader_readsAll 17 = .ok (.aload_n 0, 1) := by decide +kernel
theorem d_Reader_readsAll_18 : decode b_Reader_readsAll 18 = .ok (.aload_n 0, 1) := by decide +kernel
theorem d_Reader_readsAll_19 : decode b_Reader_readsAll 19 = .ok (.aload_n 0, 1) := by decide +kernel
theorem d_Reader_readsAll_20 : decode b_Reader_readsAll 20 = .ok (.getfield 19, 3) := by decide +kernel
theorem d_Reader_readsAll_23 : decode b_Reader_readsAll 23 = .ok (.invokevirtual 32, 3) := by decide +kernel
theorem d_Reader_readsAll_26 : decode b_Reader_readsAll 26 = .ok (.putfield 19, 3) := by decide +kernel
theorem d_Reader_readsAll_29 : decode b_Reader_readsAll 29 = .ok (.aload_n 0, 1) := by decide +kernel
theorem d_Reader_readsAll_30 : decode b_Reader_readsAll 30 = .ok (.getfield 19, 3) := by decide +kernel
theorem d_Reader_readsAll_33 : decode b_Reader_readsAll 33 = .ok (.aload_n 0, 1) := by decide +kernel
theorem d_Reader_readsAll_34 : decode b_Reader_readsAll 34 = .ok (.getfield 9, 3) := by decide +kernel
theorem d_Reader_readsAll_37 : decode b_Reader_readsAll 37 = .ok (.invokevirtual 36, 3) := by decide +kernel
theorem d_Reader_readsAll_40 : decode b_Reader_readsAll 40 = .ok (.if_icmp .ne 7, 3) := by decide +kernel
theorem d_Reader_readsAll_43 : decode b_Reader_readsAll 43 = .ok (.iconst 1, 1) := by decide +kernel
theorem d_Reader_readsAll_44 : decode b_Reader_readsAll 44 = .ok (.goto 4, 3) := by decide +kernel
theorem d_Reader_readsAll_47 : decode b_Reader_readsAll 47 = .ok (.iconst 0, 1) := by decide +kernel
theorem d_Reader_readsAll_48 : decode b_Reader_readsAll 48 = .ok (.ireturn, 1) := by decide +kernel
theorem d_Reader_object_0 : decode b_Reader_object 0 = .ok (.aload_n 0, 1) := by decide +kernel
theorem d_Reader_object_1 : decode b_Reader_object 1 = .ok (.aload_n 0, 1) := by decide +kernel
theorem d_Reader_object_2 : decode b_Reader_object 2 = .ok (.aload_n 0, 1) := by decide +kernel
theorem d_Reader_object_3 : decode b_Reader_object 3 = .ok (.getfield 19, 3) := by decide +kernel
theorem d_Reader_object_6 : decode b_Reader_object 6 = .ok (.invokevirtual 32, 3) := by decide +kernel
theorem d_Reader_object_9 : decode b_Reader_object 9 = .ok (.putfield 19, 3) := by decide +kernel
theorem d_Reader_object_12 : decode b_Reader_object 12 = .ok (.aload_n 0, 1) := by decide +kernel
theorem d_Reader_object_13 : decode b_Reader_object 13 = .ok (.getfield 9, 3) := by decide +kernel
theorem d_Reader_object_16 : decode b_Reader_object 16 = .ok (.aload_n 0, 1) := by decide +kernel
theorem d_Reader_object_17 : decode b_Reader_object 17 = .ok (.getfield 19, 3) := by decide +kernel
theorem d_Reader_object_20 : decode b_Reader_object 20 = .ok (.invokevirtual 42, 3) := by decide +kernel
theorem d_Reader_object_23 : decode b_Reader_object 23 = .ok (.lookupswitch 88 #[(40, 46), (47, 41), (60, 51), (91, 82)], 41) := by decide +kernel
theorem d_Reader_object_64 : decode b_Reader_object 64 = .ok (.aload_n 0, 1) := by decide +kernel
theorem d_Reader_object_65 : decode b_Reader_object 65 = .ok (.invokevirtual 45, 3) := by decide +kernel
theorem d_Reader_object_68 : decode b_Reader_object 68 = .ok (.ireturn, 1) := by decide +kernel
theorem d_Reader_object_69 : decode b_Reader_object 69 = .ok (.aload_n 0, 1) := by decide +kernel
theorem d_Reader_object_70 : decode b_Reader_object 70 = .ok (.invokevirtual 49, 3) := by decide +kernel
theorem d_Reader_object_73 : decode b_Reader_object 73 = .ok (.ireturn, 1) := by decide +kernel
theorem d_Reader_object_74 : decode b_Reader_object 74 = .ok (.aload_n 0, 1) := by decide +kernel
theorem d_Reader_object_75 : decode b_Reader_object 75 = .ok (.getfield 9, 3) := by decide +kernel
theorem d_Reader_object_78 : decode b_Reader_object 78 = .ok (.aload_n 0, 1) := by decide +kernel
theorem d_Reader_object_79 : decode b_Reader_object 79 = .ok (.getfield 19, 3) := by decide +kernel
theorem d_Reader_object_82 : decode b_Reader_object 82 = .ok (.iconst 1, 1) := by decide +kernel
theorem d_Reader_object_83 : decode b_Reader_object 83 = .ok (.iadd, 1) := by decide +kernel
theorem d_Reader_object_84 : decode b_Reader_object 84 = .ok (.invokevirtual 42, 3) := by decide +kernel
theorem d_Reader_object_87 : decode b_Reader_object 87 = .ok (.bipush 60, 2) := by decide +kernel
theorem d_Reader_object_89 : decode b_Reader_object 89 = .ok (.if_icmp .ne 11, 3) := by decide +kernel
theorem d_Reader_object_92 : decode b_Reader_object 92 = .ok (.aload_n 0, 1) := by decide +kernel
theorem d_Reader_object_93 : decode b_Reader_object 93 = .ok (.iload_n 1, 1) := by decide +kernel
theorem d_Reader_object_94 : decode b_Reader_object 94 = .ok (.invokevirtual 52, 3) := by decide +kernel
theorem d_Reader_object_97 : decode b_Reader_object 97 = .ok (.goto 7, 3) := by decide +kernel
theorem d_Reader_object_100 : decode b_Reader_object 100 = .ok (.aload_n 0, 1) := by decide +kernel
theorem d_Reader_object_101 : decode b_Reader_object 101 = .ok (.invokevirtual 55, 3) := by decide +kernel
theorem d_Reader_object_104 : decode b_Reader_object 104 = .ok (.ireturn, 1) := by decide +kernel
theorem d_Reader_object_105 : decode b_Reader_object 105 = .ok (.aload_n 0, 1) := by decide +kernel
theorem d_Reader_object_106 : decode b_Reader_object 106 = .ok (.iload_n 1, 1) := by decide +kernel
theorem d_Reader_object_107 : decode b_Reader_object 107 = .ok (.invokevirtual 58, 3) := by decide +kernel
theorem d_Reader_object_110 : decode b_Reader_object 110 = .ok (.ireturn, 1) := by decide +kernel
theorem d_Reader_object_111 : decode b_Reader_object 111 = .ok (.aload_n 0, 1) := by decide +kernel
theorem d_Reader_object_112 : decode b_Reader_object 112 = .ok (.invokevirtual 61, 3) := by decide +kernel
theorem d_Reader_object_115 : decode b_Reader_object 115 = .ok (.ifCond .ne 10, 3) := by decide +kernel
theorem d_Reader_object_118 : decode b_Reader_object 118 = .ok (.aload_n 0, 1) := by decide +kernel
theorem d_Reader_object_119 : decode b_Reader_object 119 = .ok (.invokevirtual 64, 3) := by decide +kernel
theorem d_Reader_object_122 : decode b_Reader_object 122 = .ok (.ifCond .eq 7, 3) := by decide +kernel
theorem d_Reader_object_125 : decode b_Reader_object 125 = .ok (.iconst 1, 1) := by decide +kernel
theorem d_Reader_object_126 : decode b_Reader_object 126 = .ok (.goto 4, 3) := by decide +kernel
theorem d_Reader_object_129 : decode b_Reader_object 129 = .ok (.iconst 0, 1) := by decide +kernel
theorem d_Reader_object_130 : decode b_Reader_object 130 = .ok (.ireturn, 1) := by decide +kernel
theorem d_Reader_array_0 : decode b_Reader_array 0 = .ok (.iload_n 1, 1) := by decide +kernel
theorem d_Reader_array_1 : decode b_Reader_array 1 = .ok (.bipush 8, 2) := by decide +kernel
theorem d_Reader_array_3 : decode b_Reader_array 3 = .ok (.if_icmp .lt 5, 3) := by decide +kernel
theorem d_Reader_array_6 : decode b_Reader_array 6 = .ok (.iconst 0, 1) := by decide +kernel
theorem d_Reader_array_7 : decode b_Reader_array 7 = .ok (.ireturn, 1) := by decide +kernel
theorem d_Reader_array_8 : decode b_Reader_array 8 = .ok (.aload_n 0, 1) := by decide +kernel
theorem d_Reader_array_9 : decode b_Reader_array 9 = .ok (.dup, 1) := by decide +kernel
theorem d_Reader_array_10 : decode b_Reader_array 10 = .ok (.getfield 19, 3) := by decide +kernel
theorem d_Reader_array_13 : decode b_Reader_array 13 = .ok (.iconst 1, 1) := by decide +kernel
theorem d_Reader_array_14 : decode b_Reader_array 14 = .ok (.iadd, 1) := by decide +kernel
theorem d_Reader_array_15 : decode b_Reader_array 15 = .ok (.putfield 19, 3) := by decide +kernel
theorem d_Reader_array_18 : decode b_Reader_array 18 = .ok (.aload_n 0, 1) := by decide +kernel
theorem d_Reader_array_19 : decode b_Reader_array 19 = .ok (.getfield 15, 3) := by decide +kernel
theorem d_Reader_array_22 : decode b_Reader_array 22 = .ok (.bipush 6, 2) := by decide +kernel
theorem d_Reader_array_24 : decode b_Reader_array 24 = .ok (.iconst 0, 1) := by decide +kernel
theorem d_Reader_array_25 : decode b_Reader_array 25 = .ok (.iconst 0, 1) := by decide +kernel
theorem d_Reader_array_26 : decode b_Reader_array 26 = .ok (.invokevirtual 67, 3) := by decide +kernel
theorem d_Reader_array_29 : decode b_Reader_array 29 = .ok (.istore_n 2, 1) := by decide +kernel
theorem d_Reader_array_30 : decode b_Reader_array 30 = .ok (.iconst 0, 1) := by decide +kernel
theorem d_Reader_array_31 : decode b_Reader_array 31 = .ok (.istore_n 3, 1) := by decide +kernel
theorem d_Reader_array_32 : decode b_Reader_array 32 = .ok (.iload_n 3, 1) := by decide +kernel
theorem d_Reader_array_33 : decode b_Reader_array 33 = .ok (.bipush 60, 2) := by decide +kernel
theorem d_Reader_array_35 : decode b_Reader_array 35 = .ok (.if_icmp .gt 69, 3) := by decide +kernel
theorem d_Reader_array_38 : decode b_Reader_array 38 = .ok (.aload_n 0, 1) := by decide +kernel
theorem d_Reader_array_39 : decode b_Reader_array 39 = .ok (.aload_n 0, 1) := by decide +kernel
theorem d_Reader_array_40 : decode b_Reader_array 40 = .ok (.aload_n 0, 1) := by decide +kernel
theorem d_Reader_array_41 : decode b_Reader_array 41 = .ok (.getfield 19, 3) := by decide +kernel
theorem d_Reader_array_44 : decode b_Reader_array 44 = .ok (.invokevirtual 32, 3) := by decide +kernel
theorem d_Reader_array_47 : decode b_Reader_array 47 = .ok (.putfield 19, 3) := by decide +kernel
theorem d_Reader_array_50 : decode b_Reader_array 50 = .ok (.aload_n 0, 1) := by decide +kernel
theorem d_Reader_array_51 : decode b_Reader_array 51 = .ok (.getfield 9, 3) := by decide +kernel
theorem d_Reader_array_54 : decode b_Reader_array 54 = .ok (.aload_n 0, 1) := by decide +kernel
theorem d_Reader_array_55 : decode b_Reader_array 55 = .ok (.getfield 19, 3) := by decide +kernel
theorem d_Reader_array_58 : decode b_Reader_array 58 = .ok (.invokevirtual 42, 3) := by decide +kernel
theorem d_Reader_array_61 : decode b_Reader_array 61 = .ok (.bipush 93, 2) := by decide +kernel
theorem d_Reader_array_63 : decode b_Reader_array 63 = .ok (.if_icmp .ne 15, 3) := by decide +kernel
theorem d_Reader_array_66 : decode b_Reader_array 66 = .ok (.aload_n 0, 1) := by decide +kernel
theorem d_Reader_array_67 : decode b_Reader_array 67 = .ok (.dup, 1) := by decide +kernel
theorem d_Reader_array_68 : decode b_Reader_array 68 = .ok (.getfield 19, 3) := by decide +kernel
theorem d_Reader_array_71 : decode b_Reader_array 71 = .ok (.iconst 1, 1) := by decide +kernel
theorem d_Reader_array_72 : decode b_Reader_array 72 = .ok (.iadd, 1) := by decide +kernel
theorem d_Reader_array_73 : decode b_Reader_array 73 = .ok (.putfield 19, 3) := by decide +kernel
theorem d_Reader_array_76 : decode b_Reader_array 76 = .ok (.iconst 1, 1) := by decide +kernel
theorem d_Reader_array_77 : decode b_Reader_array 77 = .ok (.ireturn, 1) := by decide +kernel
theorem d_Reader_array_78 : decode b_Reader_array 78 = .ok (.aload_n 0, 1) := by decide +kernel
theorem d_Reader_array_79 : decode b_Reader_array 79 = .ok (.iload_n 1, 1) := by decide +kernel
theorem d_Reader_array_80 : decode b_Reader_array 80 = .ok (.iconst 1, 1) := by decide +kernel
theorem d_Reader_array_81 : decode b_Reader_array 81 = .ok (.iadd, 1) := by decide +kernel
theorem d_Reader_array_82 : decode b_Reader_array 82 = .ok (.invokevirtual 28, 3) := by decide +kernel
theorem d_Reader_array_85 : decode b_Reader_array 85 = .ok (.ifCond .ne 5, 3) := by decide +kernel
theorem d_Reader_array_88 : decode b_Reader_array 88 = .ok (.iconst 0, 1) := by decide +kernel
theorem d_Reader_array_89 : decode b_Reader_array 89 = .ok (.ireturn, 1) := by decide +kernel
theorem d_Reader_array_90 : decode b_Reader_array 90 = .ok (.aload_n 0, 1) := by decide +kernel
theorem d_Reader_array_91 : decode b_Reader_array 91 = .ok (.getfield 15, 3) := by decide +kernel
theorem d_Reader_array_94 : decode b_Reader_array 94 = .ok (.iload_n 2, 1) := by decide +kernel
theorem d_Reader_array_95 : decode b_Reader_array 95 = .ok (.invokevirtual 71, 3) := by decide +kernel
theorem d_Reader_array_98 : decode b_Reader_array 98 = .ok (.iinc 3 1, 3) := by decide +kernel
theorem d_Reader_array_101 : decode b_Reader_array 101 = .ok (.goto (-69), 3) := by decide +kernel
theorem d_Reader_array_104 : decode b_Reader_array 104 = .ok (.iconst 0, 1) := by decide +kernel
theorem d_Reader_array_105 : decode b_Reader_array 105 = .ok (.ireturn, 1) := by decide +kernel
theorem d_Reader_dict_0 : decode b_Reader_dict 0 = .ok (.iload_n 1, 1) := by decide +kernel
theorem d_Reader_dict_1 : decode b_Reader_dict 1 = .ok (.bipush 8, 2) := by decide +kernel
theorem d_Reader_dict_3 : decode b_Reader_dict 3 = .ok (.if_icmp .lt 5, 3) := by decide +kernel
theorem d_Reader_dict_6 : decode b_Reader_dict 6 = .ok (.iconst 0, 1) := by decide +kernel
theorem d_Reader_dict_7 : decode b_Reader_dict 7 = .ok (.ireturn, 1) := by decide +kernel
theorem d_Reader_dict_8 : decode b_Reader_dict 8 = .ok (.aload_n 0, 1) := by decide +kernel
theorem d_Reader_dict_9 : decode b_Reader_dict 9 = .ok (.dup, 1) := by decide +kernel
theorem d_Reader_dict_10 : decode b_Reader_dict 10 = .ok (.getfield 19, 3) := by decide +kernel
theorem d_Reader_dict_13 : decode b_Reader_dict 13 = .ok (.iconst 2, 1) := by decide +kernel
theorem d_Reader_dict_14 : decode b_Reader_dict 14 = .ok (.iadd, 1) := by decide +kernel
theorem d_Reader_dict_15 : decode b_Reader_dict 15 = .ok (.putfield 19, 3) := by decide +kernel
theorem d_Reader_dict_18 : decode b_Reader_dict 18 = .ok (.aload_n 0, 1) := by decide +kernel
theorem d_Reader_dict_19 : decode b_Reader_dict 19 = .ok (.getfield 15, 3) := by decide +kernel
theorem d_Reader_dict_22 : decode b_Reader_dict 22 = .ok (.bipush 7, 2) := by decide +kernel
theorem d_Reader_dict_24 : decode b_Reader_dict 24 = .ok (.iconst 0, 1) := by decide +kernel
theorem d_Reader_dict_25 : decode b_Reader_dict 25 = .ok (.iconst 0, 1) := by decide +kernel
theorem d_Reader_dict_26 : decode b_Reader_dict 26 = .ok (.invokevirtual 67, 3) := by decide +kernel
theorem d_Reader_dict_29 : decode b_Reader_dict 29 = .ok (.istore_n 2, 1) := by decide +kernel
theorem d_Reader_dict_30 : decode b_Reader_dict 30 = .ok (.iconst 0, 1) := by decide +kernel
theorem d_Reader_dict_31 : decode b_Reader_dict 31 = .ok (.istore_n 3, 1) := by decide +kernel
theorem d_Reader_dict_32 : decode b_Reader_dict 32 = .ok (.iload_n 3, 1) := by decide +kernel
theorem d_Reader_dict_33 : decode b_Reader_dict 33 = .ok (.bipush 30, 2) := by decide +kernel
theorem d_Reader_dict_35 : decode b_Reader_dict 35 = .ok (.if_icmp .gt 155, 3) := by decide +kernel
theorem d_Reader_dict_38 : decode b_Reader_dict 38 = .ok (.aload_n 0, 1) := by decide +kernel
theorem d_Reader_dict_39 : decode b_Reader_dict 39 = .ok (.aload_n 0, 1) := by decide +kernel
theorem d_Reader_dict_40 : decode b_Reader_dict 40 = .ok (.aload_n 0, 1) := by decide +kernel
theorem d_Reader_dict_41 : decode b_Reader_dict 41 = .ok (.getfield 19, 3) := by decide +kernel
theorem d_Reader_dict_44 : decode b_Reader_dict 44 = .ok (.invokevirtual 32, 3) := by decide +kernel
theorem d_Reader_dict_47 : decode b_Reader_dict 47 = .ok (.putfield 19, 3) := by decide +kernel
theorem d_Reader_dict_50 : decode b_Reader_dict 50 = .ok (.aload_n 0, 1) := by decide +kernel
theorem d_Reader_dict_51 : decode b_Reader_dict 51 = .ok (.getfield 9, 3) := by decide +kernel
theorem d_Reader_dict_54 : decode b_Reader_dict 54 = .ok (.aload_n 0, 1) := by decide +kernel
theorem d_Reader_dict_55 : decode b_Reader_dict 55 = .ok (.getfield 19, 3) := by decide +kernel
theorem d_Reader_dict_58 : decode b_Reader_dict 58 = .ok (.invokevirtual 42, 3) := by decide +kernel
theorem d_Reader_dict_61 : decode b_Reader_dict 61 = .ok (.bipush 62, 2) := by decide +kernel
theorem d_Reader_dict_63 : decode b_Reader_dict 63 = .ok (.if_icmp .ne 33, 3) := by decide +kernel
theorem d_Reader_dict_66 : decode b_Reader_dict 66 = .ok (.aload_n 0, 1) := by decide +kernel
theorem d_Reader_dict_67 : decode b_Reader_dict 67 = .ok (.getfield 9, 3) := by decide +kernel
theorem d_Reader_dict_70 : decode b_Reader_dict 70 = .ok (.aload_n 0, 1) := by decide +kernel
theorem d_Reader_dict_71 : decode b_Reader_dict 71 = .ok (.getfield 19, 3) := by decide +kernel
theorem d_Reader_dict_74 : decode b_Reader_dict 74 = .ok (.iconst 1, 1) := by decide +kernel
theorem d_Reader_dict_75 : decode b_Reader_dict 75 = .ok (.iadd, 1) := by decide +kernel
theorem d_Reader_dict_76 : decode b_Reader_dict 76 = .ok (.invokevirtual 42, 3) := by decide +kernel
theorem d_Reader_dict_79 : decode b_Reader_dict 79 = .ok (.bipush 62, 2) := by decide +kernel
theorem d_Reader_dict_81 : decode b_Reader_dict 81 = .ok (.if_icmp .ne 15, 3) := by decide +kernel
theorem d_Reader_dict_84 : decode b_Reader_dict 84 = .ok (.aload_n 0, 1) := by decide +kernel
theorem d_Reader_dict_85 : decode b_Reader_dict 85 = .ok (.dup, 1) := by decide +kernel
theorem d_Reader_dict_86 : decode b_Reader_dict 86 = .ok (.getfield 19, 3) := by decide +kernel
theorem d_Reader_dict_89 : decode b_Reader_dict 89 = .ok (.iconst 2, 1) := by decide +kernel
theorem d_Reader_dict_90 : decode b_Reader_dict 90 = .ok (.iadd, 1) := by decide +kernel
theorem d_Reader_dict_91 : decode b_Reader_dict 91 = .ok (.putfield 19, 3) := by decide +kernel
theorem d_Reader_dict_94 : decode b_Reader_dict 94 = .ok (.iconst 1, 1) := by decide +kernel
theorem d_Reader_dict_95 : decode b_Reader_dict 95 = .ok (.ireturn, 1) := by decide +kernel
theorem d_Reader_dict_96 : decode b_Reader_dict 96 = .ok (.aload_n 0, 1) := by decide +kernel
theorem d_Reader_dict_97 : decode b_Reader_dict 97 = .ok (.getfield 15, 3) := by decide +kernel
theorem d_Reader_dict_100 : decode b_Reader_dict 100 = .ok (.iload_n 2, 1) := by decide +kernel
theorem d_Reader_dict_101 : decode b_Reader_dict 101 = .ok (.aload_n 0, 1) := by decide +kernel
theorem d_Reader_dict_102 : decode b_Reader_dict 102 = .ok (.getfield 9, 3) := by decide +kernel
theorem d_Reader_dict_105 : decode b_Reader_dict 105 = .ok (.aload_n 0, 1) := by decide +kernel
theorem d_Reader_dict_106 : decode b_Reader_dict 106 = .ok (.getfield 19, 3) := by decide +kernel
theorem d_Reader_dict_109 : decode b_Reader_dict 109 = .ok (.iconst 1, 1) := by decide +kernel
theorem d_Reader_dict_110 : decode b_Reader_dict 110 = .ok (.iadd, 1) := by decide +kernel
theorem d_Reader_dict_111 : decode b_Reader_dict 111 = .ok (.aload_n 0, 1) := by decide +kernel
theorem d_Reader_dict_112 : decode b_Reader_dict 112 = .ok (.aload_n 0, 1) := by decide +kernel
theorem d_Reader_dict_113 : decode b_Reader_dict 113 = .ok (.getfield 19, 3) := by decide +kernel
theorem d_Reader_dict_116 : decode b_Reader_dict 116 = .ok (.iconst 1, 1) := by decide +kernel
theorem d_Reader_dict_117 : decode b_Reader_dict 117 = .ok (.iadd, 1) := by decide +kernel
theorem d_Reader_dict_118 : decode b_Reader_dict 118 = .ok (.invokevirtual 75, 3) := by decide +kernel
theorem d_Reader_dict_121 : decode b_Reader_dict 121 = .ok (.invokevirtual 78, 3) := by decide +kernel
theorem d_Reader_dict_124 : decode b_Reader_dict 124 = .ok (.bipush (-2), 2) := by decide +kernel
theorem d_Reader_dict_126 : decode b_Reader_dict 126 = .ok (.if_icmp .eq 7, 3) := by decide +kernel
theorem d_Reader_dict_129 : decode b_Reader_dict 129 = .ok (.iconst 1, 1) := by decide +kernel
theorem d_Reader_dict_130 : decode b_Reader_dict 130 = .ok (.goto 4, 3) := by decide +kernel
theorem d_Reader_dict_133 : decode b_Reader_dict 133 = .ok (.iconst 0, 1) := by decide +kernel
theorem d_Reader_dict_134 : decode b_Reader_dict 134 = .ok (.istore 4, 2) := by decide +kernel
theorem d_Reader_dict_136 : decode b_Reader_dict 136 = .ok (.aload_n 0, 1) := by decide +kernel
theorem d_Reader_dict_137 : decode b_Reader_dict 137 = .ok (.getfield 9, 3) := by decide +kernel
theorem d_Reader_dict_140 : decode b_Reader_dict 140 = .ok (.aload_n 0, 1) := by decide +kernel
theorem d_Reader_dict_141 : decode b_Reader_dict 141 = .ok (.getfield 19, 3) := by decide +kernel
theorem d_Reader_dict_144 : decode b_Reader_dict 144 = .ok (.invokevirtual 42, 3) := by decide +kernel
theorem d_Reader_dict_147 : decode b_Reader_dict 147 = .ok (.bipush 47, 2) := by decide +kernel
theorem d_Reader_dict_149 : decode b_Reader_dict 149 = .ok (.if_icmp .ne 25, 3) := by decide +kernel
theorem d_Reader_dict_152 : decode b_Reader_dict 152 = .ok (.iload 4, 2) := by decide +kernel
theorem d_Reader_dict_154 : decode b_Reader_dict 154 = .ok (.ifCond .ne 20, 3) := by decide +kernel
theorem d_Reader_dict_157 : decode b_Reader_dict 157 = .ok (.aload_n 0, 1) := by decide +kernel
theorem d_Reader_dict_158 : decode b_Reader_dict 158 = .ok (.invokevirtual 45, 3) := by decide +kernel
theorem d_Reader_dict_161 : decode b_Reader_dict 161 = .ok (.ifCond .eq 13, 3) := by decide +kernel
theorem d_Reader_dict_164 : decode b_Reader_dict 164 = .ok (.aload_n 0, 1) := by decide +kernel
theorem d_Reader_dict_165 : decode b_Reader_dict 165 = .ok (.iload_n 1, 1) := by decide +kernel
theorem d_Reader_dict_166 : decode b_Reader_dict 166 = .ok (.iconst 1, 1) := by decide +kernel
theorem d_Reader_dict_167 : decode b_Reader_dict 167 = .ok (.iadd, 1) := by decide +kernel
theorem d_Reader_dict_168 : decode b_Reader_dict 168 = .ok (.invokevirtual 28, 3) := by decide +kernel
theorem d_Reader_dict_171 : decode b_Reader_dict 171 = .ok (.ifCond .ne 5, 3) := by decide +kernel
theorem d_Reader_dict_174 : decode b_Reader_dict 174 = .ok (.iconst 0, 1) := by decide +kernel
theorem d_Reader_dict_175 : decode b_Reader_dict 175 = .ok (.ireturn, 1) := by decide +kernel
theorem d_Reader_dict_176 : decode b_Reader_dict 176 = .ok (.aload_n 0, 1) := by decide +kernel
theorem d_Reader_dict_177 : decode b_Reader_dict 177 = .ok (.getfield 15, 3) := by decide +kernel
theorem d_Reader_dict_180 : decode b_Reader_dict 180 = .ok (.iload_n 2, 1) := by decide +kernel
theorem d_Reader_dict_181 : decode b_Reader_dict 181 = .ok (.invokevirtual 71, 3) := by decide +kernel
theorem d_Reader_dict_184 : decode b_Reader_dict 184 = .ok (.iinc 3 1, 3) := by decide +kernel
theorem d_Reader_dict_187 : decode b_Reader_dict 187 = .ok (.goto (-155), 3) := by decide +kernel
theorem d_Reader_dict_190 : decode b_Reader_dict 190 = .ok (.iconst 0, 1) := by decide +kernel
theorem d_Reader_dict_191 : decode b_Reader_dict 191 = .ok (.ireturn, 1) := by decide +kernel
theorem d_Reader_name_0 : decode b_Reader_name 0 = .ok (.aload_n 0, 1) := by decide +kernel
theorem d_Reader_name_1 : decode b_Reader_name 1 = .ok (.dup, 1) := by decide +kernel
theorem d_Reader_name_2 : decode b_Reader_name 2 = .ok (.getfield 19, 3) := by decide +kernel
theorem d_Reader_name_5 : decode b_Reader_name 5 = .ok (.iconst 1, 1) := by decide +kernel
theorem d_Reader_name_6 : decode b_Reader_name 6 = .ok (.iadd, 1) := by decide +kernel
theorem d_Reader_name_7 : decode b_Reader_name 7 = .ok (.putfield 19, 3) := by decide +kernel
theorem d_Reader_name_10 : decode b_Reader_name 10 = .ok (.aload_n 0, 1) := by decide +kernel
theorem d_Reader_name_11 : decode b_Reader_name 11 = .ok (.aload_n 0, 1) := by decide +kernel
theorem d_Reader_name_12 : decode b_Reader_name 12 = .ok (.getfield 19, 3) := by decide +kernel
theorem d_Reader_name_15 : decode b_Reader_name 15 = .ok (.invokevirtual 75, 3) := by decide +kernel
theorem d_Reader_name_18 : decode b_Reader_name 18 = .ok (.istore_n 1, 1) := by decide +kernel
theorem d_Reader_name_19 : decode b_Reader_name 19 = .ok (.iload_n 1, 1) := by decide +kernel
theorem d_Reader_name_20 : decode b_Reader_name 20 = .ok (.bipush 20, 2) := by decide +kernel
theorem d_Reader_name_22 : decode b_Reader_name 22 = .ok (.if_icmp .le 5, 3) := by decide +kernel
theorem d_Reader_name_25 : decode b_Reader_name 25 = .ok (.iconst 0, 1) := by decide +kernel
theorem d_Reader_name_26 : decode b_Reader_name 26 = .ok (.ireturn, 1) := by decide +kernel
theorem d_Reader_name_27 : decode b_Reader_name 27 = .ok (.aload_n 0, 1) := by decide +kernel
theorem d_Reader_name_28 : decode b_Reader_name 28 = .ok (.getfield 15, 3) := by decide +kernel
theorem d_Reader_name_31 : decode b_Reader_name 31 = .ok (.iconst 4, 1) := by decide +kernel
theorem d_Reader_name_32 : decode b_Reader_name 32 = .ok (.iload_n 1, 1) := by decide +kernel
theorem d_Reader_name_33 : decode b_Reader_name 33 = .ok (.aload_n 0, 1) := by decide +kernel
theorem d_Reader_name_34 : decode b_Reader_name 34 = .ok (.getfield 15, 3) := by decide +kernel
theorem d_Reader_name_37 : decode b_Reader_name 37 = .ok (.invokevirtual 82, 3) := by decide +kernel
theorem d_Reader_name_40 : decode b_Reader_name 40 = .ok (.invokevirtual 36, 3) := by decide +kernel
theorem d_Reader_name_43 : decode b_Reader_name 43 = .ok (.invokevirtual 67, 3) := by decide +kernel
theorem d_Reader_name_46 : decode b_Reader_name 46 = .ok (.pop, 1) := by decide +kernel
theorem d_Reader_name_47 : decode b_Reader_name 47 = .ok (.aload_n 0, 1) := by decide +kernel
theorem d_Reader_name_48 : decode b_Reader_name 48 = .ok (.getfield 15, 3) := by decide +kernel
theorem d_Reader_name_51 : decode b_Reader_name 51 = .ok (.invokevirtual 82, 3) := by decide +kernel
theorem d_Reader_name_54 : decode b_Reader_name 54 = .ok (.aload_n 0, 1) := by decide +kernel
theorem d_Reader_name_55 : decode b_Reader_name 55 = .ok (.getfield 9, 3) := by decide +kernel
theorem d_Reader_name_58 : decode b_Reader_name 58 = .ok (.aload_n 0, 1) := by decide +kernel
theorem d_Reader_name_59 : decode b_Reader_name 59 = .ok (.getfield 19, 3) := by decide +kernel
theorem d_Reader_name_62 : decode b_Reader_name 62 = .ok (.iload_n 1, 1) := by decide +kernel
theorem d_Reader_name_63 : decode b_Reader_name 63 = .ok (.invokevirtual 86, 3) := by decide +kernel
theorem d_Reader_name_66 : decode b_Reader_name 66 = .ok (.aload_n 0, 1) := by decide +kernel
theorem d_Reader_name_67 : decode b_Reader_name 67 = .ok (.dup, 1) := by decide +kernel
theorem d_Reader_name_68 : decode b_Reader_name 68 = .ok (.getfield 19, 3) := by decide +kernel
theorem d_Reader_name_71 : decode b_Reader_name 71 = .ok (.iload_n 1, 1) := by decide +kernel
theorem d_Reader_name_72 : decode b_Reader_name 72 = .ok (.iadd, 1) := by decide +kernel
theorem d_Reader_name_73 : decode b_Reader_name 73 = .ok (.putfield 19, 3) := by decide +kernel
theorem d_Reader_name_76 : decode b_Reader_name 76 = .ok (.iconst 1, 1) := by decide +kernel
theorem d_Reader_name_77 : decode b_Reader_name 77 = .ok (.ireturn, 1) := by decide +kernel
theorem d_Reader_plainString_0 : decode b_Reader_plainString 0 = .ok (.aload_n 0, 1) := by decide +kernel
theorem d_Reader_plainString_1 : decode b_Reader_plainString 1 = .ok (.dup, 1) := by decide +kernel
theorem d_Reader_plainString_2 : decode b_Reader_plainString 2 = .ok (.getfield 19, 3) := by decide +kernel
theorem d_Reader_plainString_5 : decode b_Reader_plainString 5 = .ok (.iconst 1, 1) := by decide +kernel
theorem d_Reader_plainString_6 : decode b_Reader_plainString 6 = .ok (.iadd, 1) := by decide +kernel
theorem d_Reader_plainString_7 : decode b_Reader_plainString 7 = .ok (.putfield 19, 3) := by decide +kernel
theorem d_Reader_plainString_10 : decode b_Reader_plainString 10 = .ok (.aload_n 0, 1) := by decide +kernel
theorem d_Reader_plainString_11 : decode b_Reader_plainString 11 = .ok (.getfield 15, 3) := by decide +kernel
theorem d_Reader_plainString_14 : decode b_Reader_plainString 14 = .ok (.invokevirtual 82, 3) := by decide +kernel
theorem d_Reader_plainString_17 : decode b_Reader_plainString 17 = .ok (.invokevirtual 36, 3) := by decide +kernel
theorem d_Reader_plainString_20 : decode b_Reader_plainString 20 = .ok (.istore_n 1, 1) := by decide +kernel
theorem d_Reader_plainString_21 : decode b_Reader_plainString 21 = .ok (.iconst 0, 1) := by decide +kernel
theorem d_Reader_plainString_22 : decode b_Reader_plainString 22 = .ok (.istore_n 2, 1) := by decide +kernel
theorem d_Reader_plainString_23 : decode b_Reader_plainString 23 = .ok (.iload_n 2, 1) := by decide +kernel
theorem d_Reader_plainString_24 : decode b_Reader_plainString 24 = .ok (.bipush 100, 2) := by decide +kernel
theorem d_Reader_plainString_26 : decode b_Reader_plainString 26 = .ok (.if_icmp .gt 89, 3) := by decide +kernel
theorem d_Reader_plainString_29 : decode b_Reader_plainString 29 = .ok (.aload_n 0, 1) := by decide +kernel
theorem d_Reader_plainString_30 : decode b_Reader_plainString 30 = .ok (.getfield 9, 3) := by decide +kernel
theorem d_Reader_plainString_33 : decode b_Reader_plainString 33 = .ok (.aload_n 0, 1) := by decide +kernel
theorem d_Reader_plainString_34 : decode b_Reader_plainString 34 = .ok (.getfield 19, 3) := by decide +kernel
theorem d_Reader_plainString_37 : decode b_Reader_plainString 37 = .ok (.invokevirtual 42, 3) := by decide +kernel
theorem d_Reader_plainString_40 : decode b_Reader_plainString 40 = .ok (.istore_n 3, 1) := by decide +kernel
theorem d_Reader_plainString_41 : decode b_Reader_plainString 41 = .ok (.aload_n 0, 1) := by decide +kernel
theorem d_Reader_plainString_42 : decode b_Reader_plainString 42 = .ok (.dup, 1) := by decide +kernel
theorem d_Reader_plainString_43 : decode b_Reader_plainString 43 = .ok (.getfield 19, 3) := by decide +kernel
theorem d_Reader_plainString_46 : decode b_Reader_plainString 46 = .ok (.iconst 1, 1) := by decide +kernel
theorem d_Reader_plainString_47 : decode b_Reader_plainString 47 = .ok (.iadd, 1) := by decide +kernel
theorem d_Reader_plainString_48 : decode b_Reader_plainString 48 = .ok (.putfield 19, 3) := by decide +kernel
theorem d_Reader_plainString_51 : decode b_Reader_plainString 51 = .ok (.iload_n 3, 1) := by decide +kernel
theorem d_Reader_plainString_52 : decode b_Reader_plainString 52 = .ok (.bipush 41, 2) := by decide +kernel
theorem d_Reader_plainString_54 : decode b_Reader_plainString 54 = .ok (.if_icmp .ne 16, 3) := by decide +kernel
theorem d_Reader_plainString_57 : decode b_Reader_plainString 57 = .ok (.aload_n 0, 1) := by decide +kernel
theorem d_Reader_plainString_58 : decode b_Reader_plainString 58 = .ok (.getfield 15, 3) := by decide +kernel
theorem d_Reader_plainString_61 : decode b_Reader_plainString 61 = .ok (.iconst 5, 1) := by decide +kernel
theorem d_Reader_plainString_62 : decode b_Reader_plainString 62 = .ok (.iload_n 2, 1) := by decide +kernel
theorem d_Reader_plainString_63 : decode b_Reader_plainString 63 = .ok (.iload_n 1, 1) := by decide +kernel
theorem d_Reader_plainString_64 : decode b_Reader_plainString 64 = .ok (.invokevirtual 67, 3) := by decide +kernel
theorem d_Reader_plainString_67 : decode b_Reader_plainString 67 = .ok (.pop, 1) := by decide +kernel
theorem d_Reader_plainString_68 : decode b_Reader_plainString 68 = .ok (.iconst 1, 1) := by decide +kernel
theorem d_Reader_plainString_69 : decode b_Reader_plainString 69 = .ok (.ireturn, 1) := by decide +kernel
theorem d_Reader_plainString_70 : decode b_Reader_plainString 70 = .ok (.iload_n 3, 1) := by decide +kernel
theorem d_Reader_plainString_71 : decode b_Reader_plainString 71 = .ok (.bipush 92, 2) := by decide +kernel
theorem d_Reader_plainString_73 : decode b_Reader_plainString 73 = .ok (.if_icmp .ne 11, 3) := by decide +kernel
theorem d_Reader_plainString_76 : decode b_Reader_plainString 76 = .ok (.aload_n 0, 1) := by decide +kernel
theorem d_Reader_plainString_77 : decode b_Reader_plainString 77 = .ok (.invokevirtual 90, 3) := by decide +kernel
theorem d_Reader_plainString_80 : decode b_Reader_plainString 80 = .ok (.istore_n 3, 1) := by decide +kernel
theorem d_Reader_plainString_81 : decode b_Reader_plainString 81 = .ok (.goto 11, 3) := by decide +kernel
theorem d_Reader_plainString_84 : decode b_Reader_plainString 84 = .ok (.iload_n 3, 1) := by decide +kernel
theorem d_Reader_plainString_85 : decode b_Reader_plainString 85 = .ok (.bipush 40, 2) := by decide +kernel
theorem d_Reader_plainString_87 : decode b_Reader_plainString 87 = .ok (.if_icmp .ne 5, 3) := by decide +kernel
theorem d_Reader_plainString_90 : decode b_Reader_plainString 90 = .ok (.iconst 0, 1) := by decide +kernel
theorem d_Reader_plainString_91 : decode b_Reader_plainString 91 = .ok (.ireturn, 1) := by decide +kernel
theorem d_Reader_plainString_92 : decode b_Reader_plainString 92 = .ok (.iload_n 3, 1) := by decide +kernel
theorem d_Reader_plainString_93 : decode b_Reader_plainString 93 = .ok (.ifCond .ge 5, 3) := by decide +kernel
theorem d_Reader_plainString_96 : decode b_Reader_plainString 96 = .ok (.iconst 0, 1) := by decide +kernel
theorem d_Reader_plainString_97 : decode b_Reader_plainString 97 = .ok (.ireturn, 1) := by decide +kernel
theorem d_Reader_plainString_98 : decode b_Reader_plainString 98 = .ok (.aload_n 0, 1) := by decide +kernel
theorem d_Reader_plainString_99 : decode b_Reader_plainString 99 = .ok (.getfield 15, 3) := by decide +kernel
theorem d_Reader_plainString_102 : decode b_Reader_plainString 102 = .ok (.invokevirtual 82, 3) := by decide +kernel
theorem d_Reader_plainString_105 : decode b_Reader_plainString 105 = .ok (.iload_n 3, 1) := by decide +kernel
theorem d_Reader_plainString_106 : decode b_Reader_plainString 106 = .ok (.invokevirtual 93, 3) := by decide +kernel
theorem d_Reader_plainString_109 : decode b_Reader_plainString 109 = .ok (.iinc 2 1, 3) := by decide +kernel
theorem d_Reader_plainString_112 : decode b_Reader_plainString 112 = .ok (.goto (-89), 3) := by decide +kernel
theorem d_Reader_plainString_115 : decode b_Reader_plainString 115 = .ok (.iconst 0, 1) := by decide +kernel
theorem d_Reader_plainString_116 : decode b_Reader_plainString 116 = .ok (.ireturn, 1) := by decide +kernel
theorem d_Reader_escaped_0 : decode b_Reader_escaped 0 = .ok (.aload_n 0, 1) := by decide +kernel
theorem d_Reader_escaped_1 : decode b_Reader_escaped 1 = .ok (.getfield 9, 3) := by decide +kernel
theorem d_Reader_escaped_4 : decode b_Reader_escaped 4 = .ok (.aload_n 0, 1) := by decide +kernel
theorem d_Reader_escaped_5 : decode b_Reader_escaped 5 = .ok (.getfield 19, 3) := by decide +kernel
theorem d_Reader_escaped_8 : decode b_Reader_escaped 8 = .ok (.invokevirtual 42, 3) := by decide +kernel
theorem d_Reader_escaped_11 : decode b_Reader_escaped 11 = .ok (.istore_n 1, 1) := by decide +kernel
theorem d_Reader_escaped_12 : decode b_Reader_escaped 12 = .ok (.iload_n 1, 1) := by decide +kernel
theorem d_Reader_escaped_13 : decode b_Reader_escaped 13 = .ok (.bipush 40, 2) := by decide +kernel
theorem d_Reader_escaped_15 : decode b_Reader_escaped 15 = .ok (.if_icmp .eq 15, 3) := by decide +kernel
theorem d_Reader_escaped_18 : decode b_Reader_escaped 18 = .ok (.iload_n 1, 1) := by decide +kernel
theorem d_Reader_escaped_19 : decode b_Reader_escaped 19 = .ok (.bipush 41, 2) := by decide +kernel
theorem d_Reader_escaped_21 : decode b_Reader_escaped 21 = .ok (.if_icmp .eq 9, 3) := by decide +kernel
theorem d_Reader_escaped_24 : decode b_Reader_escaped 24 = .ok (.iload_n 1, 1) := by decide +kernel
theorem d_Reader_escaped_25 : decode b_Reader_escaped 25 = .ok (.bipush 92, 2) := by decide +kernel
theorem d_Reader_escaped_27 : decode b_Reader_escaped 27 = .ok (.if_icmp .ne 15, 3) := by decide +kernel
theorem d_Reader_escaped_30 : decode b_Reader_escaped 30 = .ok (.aload_n 0, 1) := by decide +kernel
theorem d_Reader_escaped_31 : decode b_Reader_escaped 31 = .ok (.dup, 1) := by decide +kernel
theorem d_Reader_escaped_32 : decode b_Reader_escaped 32 = .ok (.getfield 19, 3) := by decide +kernel
theorem d_Reader_escaped_35 : decode b_Reader_escaped 35 = .ok (.iconst 1, 1) := by decide +kernel
theorem d_Reader_escaped_36 : decode b_Reader_escaped 36 = .ok (.iadd, 1) := by decide +kernel
theorem d_Reader_escaped_37 : decode b_Reader_escaped 37 = .ok (.putfield 19, 3) := by decide +kernel
theorem d_Reader_escaped_40 : decode b_Reader_escaped 40 = .ok (.iload_n 1, 1) := by decide +kernel
theorem d_Reader_escaped_41 : decode b_Reader_escaped 41 = .ok (.ireturn, 1) := by decide +kernel
theorem d_Reader_escaped_42 : decode b_Reader_escaped 42 = .ok (.aload_n 0, 1) := by decide +kernel
theorem d_Reader_escaped_43 : decode b_Reader_escaped 43 = .ok (.aload_n 0, 1) := by decide +kernel
theorem d_Reader_escaped_44 : decode b_Reader_escaped 44 = .ok (.getfield 19, 3) := by decide +kernel
theorem d_Reader_escaped_47 : decode b_Reader_escaped 47 = .ok (.invokevirtual 95, 3) := by decide +kernel
theorem d_Reader_escaped_50 : decode b_Reader_escaped 50 = .ok (.istore_n 2, 1) := by decide +kernel
theorem d_Reader_escaped_51 : decode b_Reader_escaped 51 = .ok (.aload_n 0, 1) := by decide +kernel
theorem d_Reader_escaped_52 : decode b_Reader_escaped 52 = .ok (.aload_n 0, 1) := by decide +kernel
theorem d_Reader_escaped_53 : decode b_Reader_escaped 53 = .ok (.getfield 19, 3) := by decide +kernel
theorem d_Reader_escaped_56 : decode b_Reader_escaped 56 = .ok (.iconst 1, 1) := by decide +kernel
theorem d_Reader_escaped_57 : decode b_Reader_escaped 57 = .ok (.iadd, 1) := by decide +kernel
theorem d_Reader_escaped_58 : decode b_Reader_escaped 58 = .ok (.invokevirtual 95, 3) := by decide +kernel
theorem d_Reader_escaped_61 : decode b_Reader_escaped 61 = .ok (.istore_n 3, 1) := by decide +kernel
theorem d_Reader_escaped_62 : decode b_Reader_escaped 62 = .ok (.aload_n 0, 1) := by decide +kernel
theorem d_Reader_escaped_63 : decode b_Reader_escaped 63 = .ok (.aload_n 0, 1) := by decide +kernel
theorem d_Reader_escaped_64 : decode b_Reader_escaped 64 = .ok (.getfield 19, 3) := by decide +kernel
theorem d_Reader_escaped_67 : decode b_Reader_escaped 67 = .ok (.iconst 2, 1) := by decide +kernel
theorem d_Reader_escaped_68 : decode b_Reader_escaped 68 = .ok (.iadd, 1) := by decide +kernel
theorem d_Reader_escaped_69 : decode b_Reader_escaped 69 = .ok (.invokevirtual 95, 3) := by decide +kernel
theorem d_Reader_escaped_72 : decode b_Reader_escaped 72 = .ok (.istore 4, 2) := by decide +kernel
theorem d_Reader_escaped_74 : decode b_Reader_escaped 74 = .ok (.iload_n 2, 1) := by decide +kernel
theorem d_Reader_escaped_75 : decode b_Reader_escaped 75 = .ok (.ifCond .lt 17, 3) := by decide +kernel
theorem d_Reader_escaped_78 : decode b_Reader_escaped 78 = .ok (.iload_n 2, 1) := by decide +kernel
theorem d_Reader_escaped_79 : decode b_Reader_escaped 79 = .ok (.iconst 3, 1) := by decide +kernel
theorem d_Reader_escaped_80 : decode b_Reader_escaped 80 = .ok (.if_icmp .gt 12, 3) := by decide +kernel
theorem d_Reader_escaped_83 : decode b_Reader_escaped 83 = .ok (.iload_n 3, 1) := by decide +kernel
theorem d_Reader_escaped_84 : decode b_Reader_escaped 84 = .ok (.ifCond .lt 8, 3) := by decide +kernel
theorem d_Reader_escaped_87 : decode b_Reader_escaped 87 = .ok (.iload 4, 2) := by decide +kernel
theorem d_Reader_escaped_89 : decode b_Reader_escaped 89 = .ok (.ifCond .ge 5, 3) := by decide +kernel
theorem d_Reader_escaped_92 : decode b_Reader_escaped 92 = .ok (.iconst (-1), 1) := by decide +kernel
theorem d_Reader_escaped_93 : decode b_Reader_escaped 93 = .ok (.ireturn, 1) := by decide +kernel
theorem d_Reader_escaped_94 : decode b_Reader_escaped 94 = .ok (.aload_n 0, 1) := by decide +kernel
theorem d_Reader_escaped_95 : decode b_Reader_escaped 95 = .ok (.dup, 1) := by decide +kernel
theorem d_Reader_escaped_96 : decode b_Reader_escaped 96 = .ok (.getfield 19, 3) := by decide +kernel
theorem d_Reader_escaped_99 : decode b_Reader_escaped 99 = .ok (.iconst 3, 1) := by decide +kernel
theorem d_Reader_escaped_100 : decode b_Reader_escaped 100 = .ok (.iadd, 1) := by decide +kernel
theorem d_Reader_escaped_101 : decode b_Reader_escaped 101 = .ok (.putfield 19, 3) := by decide +kernel
theorem d_Reader_escaped_104 : decode b_Reader_escaped 104 = .ok (.iload_n 2, 1) := by decide +kernel
theorem d_Reader_escaped_105 : decode b_Reader_escaped 105 = .ok (.bipush 64, 2) := by decide +kernel
theorem d_Reader_escaped_107 : decode b_Reader_escaped 107 = .ok (.imul, 1) := by decide +kernel
theorem d_Reader_escaped_108 : decode b_Reader_escaped 108 = .ok (.iload_n 3, 1) := by decide +kernel
theorem d_Reader_escaped_109 : decode b_Reader_escaped 109 = .ok (.bipush 8, 2) := by decide +kernel
theorem d_Reader_escaped_111 : decode b_Reader_escaped 111 = .ok (.imul, 1) := by decide +kernel
theorem d_Reader_escaped_112 : decode b_Reader_escaped 112 = .ok (.iadd, 1) := by decide +kernel
theorem d_Reader_escaped_113 : decode b_Reader_escaped 113 = .ok (.iload 4, 2) := by decide +kernel
theorem d_Reader_escaped_115 : decode b_Reader_escaped 115 = .ok (.iadd, 1) := by decide +kernel
theorem d_Reader_escaped_116 : decode b_Reader_escaped 116 = .ok (.ireturn, 1) := by decide +kernel
theorem d_Reader_octalDigit_0 : decode b_Reader_octalDigit 0 = .ok (.aload_n 0, 1) := by decide +kernel
theorem d_Reader_octalDigit_1 : decode b_Reader_octalDigit 1 = .ok (.getfield 9, 3) := by decide +kernel
theorem d_Reader_octalDigit_4 : decode b_Reader_octalDigit 4 = .ok (.iload_n 1, 1) := by decide +kernel
theorem d_Reader_octalDigit_5 : decode b_Reader_octalDigit 5 = .ok (.invokevirtual 42, 3) := by decide +kernel
theorem d_Reader_octalDigit_8 : decode b_Reader_octalDigit 8 = .ok (.istore_n 2, 1) := by decide +kernel
theorem d_Reader_octalDigit_9 : decode b_Reader_octalDigit 9 = .ok (.iload_n 2, 1) := by decide +kernel
theorem d_Reader_octalDigit_10 : decode b_Reader_octalDigit 10 = .ok (.bipush 48, 2) := by decide +kernel
theorem d_Reader_octalDigit_12 : decode b_Reader_octalDigit 12 = .ok (.if_icmp .lt 16, 3) := by decide +kernel
theorem d_Reader_octalDigit_15 : decode b_Reader_octalDigit 15 = .ok (.iload_n 2, 1) := by decide +kernel
theorem d_Reader_octalDigit_16 : decode b_Reader_octalDigit 16 = .ok (.bipush 55, 2) := by decide +kernel
theorem d_Reader_octalDigit_18 : decode b_Reader_octalDigit 18 = .ok (.if_icmp .gt 10, 3) := by decide +kernel
theorem d_Reader_octalDigit_21 : decode b_Reader_octalDigit 21 = .ok (.iload_n 2, 1) := by decide +kernel
theorem d_Reader_octalDigit_22 : decode b_Reader_octalDigit 22 = .ok (.bipush 48, 2) := by decide +kernel
theorem d_Reader_octalDigit_24 : decode b_Reader_octalDigit 24 = .ok (.isub, 1) := by decide +kernel
theorem d_Reader_octalDigit_25 : decode b_Reader_octalDigit 25 = .ok (.goto 4, 3) := by decide +kernel
theorem d_Reader_octalDigit_28 : decode b_Reader_octalDigit 28 = .ok (.iconst (-1), 1) := by decide +kernel
theorem d_Reader_octalDigit_29 : decode b_Reader_octalDigit 29 = .ok (.ireturn, 1) := by decide +kernel
theorem d_Reader_hexString_0 : decode b_Reader_hexString 0 = .ok (.aload_n 0, 1) := by decide +kernel
theorem d_Reader_hexString_1 : decode b_Reader_hexString 1 = .ok (.dup, 1) := by decide +kernel
theorem d_Reader_hexString_2 : decode b_Reader_hexString 2 = .ok (.getfield 19, 3) := by decide +kernel
theorem d_Reader_hexString_5 : decode b_Reader_hexString 5 = .ok (.iconst 1, 1) := by decide +kernel
theorem d_Reader_hexString_6 : decode b_Reader_hexString 6 = .ok (.iadd, 1) := by decide +kernel
theorem d_Reader_hexString_7 : decode b_Reader_hexString 7 = .ok (.putfield 19, 3) := by decide +kernel
theorem d_Reader_hexString_10 : decode b_Reader_hexString 10 = .ok (.aload_n 0, 1) := by decide +kernel
theorem d_Reader_hexString_11 : decode b_Reader_hexString 11 = .ok (.getfield 15, 3) := by decide +kernel
theorem d_Reader_hexString_14 : decode b_Reader_hexString 14 = .ok (.invokevirtual 82, 3) := by decide +kernel
theorem d_Reader_hexString_17 : decode b_Reader_hexString 17 = .ok (.invokevirtual 36, 3) := by decide +kernel
theorem d_Reader_hexString_20 : decode b_Reader_hexString 20 = .ok (.istore_n 1, 1) := by decide +kernel
theorem d_Reader_hexString_21 : decode b_Reader_hexString 21 = .ok (.iconst 0, 1) := by decide +kernel
theorem d_Reader_hexString_22 : decode b_Reader_hexString 22 = .ok (.istore_n 2, 1) := by decide +kernel
theorem d_Reader_hexString_23 : decode b_Reader_hexString 23 = .ok (.iload_n 2, 1) := by decide +kernel
theorem d_Reader_hexString_24 : decode b_Reader_hexString 24 = .ok (.bipush 100, 2) := by decide +kernel
theorem d_Reader_hexString_26 : decode b_Reader_hexString 26 = .ok (.if_icmp .gt 107, 3) := by decide +kernel
theorem d_Reader_hexString_29 : decode b_Reader_hexString 29 = .ok (.aload_n 0, 1) := by decide +kernel
theorem d_Reader_hexString_30 : decode b_Reader_hexString 30 = .ok (.getfield 9, 3) := by decide +kernel
theorem d_Reader_hexString_33 : decode b_Reader_hexString 33 = .ok (.aload_n 0, 1) := by decide +kernel
theorem d_Reader_hexString_34 : decode b_Reader_hexString 34 = .ok (.getfield 19, 3) := by decide +kernel
theorem d_Reader_hexString_37 : decode b_Reader_hexString 37 = .ok (.invokevirtual 42, 3) := by decide +kernel
theorem d_Reader_hexString_40 : decode b_Reader_hexString 40 = .ok (.bipush 62, 2) := by decide +kernel
theorem d_Reader_hexString_42 : decode b_Reader_hexString 42 = .ok (.if_icmp .ne 26, 3) := by decide +kernel
theorem d_Reader_hexString_45 : decode b_Reader_hexString 45 = .ok (.aload_n 0, 1) := by decide +kernel
theorem d_Reader_hexString_46 : decode b_Reader_hexString 46 = .ok (.dup, 1) := by decide +kernel
theorem d_Reader_hexString_47 : decode b_Reader_hexString 47 = .ok (.getfield 19, 3) := by decide +kernel
theorem d_Reader_hexString_50 : decode b_Reader_hexString 50 = .ok (.iconst 1, 1) := by decide +kernel
theorem d_Reader_hexString_51 : decode b_Reader_hexString 51 = .ok (.iadd, 1) := by decide +kernel
theorem d_Reader_hexString_52 : decode b_Reader_hexString 52 = .ok (.putfield 19, 3) := by decide +kernel
theorem d_Reader_hexString_55 : decode b_Reader_hexString 55 = .ok (.aload_n 0, 1) := by decide +kernel
theorem d_Reader_hexString_56 : decode b_Reader_hexString 56 = .ok (.getfield 15, 3) := by decide +kernel
theorem d_Reader_hexString_59 : decode b_Reader_hexString 59 = .ok (.iconst 5, 1) := by decide +kernel
theorem d_Reader_hexString_60 : decode b_Reader_hexString 60 = .ok (.iload_n 2, 1) := by decide +kernel
theorem d_Reader_hexString_61 : decode b_Reader_hexString 61 = .ok (.iload_n 1, 1) := by decide +kernel
theorem d_Reader_hexString_62 : decode b_Reader_hexString 62 = .ok (.invokevirtual 67, 3) := by decide +kernel
theorem d_Reader_hexString_65 : decode b_Reader_hexString 65 = .ok (.pop, 1) := by decide +kernel
theorem d_Reader_hexString_66 : decode b_Reader_hexString 66 = .ok (.iconst 1, 1) := by decide +kernel
theorem d_Reader_hexString_67 : decode b_Reader_hexString 67 = .ok (.ireturn, 1) := by decide +kernel
theorem d_Reader_hexString_68 : decode b_Reader_hexString 68 = .ok (.aload_n 0, 1) := by decide +kernel
theorem d_Reader_hexString_69 : decode b_Reader_hexString 69 = .ok (.aload_n 0, 1) := by decide +kernel
theorem d_Reader_hexString_70 : decode b_Reader_hexString 70 = .ok (.getfield 19, 3) := by decide +kernel
theorem d_Reader_hexString_73 : decode b_Reader_hexString 73 = .ok (.invokevirtual 98, 3) := by decide +kernel
theorem d_Reader_hexString_76 : decode b_Reader_hexString 76 = .ok (.istore_n 3, 1) := by decide +kernel
theorem d_Reader_hexString_77 : decode b_Reader_hexString 77 = .ok (.aload_n 0, 1) := by decide +kernel
theorem d_Reader_hexString_78 : decode b_Reader_hexString 78 = .ok (.aload_n 0, 1) := by decide +kernel
theorem d_Reader_hexString_79 : decode b_Reader_hexString 79 = .ok (.getfield 19, 3) := by decide +kernel
theorem d_Reader_hexString_82 : decode b_Reader_hexString 82 = .ok (.iconst 1, 1) := by decide +kernel
theorem d_Reader_hexString_83 : decode b_Reader_hexString 83 = .ok (.iadd, 1) := by decide +kernel
theorem d_Reader_hexString_84 : decode b_Reader_hexString 84 = .ok (.invokevirtual 98, 3) := by decide +kernel
theorem d_Reader_hexString_87 : decode b_Reader_hexString 87 = .ok (.istore 4, 2) := by decide +kernel
theorem d_Reader_hexString_89 : decode b_Reader_hexString 89 = .ok (.iload_n 3, 1) := by decide +kernel
theorem d_Reader_hexString_90 : decode b_Reader_hexString 90 = .ok (.ifCond .lt 8, 3) := by decide +kernel
theorem d_Reader_hexString_93 : decode b_Reader_hexString 93 = .ok (.iload 4, 2) := by decide +kernel
theorem d_Reader_hexString_95 : decode b_Reader_hexString 95 = .ok (.ifCond .ge 5, 3) := by decide +kernel
theorem d_Reader_hexString_98 : decode b_Reader_hexString 98 = .ok (.iconst 0, 1) := by decide +kernel
theorem d_Reader_hexString_99 : decode b_Reader_hexString 99 = .ok (.ireturn, 1) := by decide +kernel
theorem d_Reader_hexString_100 : decode b_Reader_hexString 100 = .ok (.aload_n 0, 1) := by decide +kernel
theorem d_Reader_hexString_101 : decode b_Reader_hexString 101 = .ok (.dup, 1) := by decide +kernel
theorem d_Reader_hexString_102 : decode b_Reader_hexString 102 = .ok (.getfield 19, 3) := by decide +kernel
theorem d_Reader_hexString_105 : decode b_Reader_hexString 105 = .ok (.iconst 2, 1) := by decide +kernel
theorem d_Reader_hexString_106 : decode b_Reader_hexString 106 = .ok (.iadd, 1) := by decide +kernel
theorem d_Reader_hexString_107 : decode b_Reader_hexString 107 = .ok (.putfield 19, 3) := by decide +kernel
theorem d_Reader_hexString_110 : decode b_Reader_hexString 110 = .ok (.aload_n 0, 1) := by decide +kernel
theorem d_Reader_hexString_111 : decode b_Reader_hexString 111 = .ok (.getfield 15, 3) := by decide +kernel
theorem d_Reader_hexString_114 : decode b_Reader_hexString 114 = .ok (.invokevirtual 82, 3) := by decide +kernel
theorem d_Reader_hexString_117 : decode b_Reader_hexString 117 = .ok (.iload_n 3, 1) := by decide +kernel
theorem d_Reader_hexString_118 : decode b_Reader_hexString 118 = .ok (.bipush 16, 2) := by decide +kernel
theorem d_Reader_hexString_120 : decode b_Reader_hexString 120 = .ok (.imul, 1) := by decide +kernel
theorem d_Reader_hexString_121 : decode b_Reader_hexString 121 = .ok (.iload 4, 2) := by decide +kernel
theorem d_Reader_hexString_123 : decode b_Reader_hexString 123 = .ok (.iadd, 1) := by decide +kernel
theorem d_Reader_hexString_124 : decode b_Reader_hexString 124 = .ok (.invokevirtual 93, 3) := by decide +kernel
theorem d_Reader_hexString_127 : decode b_Reader_hexString 127 = .ok (.iinc 2 1, 3) := by decide +kernel
theorem d_Reader_hexString_130 : decode b_Reader_hexString 130 = .ok (.goto (-107), 3) := by decide +kernel
theorem d_Reader_hexString_133 : decode b_Reader_hexString 133 = .ok (.iconst 0, 1) := by decide +kernel
theorem d_Reader_hexString_134 : decode b_Reader_hexString 134 = .ok (.ireturn, 1) := by decide +kernel
theorem d_Reader_hexDigit_0 : decode b_Reader_hexDigit 0 = .ok (.aload_n 0, 1) := by decide +kernel
theorem d_Reader_hexDigit_1 : decode b_Reader_hexDigit 1 = .ok (.getfield 9, 3) := by decide +kernel
theorem d_Reader_hexDigit_4 : decode b_Reader_hexDigit 4 = .ok (.iload_n 1, 1) := by decide +kernel
theorem d_Reader_hexDigit_5 : decode b_Reader_hexDigit 5 = .ok (.invokevirtual 42, 3) := by decide +kernel
theorem d_Reader_hexDigit_8 : decode b_Reader_hexDigit 8 = .ok (.istore_n 2, 1) := by decide +kernel
theorem d_Reader_hexDigit_9 : decode b_Reader_hexDigit 9 = .ok (.iload_n 2, 1) := by decide +kernel
theorem d_Reader_hexDigit_10 : decode b_Reader_hexDigit 10 = .ok (.bipush 48, 2) := by decide +kernel
theorem d_Reader_hexDigit_12 : decode b_Reader_hexDigit 12 = .ok (.if_icmp .lt 14, 3) := by decide +kernel
theorem d_Reader_hexDigit_15 : decode b_Reader_hexDigit 15 = .ok (.iload_n 2, 1) := by decide +kernel
theorem d_Reader_hexDigit_16 : decode b_Reader_hexDigit 16 = .ok (.bipush 57, 2) := by decide +kernel
theorem d_Reader_hexDigit_18 : decode b_Reader_hexDigit 18 = .ok (.if_icmp .gt 8, 3) := by decide +kernel
theorem d_Reader_hexDigit_21 : decode b_Reader_hexDigit 21 = .ok (.iload_n 2, 1) := by decide +kernel
theorem d_Reader_hexDigit_22 : decode b_Reader_hexDigit 22 = .ok (.bipush 48, 2) := by decide +kernel
theorem d_Reader_hexDigit_24 : decode b_Reader_hexDigit 24 = .ok (.isub, 1) := by decide +kernel
theorem d_Reader_hexDigit_25 : decode b_Reader_hexDigit 25 = .ok (.ireturn, 1) := by decide +kernel
theorem d_Reader_hexDigit_26 : decode b_Reader_hexDigit 26 = .ok (.iload_n 2, 1) := by decide +kernel
theorem d_Reader_hexDigit_27 : decode b_Reader_hexDigit 27 = .ok (.bipush 97, 2) := by decide +kernel
theorem d_Reader_hexDigit_29 : decode b_Reader_hexDigit 29 = .ok (.if_icmp .lt 17, 3) := by decide +kernel
theorem d_Reader_hexDigit_32 : decode b_Reader_hexDigit 32 = .ok (.iload_n 2, 1) := by decide +kernel
theorem d_Reader_hexDigit_33 : decode b_Reader_hexDigit 33 = .ok (.bipush 102, 2) := by decide +kernel
theorem d_Reader_hexDigit_35 : decode b_Reader_hexDigit 35 = .ok (.if_icmp .gt 11, 3) := by decide +kernel
theorem d_Reader_hexDigit_38 : decode b_Reader_hexDigit 38 = .ok (.iload_n 2, 1) := by decide +kernel
theorem d_Reader_hexDigit_39 : decode b_Reader_hexDigit 39 = .ok (.bipush 97, 2) := by decide +kernel
theorem d_Reader_hexDigit_41 : decode b_Reader_hexDigit 41 = .ok (.isub, 1) := by decide +kernel
theorem d_Reader_hexDigit_42 : decode b_Reader_hexDigit 42 = .ok (.bipush 10, 2) := by decide +kernel
theorem d_Reader_hexDigit_44 : decode b_Reader_hexDigit 44 = .ok (.iadd, 1) := by decide +kernel
theorem d_Reader_hexDigit_45 : decode b_Reader_hexDigit 45 = .ok (.ireturn, 1) := by decide +kernel
theorem d_Reader_hexDigit_46 : decode b_Reader_hexDigit 46 = .ok (.iload_n 2, 1) := by decide +kernel
theorem d_Reader_hexDigit_47 : decode b_Reader_hexDigit 47 = .ok (.bipush 65, 2) := by decide +kernel
theorem d_Reader_hexDigit_49 : decode b_Reader_hexDigit 49 = .ok (.if_icmp .lt 19, 3) := by decide +kernel
theorem d_Reader_hexDigit_52 : decode b_Reader_hexDigit 52 = .ok (.iload_n 2, 1) := by decide +kernel
theorem d_Reader_hexDigit_53 : decode b_Reader_hexDigit 53 = .ok (.bipush 70, 2) := by decide +kernel
theorem d_Reader_hexDigit_55 : decode b_Reader_hexDigit 55 = .ok (.if_icmp .gt 13, 3) := by decide +kernel
theorem d_Reader_hexDigit_58 : decode b_Reader_hexDigit 58 = .ok (.iload_n 2, 1) := by decide +kernel
theorem d_Reader_hexDigit_59 : decode b_Reader_hexDigit 59 = .ok (.bipush 65, 2) := by decide +kernel
theorem d_Reader_hexDigit_61 : decode b_Reader_hexDigit 61 = .ok (.isub, 1) := by decide +kernel
theorem d_Reader_hexDigit_62 : decode b_Reader_hexDigit 62 = .ok (.bipush 10, 2) := by decide +kernel
theorem d_Reader_hexDigit_64 : decode b_Reader_hexDigit 64 = .ok (.iadd, 1) := by decide +kernel
theorem d_Reader_hexDigit_65 : decode b_Reader_hexDigit 65 = .ok (.goto 4, 3) := by decide +kernel
theorem d_Reader_hexDigit_68 : decode b_Reader_hexDigit 68 = .ok (.iconst (-1), 1) := by decide +kernel
theorem d_Reader_hexDigit_69 : decode b_Reader_hexDigit 69 = .ok (.ireturn, 1) := by decide +kernel
theorem d_Reader_word_0 : decode b_Reader_word 0 = .ok (.aload_n 0, 1) := by decide +kernel
theorem d_Reader_word_1 : decode b_Reader_word 1 = .ok (.aload_n 0, 1) := by decide +kernel
theorem d_Reader_word_2 : decode b_Reader_word 2 = .ok (.getfield 19, 3) := by decide +kernel
theorem d_Reader_word_5 : decode b_Reader_word 5 = .ok (.invokevirtual 75, 3) := by decide +kernel
theorem d_Reader_word_8 : decode b_Reader_word 8 = .ok (.istore_n 1, 1) := by decide +kernel
theorem d_Reader_word_9 : decode b_Reader_word 9 = .ok (.aload_n 0, 1) := by decide +kernel
theorem d_Reader_word_10 : decode b_Reader_word 10 = .ok (.iload_n 1, 1) := by decide +kernel
theorem d_Reader_word_11 : decode b_Reader_word 11 = .ok (.invokevirtual 101, 3) := by decide +kernel
theorem d_Reader_word_14 : decode b_Reader_word 14 = .ok (.istore_n 2, 1) := by decide +kernel
theorem d_Reader_word_15 : decode b_Reader_word 15 = .ok (.iload_n 2, 1) := by decide +kernel
theorem d_Reader_word_16 : decode b_Reader_word 16 = .ok (.bipush (-2), 2) := by decide +kernel
theorem d_Reader_word_18 : decode b_Reader_word 18 = .ok (.if_icmp .ne 5, 3) := by decide +kernel
theorem d_Reader_word_21 : decode b_Reader_word 21 = .ok (.iconst 0, 1) := by decide +kernel
theorem d_Reader_word_22 : decode b_Reader_word 22 = .ok (.ireturn, 1) := by decide +kernel
theorem d_Reader_word_23 : decode b_Reader_word 23 = .ok (.aload_n 0, 1) := by decide +kernel
theorem d_Reader_word_24 : decode b_Reader_word 24 = .ok (.getfield 15, 3) := by decide +kernel
theorem d_Reader_word_27 : decode b_Reader_word 27 = .ok (.iload_n 2, 1) := by decide +kernel
theorem d_Reader_word_28 : decode b_Reader_word 28 = .ok (.iconst 0, 1) := by decide +kernel
theorem d_Reader_word_29 : decode b_Reader_word 29 = .ok (.iconst 0, 1) := by decide +kernel
theorem d_Reader_word_30 : decode b_Reader_word 30 = .ok (.invokevirtual 67, 3) := by decide +kernel
theorem d_Reader_word_33 : decode b_Reader_word 33 = .ok (.pop, 1) := by decide +kernel
theorem d_Reader_word_34 : decode b_Reader_word 34 = .ok (.aload_n 0, 1) := by decide +kernel
theorem d_Reader_word_35 : decode b_Reader_word 35 = .ok (.dup, 1) := by decide +kernel
theorem d_Reader_word_36 : decode b_Reader_word 36 = .ok (.getfield 19, 3) := by decide +kernel
theorem d_Reader_word_39 : decode b_Reader_word 39 = .ok (.iload_n 1, 1) := by decide +kernel
theorem d_Reader_word_40 : decode b_Reader_word 40 = .ok (.iadd, 1) := by decide +kernel
theorem d_Reader_word_41 : decode b_Reader_word 41 = .ok (.putfield 19, 3) := by decide +kernel
theorem d_Reader_word_44 : decode b_Reader_word 44 = .ok (.iconst 1, 1) := by decide +kernel
theorem d_Reader_word_45 : decode b_Reader_word 45 = .ok (.ireturn, 1) := by decide +kernel
theorem d_Reader_kindOfWord_0 : decode b_Reader_kindOfWord 0 = .ok (.aload_n 0, 1) := by decide +kernel
theorem d_Reader_kindOfWord_1 : decode b_Reader_kindOfWord 1 = .ok (.ldc 104, 2) := by decide +kernel
theorem d_Reader_kindOfWord_3 : decode b_Reader_kindOfWord 3 = .ok (.iload_n 1, 1) := by decide +kernel
theorem d_Reader_kindOfWord_4 : decode b_Reader_kindOfWord 4 = .ok (.invokevirtual 106, 3) := by decide +kernel
theorem d_Reader_kindOfWord_7 : decode b_Reader_kindOfWord 7 = .ok (.ifCond .eq 5, 3) := by decide +kernel
theorem d_Reader_kindOfWord_10 : decode b_Reader_kindOfWord 10 = .ok (.iconst 0, 1) := by decide +kernel
theorem d_Reader_kindOfWord_11 : decode b_Reader_kindOfWord 11 = .ok (.ireturn, 1) := by decide +kernel
theorem d_Reader_kindOfWord_12 : decode b_Reader_kindOfWord 12 = .ok (.aload_n 0, 1) := by decide +kernel
theorem d_Reader_kindOfWord_13 : decode b_Reader_kindOfWord 13 = .ok (.ldc 110, 2) := by decide +kernel
theorem d_Reader_kindOfWord_15 : decode b_Reader_kindOfWord 15 = .ok (.iload_n 1, 1) := by decide +kernel
theorem d_Reader_kindOfWord_16 : decode b_Reader_kindOfWord 16 = .ok (.invokevirtual 106, 3) := by decide +kernel
theorem d_Reader_kindOfWord_19 : decode b_Reader_kindOfWord 19 = .ok (.ifCond .eq 5, 3) := by decide +kernel
theorem d_Reader_kindOfWord_22 : decode b_Reader_kindOfWord 22 = .ok (.iconst 1, 1) := by decide +kernel
theorem d_Reader_kindOfWord_23 : decode b_Reader_kindOfWord 23 = .ok (.ireturn, 1) := by decide +kernel
theorem d_Reader_kindOfWord_24 : decode b_Reader_kindOfWord 24 = .ok (.aload_n 0, 1) := by decide +kernel
theorem d_Reader_kindOfWord_25 : decode b_Reader_kindOfWord 25 = .ok (.ldc 112, 2) := by decide +kernel
theorem d_Reader_kindOfWord_27 : decode b_Reader_kindOfWord 27 = .ok (.iload_n 1, 1) := by decide +kernel
theorem d_Reader_kindOfWord_28 : decode b_Reader_kindOfWord 28 = .ok (.invokevirtual 106, 3) := by decide +kernel
theorem d_Reader_kindOfWord_31 : decode b_Reader_kindOfWord 31 = .ok (.ifCond .eq 7, 3) := by decide +kernel
theorem d_Reader_kindOfWord_34 : decode b_Reader_kindOfWord 34 = .ok (.iconst 2, 1) := by decide +kernel
theorem d_Reader_kindOfWord_35 : decode b_Reader_kindOfWord 35 = .ok (.goto 5, 3) := by decide +kernel
theorem d_Reader_kindOfWord_38 : decode b_Reader_kindOfWord 38 = .ok (.bipush (-2), 2) := by decide +kernel
theorem d_Reader_kindOfWord_40 : decode b_Reader_kindOfWord 40 = .ok (.ireturn, 1) := by decide +kernel
theorem d_Reader_isWord_0 : decode b_Reader_isWord 0 = .ok (.iload_n 2, 1) := by decide +kernel
theorem d_Reader_isWord_1 : decode b_Reader_isWord 1 = .ok (.aload_n 1, 1) := by decide +kernel
theorem d_Reader_isWord_2 : decode b_Reader_isWord 2 = .ok (.invokevirtual 114, 3) := by decide +kernel
theorem d_Reader_isWord_5 : decode b_Reader_isWord 5 = .ok (.if_icmp .eq 5, 3) := by decide +kernel
theorem d_Reader_isWord_8 : decode b_Reader_isWord 8 = .ok (.iconst 0, 1) := by decide +kernel
theorem d_Reader_isWord_9 : decode b_Reader_isWord 9 = .ok (.ireturn, 1) := by decide +kernel
theorem d_Reader_isWord_10 : decode b_Reader_isWord 10 = .ok (.iconst 0, 1) := by decide +kernel
theorem d_Reader_isWord_11 : decode b_Reader_isWord 11 = .ok (.istore_n 3, 1) := by decide +kernel
theorem d_Reader_isWord_12 : decode b_Reader_isWord 12 = .ok (.iload_n 3, 1) := by decide +kernel
theorem d_Reader_isWord_13 : decode b_Reader_isWord 13 = .ok (.iload_n 2, 1) := by decide +kernel
theorem d_Reader_isWord_14 : decode b_Reader_isWord 14 = .ok (.if_icmp .ge 32, 3) := by decide +kernel
theorem d_Reader_isWord_17 : decode b_Reader_isWord 17 = .ok (.aload_n 0, 1) := by decide +kernel
theorem d_Reader_isWord_18 : decode b_Reader_isWord 18 = .ok (.getfield 9, 3) := by decide +kernel
theorem d_Reader_isWord_21 : decode b_Reader_isWord 21 = .ok (.aload_n 0, 1) := by decide +kernel
theorem d_Reader_isWord_22 : decode b_Reader_isWord 22 = .ok (.getfield 19, 3) := by decide +kernel
theorem d_Reader_isWord_25 : decode b_Reader_isWord 25 = .ok (.iload_n 3, 1) := by decide +kernel
theorem d_Reader_isWord_26 : decode b_Reader_isWord 26 = .ok (.iadd, 1) := by decide +kernel
theorem d_Reader_isWord_27 : decode b_Reader_isWord 27 = .ok (.invokevirtual 42, 3) := by decide +kernel
theorem d_Reader_isWord_30 : decode b_Reader_isWord 30 = .ok (.aload_n 1, 1) := by decide +kernel
theorem d_Reader_isWord_31 : decode b_Reader_isWord 31 = .ok (.iload_n 3, 1) := by decide +kernel
theorem d_Reader_isWord_32 : decode b_Reader_isWord 32 = .ok (.invokevirtual 119, 3) := by decide +kernel
theorem d_Reader_isWord_35 : decode b_Reader_isWord 35 = .ok (.if_icmp .eq 5, 3) := by decide +kernel
theorem d_Reader_isWord_38 : decode b_Reader_isWord 38 = .ok (.iconst 0, 1) := by decide +kernel
theorem d_Reader_isWord_39 : decode b_Reader_isWord 39 = .ok (.ireturn, 1) := by decide +kernel
theorem d_Reader_isWord_40 : decode b_Reader_isWord 40 = .ok (.iinc 3 1, 3) := by decide +kernel
theorem d_Reader_isWord_43 : decode b_Reader_isWord 43 = .ok (.goto (-31), 3) := by decide +kernel
theorem d_Reader_isWord_46 : decode b_Reader_isWord 46 = .ok (.iconst 1, 1) := by decide +kernel
theorem d_Reader_isWord_47 : decode b_Reader_isWord 47 = .ok (.ireturn, 1) := by decide +kernel
theorem d_Reader_number_0 : decode b_Reader_number 0 = .ok (.aload_n 0, 1) := by decide +kernel
theorem d_Reader_number_1 : decode b_Reader_number 1 = .ok (.aload_n 0, 1) := by decide +kernel
theorem d_Reader_number_2 : decode b_Reader_number 2 = .ok (.getfield 19, 3) := by decide +kernel
theorem d_Reader_number_5 : decode b_Reader_number 5 = .ok (.invokevirtual 75, 3) := by decide +kernel
theorem d_Reader_number_8 : decode b_Reader_number 8 = .ok (.istore_n 1, 1) := by decide +kernel
theorem d_Reader_number_9 : decode b_Reader_number 9 = .ok (.aload_n 0, 1) := by decide +kernel
theorem d_Reader_number_10 : decode b_Reader_number 10 = .ok (.aload_n 0, 1) := by decide +kernel
theorem d_Reader_number_11 : decode b_Reader_number 11 = .ok (.getfield 19, 3) := by decide +kernel
theorem d_Reader_number_14 : decode b_Reader_number 14 = .ok (.iload_n 1, 1) := by decide +kernel
theorem d_Reader_number_15 : decode b_Reader_number 15 = .ok (.invokevirtual 123, 3) := by decide +kernel
theorem d_Reader_number_18 : decode b_Reader_number 18 = .ok (.ifCond .ne 5, 3) := by decide +kernel
theorem d_Reader_number_21 : decode b_Reader_number 21 = .ok (.iconst 0, 1) := by decide +kernel
theorem d_Reader_number_22 : decode b_Reader_number 22 = .ok (.ireturn, 1) := by decide +kernel
theorem d_Reader_number_23 : decode b_Reader_number 23 = .ok (.aload_n 0, 1) := by decide +kernel
theorem d_Reader_number_24 : decode b_Reader_number 24 = .ok (.aload_n 0, 1) := by decide +kernel
theorem d_Reader_number_25 : decode b_Reader_number 25 = .ok (.getfield 19, 3) := by decide +kernel
theorem d_Reader_number_28 : decode b_Reader_number 28 = .ok (.iload_n 1, 1) := by decide +kernel
theorem d_Reader_number_29 : decode b_Reader_number 29 = .ok (.iadd, 1) := by decide +kernel
theorem d_Reader_number_30 : decode b_Reader_number 30 = .ok (.invokevirtual 32, 3) := by decide +kernel
theorem d_Reader_number_33 : decode b_Reader_number 33 = .ok (.istore_n 2, 1) := by decide +kernel
theorem d_Reader_number_34 : decode b_Reader_number 34 = .ok (.aload_n 0, 1) := by decide +kernel
theorem d_Reader_number_35 : decode b_Reader_number 35 = .ok (.iload_n 2, 1) := by decide +kernel
theorem d_Reader_number_36 : decode b_Reader_number 36 = .ok (.invokevirtual 75, 3) := by decide +kernel
theorem d_Reader_number_39 : decode b_Reader_number 39 = .ok (.istore_n 3, 1) := by decide +kernel
theorem d_Reader_number_40 : decode b_Reader_number 40 = .ok (.aload_n 0, 1) := by decide +kernel
theorem d_Reader_number_41 : decode b_Reader_number 41 = .ok (.iload_n 2, 1) := by decide +kernel
theorem d_Reader_number_42 : decode b_Reader_number 42 = .ok (.iload_n 3, 1) := by decide +kernel
theorem d_Reader_number_43 : decode b_Reader_number 43 = .ok (.iadd, 1) := by decide +kernel
theorem d_Reader_number_44 : decode b_Reader_number 44 = .ok (.invokevirtual 32, 3) := by decide +kernel
theorem d_Reader_number_47 : decode b_Reader_number 47 = .ok (.istore 4, 2) := by decide +kernel
theorem d_Reader_number_49 : decode b_Reader_number 49 = .ok (.aload_n 0, 1) := by decide +kernel
theorem d_Reader_number_50 : decode b_Reader_number 50 = .ok (.iload 4, 2) := by decide +kernel
theorem d_Reader_number_52 : decode b_Reader_number 52 = .ok (.invokevirtual 75, 3) := by decide +kernel
theorem d_Reader_number_55 : decode b_Reader_number 55 = .ok (.iconst 1, 1) := by decide +kernel
theorem d_Reader_number_56 : decode b_Reader_number 56 = .ok (.if_icmp .ne 21, 3) := by decide +kernel
theorem d_Reader_number_59 : decode b_Reader_number 59 = .ok (.aload_n 0, 1) := by decide +kernel
theorem d_Reader_number_60 : decode b_Reader_number 60 = .ok (.getfield 9, 3) := by decide +kernel
theorem d_Reader_number_63 : decode b_Reader_number 63 = .ok (.iload 4, 2) := by decide +kernel
theorem d_Reader_number_65 : decode b_Reader_number 65 = .ok (.invokevirtual 42, 3) := by decide +kernel
theorem d_Reader_number_68 : decode b_Reader_number 68 = .ok (.bipush 82, 2) := by decide +kernel
theorem d_Reader_number_70 : decode b_Reader_number 70 = .ok (.if_icmp .ne 7, 3) := by decide +kernel
theorem d_Reader_number_73 : decode b_Reader_number 73 = .ok (.iconst 1, 1) := by decide +kernel
theorem d_Reader_number_74 : decode b_Reader_number 74 = .ok (.goto 4, 3) := by decide +kernel
theorem d_Reader_number_77 : decode b_Reader_number 77 = .ok (.iconst 0, 1) := by decide +kernel
theorem d_Reader_number_78 : decode b_Reader_number 78 = .ok (.istore 5, 2) := by decide +kernel
theorem d_Reader_number_80 : decode b_Reader_number 80 = .ok (.iload 5, 2) := by decide +kernel
theorem d_Reader_number_82 : decode b_Reader_number 82 = .ok (.ifCond .eq 65, 3) := by decide +kernel
theorem d_Reader_number_85 : decode b_Reader_number 85 = .ok (.aload_n 0, 1) := by decide +kernel
theorem d_Reader_number_86 : decode b_Reader_number 86 = .ok (.sipush 300, 3) := by decide +kernel
theorem d_Reader_number_89 : decode b_Reader_number 89 = .ok (.aload_n 0, 1) := by decide +kernel
theorem d_Reader_number_90 : decode b_Reader_number 90 = .ok (.getfield 19, 3) := by decide +kernel
theorem d_Reader_number_93 : decode b_Reader_number 93 = .ok (.iload_n 1, 1) := by decide +kernel
theorem d_Reader_number_94 : decode b_Reader_number 94 = .ok (.invokevirtual 127, 3) := by decide +kernel
theorem d_Reader_number_97 : decode b_Reader_number 97 = .ok (.ifCond .eq 50, 3) := by decide +kernel
theorem d_Reader_number_100 : decode b_Reader_number 100 = .ok (.aload_n 0, 1) := by decide +kernel
theorem d_Reader_number_101 : decode b_Reader_number 101 = .ok (.ldc 131, 2) := by decide +kernel
theorem d_Reader_number_103 : decode b_Reader_number 103 = .ok (.iload_n 2, 1) := by decide +kernel
theorem d_Reader_number_104 : decode b_Reader_number 104 = .ok (.iload_n 3, 1) := by decide +kernel
theorem d_Reader_number_105 : decode b_Reader_number 105 = .ok (.invokevirtual 127, 3) := by decide +kernel
theorem d_Reader_number_108 : decode b_Reader_number 108 = .ok (.ifCond .eq 39, 3) := by decide +kernel
theorem d_Reader_number_111 : decode b_Reader_number 111 = .ok (.aload_n 0, 1) := by decide +kernel
theorem d_Reader_number_112 : decode b_Reader_number 112 = .ok (.getfield 15, 3) := by decide +kernel
theorem d_Reader_number_115 : decode b_Reader_number 115 = .ok (.bipush 8, 2) := by decide +kernel
theorem d_Reader_number_117 : decode b_Reader_number 117 = .ok (.aload_n 0, 1) := by decide +kernel
theorem d_Reader_number_118 : decode b_Reader_number 118 = .ok (.aload_n 0, 1) := by decide +kernel
theorem d_Reader_number_119 : decode b_Reader_number 119 = .ok (.getfield 19, 3) := by decide +kernel
theorem d_Reader_number_122 : decode b_Reader_number 122 = .ok (.iload_n 1, 1) := by decide +kernel
theorem d_Reader_number_123 : decode b_Reader_number 123 = .ok (.invokevirtual 132, 3) := by decide +kernel
theorem d_Reader_number_126 : decode b_Reader_number 126 = .ok (.aload_n 0, 1) := by decide +kernel
theorem d_Reader_number_127 : decode b_Reader_number 127 = .ok (.iload_n 2, 1) := by decide +kernel
theorem d_Reader_number_128 : decode b_Reader_number 128 = .ok (.iload_n 3, 1) := by decide +kernel
theorem d_Reader_number_129 : decode b_Reader_number 129 = .ok (.invokevirtual 132, 3) := by decide +kernel
theorem d_Reader_number_132 : decode b_Reader_number 132 = .ok (.invokevirtual 67, 3) := by decide +kernel
theorem d_Reader_number_135 : decode b_Reader_number 135 = .ok (.pop, 1) := by decide +kernel
theorem d_Reader_number_136 : decode b_Reader_number 136 = .ok (.aload_n 0, 1) := by decide +kernel
theorem d_Reader_number_137 : decode b_Reader_number 137 = .ok (.iload 4, 2) := by decide +kernel
theorem d_Reader_number_139 : decode b_Reader_number 139 = .ok (.iconst 1, 1) := by decide +kernel
theorem d_Reader_number_140 : decode b_Reader_number 140 = .ok (.iadd, 1) := by decide +kernel
theorem d_Reader_number_141 : decode b_Reader_number 141 = .ok (.putfield 19, 3) := by decide +kernel
theorem d_Reader_number_144 : decode b_Reader_number 144 = .ok (.goto 32, 3) := by decide +kernel
theorem d_Reader_number_147 : decode b_Reader_number 147 = .ok (.aload_n 0, 1) := by decide +kernel
theorem d_Reader_number_148 : decode b_Reader_number 148 = .ok (.getfield 15, 3) := by decide +kernel
theorem d_Reader_number_151 : decode b_Reader_number 151 = .ok (.iconst 3, 1) := by decide +kernel
theorem d_Reader_number_152 : decode b_Reader_number 152 = .ok (.aload_n 0, 1) := by decide +kernel
theorem d_Reader_number_153 : decode b_Reader_number 153 = .ok (.aload_n 0, 1) := by decide +kernel
theorem d_Reader_number_154 : decode b_Reader_number 154 = .ok (.getfield 19, 3) := by decide +kernel
theorem d_Reader_number_157 : decode b_Reader_number 157 = .ok (.iload_n 1, 1) := by decide +kernel
theorem d_Reader_number_158 : decode b_Reader_number 158 = .ok (.invokevirtual 132, 3) := by decide +kernel
theorem d_Reader_number_161 : decode b_Reader_number 161 = .ok (.iconst 0, 1) := by decide +kernel
theorem d_Reader_number_162 : decode b_Reader_number 162 = .ok (.invokevirtual 67, 3) := by decide +kernel
theorem d_Reader_number_165 : decode b_Reader_number 165 = .ok (.pop, 1) := by decide +kernel
theorem d_Reader_number_166 : decode b_Reader_number 166 = .ok (.aload_n 0, 1) := by decide +kernel
theorem d_Reader_number_167 : decode b_Reader_number 167 = .ok (.dup, 1) := by decide +kernel
theorem d_Reader_number_168 : decode b_Reader_number 168 = .ok (.getfield 19, 3) := by decide +kernel
theorem d_Reader_number_171 : decode b_Reader_number 171 = .ok (.iload_n 1, 1) := by decide +kernel
theorem d_Reader_number_172 : decode b_Reader_number 172 = .ok (.iadd, 1) := by decide +kernel
theorem d_Reader_number_173 : decode b_Reader_number 173 = .ok (.putfield 19, 3) := by decide +kernel
theorem d_Reader_number_176 : decode b_Reader_number 176 = .ok (.iconst 1, 1) := by decide +kernel
theorem d_Reader_number_177 : decode b_Reader_number 177 = .ok (.ireturn, 1) := by decide +kernel
theorem d_Reader_isBelow_0 : decode b_Reader_isBelow 0 = .ok (.aload_n 0, 1) := by decide +kernel
theorem d_Reader_isBelow_1 : decode b_Reader_isBelow 1 = .ok (.iload_n 2, 1) := by decide +kernel
theorem d_Reader_isBelow_2 : decode b_Reader_isBelow 2 = .ok (.iload_n 3, 1) := by decide +kernel
theorem d_Reader_isBelow_3 : decode b_Reader_isBelow 3 = .ok (.invokevirtual 123, 3) := by decide +kernel
theorem d_Reader_isBelow_6 : decode b_Reader_isBelow 6 = .ok (.ifCond .eq 30, 3) := by decide +kernel
theorem d_Reader_isBelow_9 : decode b_Reader_isBelow 9 = .ok (.aload_n 0, 1) := by decide +kernel
theorem d_Reader_isBelow_10 : decode b_Reader_isBelow 10 = .ok (.getfield 9, 3) := by decide +kernel
theorem d_Reader_isBelow_13 : decode b_Reader_isBelow 13 = .ok (.iload_n 2, 1) := by decide +kernel
theorem d_Reader_isBelow_14 : decode b_Reader_isBelow 14 = .ok (.invokevirtual 42, 3) := by decide +kernel
theorem d_Reader_isBelow_17 : decode b_Reader_isBelow 17 = .ok (.bipush 45, 2) := by decide +kernel
theorem d_Reader_isBelow_19 : decode b_Reader_isBelow 19 = .ok (.if_icmp .eq 17, 3) := by decide +kernel
theorem d_Reader_isBelow_22 : decode b_Reader_isBelow 22 = .ok (.aload_n 0, 1) := by decide +kernel
theorem d_Reader_isBelow_23 : decode b_Reader_isBelow 23 = .ok (.iload_n 2, 1) := by decide +kernel
theorem d_Reader_isBelow_24 : decode b_Reader_isBelow 24 = .ok (.iload_n 3, 1) := by decide +kernel
theorem d_Reader_isBelow_25 : decode b_Reader_isBelow 25 = .ok (.invokevirtual 132, 3) := by decide +kernel
theorem d_Reader_isBelow_28 : decode b_Reader_isBelow 28 = .ok (.iload_n 1, 1) := by decide +kernel
theorem d_Reader_isBelow_29 : decode b_Reader_isBelow 29 = .ok (.if_icmp .ge 7, 3) := by decide +kernel
theorem d_Reader_isBelow_32 : decode b_Reader_isBelow 32 = .ok (.iconst 1, 1) := by decide +kernel
theorem d_Reader_isBelow_33 : decode b_Reader_isBelow 33 = .ok (.goto 4, 3) := by decide +kernel
theorem d_Reader_isBelow_36 : decode b_Reader_isBelow 36 = .ok (.iconst 0, 1) := by decide +kernel
theorem d_Reader_isBelow_37 : decode b_Reader_isBelow 37 = .ok (.ireturn, 1) := by decide +kernel
theorem d_Reader_isInt_0 : decode b_Reader_isInt 0 = .ok (.aload_n 0, 1) := by decide +kernel
theorem d_Reader_isInt_1 : decode b_Reader_isInt 1 = .ok (.getfield 9, 3) := by decide +kernel
theorem d_Reader_isInt_4 : decode b_Reader_isInt 4 = .ok (.iload_n 1, 1) := by decide +kernel
theorem d_Reader_isInt_5 : decode b_Reader_isInt 5 = .ok (.invokevirtual 42, 3) := by decide +kernel
theorem d_Reader_isInt_8 : decode b_Reader_isInt 8 = .ok (.bipush 45, 2) := by decide +kernel
theorem d_Reader_isInt_10 : decode b_Reader_isInt 10 = .ok (.if_icmp .ne 7, 3) := by decide +kernel
theorem d_Reader_isInt_13 : decode b_Reader_isInt 13 = .ok (.iconst 1, 1) := by decide +kernel
theorem d_Reader_isInt_14 : decode b_Reader_isInt 14 = .ok (.goto 4, 3) := by decide +kernel
theorem d_Reader_isInt_17 : decode b_Reader_isInt 17 = .ok (.iconst 0, 1) := by decide +kernel
theorem d_Reader_isInt_18 : decode b_Reader_isInt 18 = .ok (.istore_n 3, 1) := by decide +kernel
theorem d_Reader_isInt_19 : decode b_Reader_isInt 19 = .ok (.iload_n 2, 1) := by decide +kernel
theorem d_Reader_isInt_20 : decode b_Reader_isInt 20 = .ok (.iload_n 3, 1) := by decide +kernel
theorem d_Reader_isInt_21 : decode b_Reader_isInt 21 = .ok (.isub, 1) := by decide +kernel
theorem d_Reader_isInt_22 : decode b_Reader_isInt 22 = .ok (.istore 4, 2) := by decide +kernel
theorem d_Reader_isInt_24 : decode b_Reader_isInt 24 = .ok (.iload 4, 2) := by decide +kernel
theorem d_Reader_isInt_26 : decode b_Reader_isInt 26 = .ok (.iconst 1, 1) := by decide +kernel
theorem d_Reader_isInt_27 : decode b_Reader_isInt 27 = .ok (.if_icmp .lt 10, 3) := by decide +kernel
theorem d_Reader_isInt_30 : decode b_Reader_isInt 30 = .ok (.iload 4, 2) := by decide +kernel
theorem d_Reader_isInt_32 : decode b_Reader_isInt 32 = .ok (.bipush 9, 2) := by decide +kernel
theorem d_Reader_isInt_34 : decode b_Reader_isInt 34 = .ok (.if_icmp .le 5, 3) := by decide +kernel
theorem d_Reader_isInt_37 : decode b_Reader_isInt 37 = .ok (.iconst 0, 1) := by decide +kernel
theorem d_Reader_isInt_38 : decode b_Reader_isInt 38 = .ok (.ireturn, 1) := by decide +kernel
theorem d_Reader_isInt_39 : decode b_Reader_isInt 39 = .ok (.iload_n 3, 1) := by decide +kernel
theorem d_Reader_isInt_40 : decode b_Reader_isInt 40 = .ok (.istore 5, 2) := by decide +kernel
theorem d_Reader_isInt_42 : decode b_Reader_isInt 42 = .ok (.iload 5, 2) := by decide +kernel
theorem d_Reader_isInt_44 : decode b_Reader_isInt 44 = .ok (.iload_n 2, 1) := by decide +kernel
theorem d_Reader_isInt_45 : decode b_Reader_isInt 45 = .ok (.if_icmp .ge 38, 3) := by decide +kernel
theorem d_Reader_isInt_48 : decode b_Reader_isInt 48 = .ok (.aload_n 0, 1) := by decide +kernel
theorem d_Reader_isInt_49 : decode b_Reader_isInt 49 = .ok (.getfield 9, 3) := by decide +kernel
theorem d_Reader_isInt_52 : decode b_Reader_isInt 52 = .ok (.iload_n 1, 1) := by decide +kernel
theorem d_Reader_isInt_53 : decode b_Reader_isInt 53 = .ok (.iload 5, 2) := by decide +kernel
theorem d_Reader_isInt_55 : decode b_Reader_isInt 55 = .ok (.iadd, 1) := by decide +kernel
theorem d_Reader_isInt_56 : decode b_Reader_isInt 56 = .ok (.invokevirtual 42, 3) := by decide +kernel
theorem d_Reader_isInt_59 : decode b_Reader_isInt 59 = .ok (.istore 6, 2) := by decide +kernel
theorem d_Reader_isInt_61 : decode b_Reader_isInt 61 = .ok (.iload 6, 2) := by decide +kernel
theorem d_Reader_isInt_63 : decode b_Reader_isInt 63 = .ok (.bipush 48, 2) := by decide +kernel
theorem d_Reader_isInt_65 : decode b_Reader_isInt 65 = .ok (.if_icmp .lt 10, 3) := by decide +kernel
theorem d_Reader_isInt_68 : decode b_Reader_isInt 68 = .ok (.iload 6, 2) := by decide +kernel
theorem d_Reader_isInt_70 : decode b_Reader_isInt 70 = .ok (.bipush 57, 2) := by decide +kernel
theorem d_Reader_isInt_72 : decode b_Reader_isInt 72 = .ok (.if_icmp .le 5, 3) := by decide +kernel
theorem d_Reader_isInt_75 : decode b_Reader_isInt 75 = .ok (.iconst 0, 1) := by decide +kernel
theorem d_Reader_isInt_76 : decode b_Reader_isInt 76 = .ok (.ireturn, 1) := by decide +kernel
theorem d_Reader_isInt_77 : decode b_Reader_isInt 77 = .ok (.iinc 5 1, 3) := by decide +kernel
theorem d_Reader_isInt_80 : decode b_Reader_isInt 80 = .ok (.goto (-38), 3) := by decide +kernel
theorem d_Reader_isInt_83 : decode b_Reader_isInt 83 = .ok (.iconst 1, 1) := by decide +kernel
theorem d_Reader_isInt_84 : decode b_Reader_isInt 84 = .ok (.ireturn, 1) := by decide +kernel
theorem d_Reader_numberAt_0 : decode b_Reader_numberAt 0 = .ok (.aload_n 0, 1) := by decide +kernel
theorem d_Reader_numberAt_1 : decode b_Reader_numberAt 1 = .ok (.getfield 9, 3) := by decide +kernel
theorem d_Reader_numberAt_4 : decode b_Reader_numberAt 4 = .ok (.iload_n 1, 1) := by decide +kernel
theorem d_Reader_numberAt_5 : decode b_Reader_numberAt 5 = .ok (.invokevirtual 42, 3) := by decide +kernel
theorem d_Reader_numberAt_8 : decode b_Reader_numberAt 8 = .ok (.bipush 45, 2) := by decide +kernel
theorem d_Reader_numberAt_10 : decode b_Reader_numberAt 10 = .ok (.if_icmp .ne 7, 3) := by decide +kernel
theorem d_Reader_numberAt_13 : decode b_Reader_numberAt 13 = .ok (.iconst 1, 1) := by decide +kernel
theorem d_Reader_numberAt_14 : decode b_Reader_numberAt 14 = .ok (.goto 4, 3) := by decide +kernel
theorem d_Reader_numberAt_17 : decode b_Reader_numberAt 17 = .ok (.iconst 0, 1) := by decide +kernel
theorem d_Reader_numberAt_18 : decode b_Reader_numberAt 18 = .ok (.istore_n 3, 1) := by decide +kernel
theorem d_Reader_numberAt_19 : decode b_Reader_numberAt 19 = .ok (.iconst 0, 1) := by decide +kernel
theorem d_Reader_numberAt_20 : decode b_Reader_numberAt 20 = .ok (.istore 4, 2) := by decide +kernel
theorem d_Reader_numberAt_22 : decode b_Reader_numberAt 22 = .ok (.iload_n 3, 1) := by decide +kernel
theorem d_Reader_numberAt_23 : decode b_Reader_numberAt 23 = .ok (.istore 5, 2) := by decide +kernel
theorem d_Reader_numberAt_25 : decode b_Reader_numberAt 25 = .ok (.iload 5, 2) := by decide +kernel
theorem d_Reader_numberAt_27 : decode b_Reader_numberAt 27 = .ok (.iload_n 2, 1) := by decide +kernel
theorem d_Reader_numberAt_28 : decode b_Reader_numberAt 28 = .ok (.if_icmp .ge 31, 3) := by decide +kernel
theorem d_Reader_numberAt_31 : decode b_Reader_numberAt 31 = .ok (.iload 4, 2) := by decide +kernel
theorem d_Reader_numberAt_33 : decode b_Reader_numberAt 33 = .ok (.bipush 10, 2) := by decide +kernel
theorem d_Reader_numberAt_35 : decode b_Reader_numberAt 35 = .ok (.imul, 1) := by decide +kernel
theorem d_Reader_numberAt_36 : decode b_Reader_numberAt 36 = .ok (.aload_n 0, 1) := by decide +kernel
theorem d_Reader_numberAt_37 : decode b_Reader_numberAt 37 = .ok (.getfield 9, 3) := by decide +kernel
theorem d_Reader_numberAt_40 : decode b_Reader_numberAt 40 = .ok (.iload_n 1, 1) := by decide +kernel
theorem d_Reader_numberAt_41 : decode b_Reader_numberAt 41 = .ok (.iload 5, 2) := by decide +kernel
theorem d_Reader_numberAt_43 : decode b_Reader_numberAt 43 = .ok (.iadd, 1) := by decide +kernel
theorem d_Reader_numberAt_44 : decode b_Reader_numberAt 44 = .ok (.invokevirtual 42, 3) := by decide +kernel
theorem d_Reader_numberAt_47 : decode b_Reader_numberAt 47 = .ok (.iadd, 1) := by decide +kernel
theorem d_Reader_numberAt_48 : decode b_Reader_numberAt 48 = .ok (.bipush 48, 2) := by decide +kernel
theorem d_Reader_numberAt_50 : decode b_Reader_numberAt 50 = .ok (.isub, 1) := by decide +kernel
theorem d_Reader_numberAt_51 : decode b_Reader_numberAt 51 = .ok (.istore 4, 2) := by decide +kernel
theorem d_Reader_numberAt_53 : decode b_Reader_numberAt 53 = .ok (.iinc 5 1, 3) := by decide +kernel
theorem d_Reader_numberAt_56 : decode b_Reader_numberAt 56 = .ok (.goto (-31), 3) := by decide +kernel
theorem d_Reader_numberAt_59 : decode b_Reader_numberAt 59 = .ok (.iload_n 3, 1) := by decide +kernel
theorem d_Reader_numberAt_60 : decode b_Reader_numberAt 60 = .ok (.iconst 1, 1) := by decide +kernel
theorem d_Reader_numberAt_61 : decode b_Reader_numberAt 61 = .ok (.if_icmp .ne 9, 3) := by decide +kernel
theorem d_Reader_numberAt_64 : decode b_Reader_numberAt 64 = .ok (.iload 4, 2) := by decide +kernel
theorem d_Reader_numberAt_66 : decode b_Reader_numberAt 66 = .ok (.ineg, 1) := by decide +kernel
theorem d_Reader_numberAt_67 : decode b_Reader_numberAt 67 = .ok (.goto 5, 3) := by decide +kernel
theorem d_Reader_numberAt_70 : decode b_Reader_numberAt 70 = .ok (.iload 4, 2) := by decide +kernel
theorem d_Reader_numberAt_72 : decode b_Reader_numberAt 72 = .ok (.ireturn, 1) := by decide +kernel
theorem d_Reader_wordLength_0 : decode b_Reader_wordLength 0 = .ok (.iload_n 1, 1) := by decide +kernel
theorem d_Reader_wordLength_1 : decode b_Reader_wordLength 1 = .ok (.istore_n 2, 1) := by decide +kernel
theorem d_Reader_wordLength_2 : decode b_Reader_wordLength 2 = .ok (.iload_n 2, 1) := by decide +kernel
theorem d_Reader_wordLength_3 : decode b_Reader_wordLength 3 = .ok (.aload_n 0, 1) := by decide +kernel
theorem d_Reader_wordLength_4 : decode b_Reader_wordLength 4 = .ok (.getfield 9, 3) := by decide +kernel
theorem d_Reader_wordLength_7 : decode b_Reader_wordLength 7 = .ok (.invokevirtual 36, 3) := by decide +kernel
theorem d_Reader_wordLength_10 : decode b_Reader_wordLength 10 = .ok (.if_icmp .ge 23, 3) := by decide +kernel
theorem d_Reader_wordLength_13 : decode b_Reader_wordLength 13 = .ok (.aload_n 0, 1) := by decide +kernel
theorem d_Reader_wordLength_14 : decode b_Reader_wordLength 14 = .ok (.getfield 9, 3) := by decide +kernel
theorem d_Reader_wordLength_17 : decode b_Reader_wordLength 17 = .ok (.iload_n 2, 1) := by decide +kernel
theorem d_Reader_wordLength_18 : decode b_Reader_wordLength 18 = .ok (.invokevirtual 42, 3) := by decide +kernel
theorem d_Reader_wordLength_21 : decode b_Reader_wordLength 21 = .ok (.invokestatic 136, 3) := by decide +kernel
theorem d_Reader_wordLength_24 : decode b_Reader_wordLength 24 = .ok (.ifCond .eq 9, 3) := by decide +kernel
theorem d_Reader_wordLength_27 : decode b_Reader_wordLength 27 = .ok (.iinc 2 1, 3) := by decide +kernel
theorem d_Reader_wordLength_30 : decode b_Reader_wordLength 30 = .ok (.goto (-28), 3) := by decide +kernel
theorem d_Reader_wordLength_33 : decode b_Reader_wordLength 33 = .ok (.iload_n 2, 1) := by decide +kernel
theorem d_Reader_wordLength_34 : decode b_Reader_wordLength 34 = .ok (.iload_n 1, 1) := by decide +kernel
theorem d_Reader_wordLength_35 : decode b_Reader_wordLength 35 = .ok (.isub, 1) := by decide +kernel
theorem d_Reader_wordLength_36 : decode b_Reader_wordLength 36 = .ok (.ireturn, 1) := by decide +kernel
theorem d_Reader_isRegular_0 : decode b_Reader_isRegular 0 = .ok (.iload_n 0, 1) := by decide +kernel
theorem d_Reader_isRegular_1 : decode b_Reader_isRegular 1 = .ok (.lookupswitch 69 #[(40, 67), (41, 67), (47, 67), (60, 67), (62, 67), (91, 67), (93, 67)], 67) := by decide +kernel
theorem d_Reader_isRegular_68 : decode b_Reader_isRegular 68 = .ok (.iconst 0, 1) := by decide +kernel
theorem d_Reader_isRegular_69 : decode b_Reader_isRegular 69 = .ok (.ireturn, 1) := by decide +kernel
theorem d_Reader_isRegular_70 : decode b_Reader_isRegular 70 = .ok (.iload_n 0, 1) := by decide +kernel
theorem d_Reader_isRegular_71 : decode b_Reader_isRegular 71 = .ok (.bipush 33, 2) := by decide +kernel
theorem d_Reader_isRegular_73 : decode b_Reader_isRegular 73 = .ok (.if_icmp .lt 13, 3) := by decide +kernel
theorem d_Reader_isRegular_76 : decode b_Reader_isRegular 76 = .ok (.iload_n 0, 1) := by decide +kernel
theorem d_Reader_isRegular_77 : decode b_Reader_isRegular 77 = .ok (.bipush 126, 2) := by decide +kernel
theorem d_Reader_isRegular_79 : decode b_Reader_isRegular 79 = .ok (.if_icmp .gt 7, 3) := by decide +kernel
theorem d_Reader_isRegular_82 : decode b_Reader_isRegular 82 = .ok (.iconst 1, 1) := by decide +kernel
theorem d_Reader_isRegular_83 : decode b_Reader_isRegular 83 = .ok (.goto 4, 3) := by decide +kernel
theorem d_Reader_isRegular_86 : decode b_Reader_isRegular 86 = .ok (.iconst 0, 1) := by decide +kernel
theorem d_Reader_isRegular_87 : decode b_Reader_isRegular 87 = .ok (.ireturn, 1) := by decide +kernel
theorem d_Reader_afterWhite_0 : decode b_Reader_afterWhite 0 = .ok (.iload_n 1, 1) := by decide +kernel
theorem d_Reader_afterWhite_1 : decode b_Reader_afterWhite 1 = .ok (.istore_n 2, 1) := by decide +kernel
theorem d_Reader_afterWhite_2 : decode b_Reader_afterWhite 2 = .ok (.iload_n 2, 1) := by decide +kernel
theorem d_Reader_afterWhite_3 : decode b_Reader_afterWhite 3 = .ok (.aload_n 0, 1) := by decide +kernel
theorem d_Reader_afterWhite_4 : decode b_Reader_afterWhite 4 = .ok (.getfield 9, 3) := by decide +kernel
theorem d_Reader_afterWhite_7 : decode b_Reader_afterWhite 7 = .ok (.invokevirtual 36, 3) := by decide +kernel
theorem d_Reader_afterWhite_10 : decode b_Reader_afterWhite 10 = .ok (.if_icmp .ge 23, 3) := by decide +kernel
theorem d_Reader_afterWhite_13 : decode b_Reader_afterWhite 13 = .ok (.aload_n 0, 1) := by decide +kernel
theorem d_Reader_afterWhite_14 : decode b_Reader_afterWhite 14 = .ok (.getfield 9, 3) := by decide +kernel
theorem d_Reader_afterWhite_17 : decode b_Reader_afterWhite 17 = .ok (.iload_n 2, 1) := by decide +kernel
theorem d_Reader_afterWhite_18 : decode b_Reader_afterWhite 18 = .ok (.invokevirtual 42, 3) := by decide +kernel
theorem d_Reader_afterWhite_21 : decode b_Reader_afterWhite 21 = .ok (.invokestatic 139, 3) := by decide +kernel
theorem d_Reader_afterWhite_24 : decode b_Reader_afterWhite 24 = .ok (.ifCond .eq 9, 3) := by decide +kernel
theorem d_Reader_afterWhite_27 : decode b_Reader_afterWhite 27 = .ok (.iinc 2 1, 3) := by decide +kernel
theorem d_Reader_afterWhite_30 : decode b_Reader_afterWhite 30 = .ok (.goto (-28), 3) := by decide +kernel
theorem d_Reader_afterWhite_33 : decode b_Reader_afterWhite 33 = .ok (.iload_n 2, 1) := by decide +kernel
theorem d_Reader_afterWhite_34 : decode b_Reader_afterWhite 34 = .ok (.ireturn, 1) := by decide +kernel
theorem d_Reader_isWhite_0 : decode b_Reader_isWhite 0 = .ok (.iload_n 0, 1) := by decide +kernel
theorem d_Reader_isWhite_1 : decode b_Reader_isWhite 1 = .ok (.bipush 32, 2) := by decide +kernel
theorem d_Reader_isWhite_3 : decode b_Reader_isWhite 3 = .ok (.if_icmp .eq 15, 3) := by decide +kernel
theorem d_Reader_isWhite_6 : decode b_Reader_isWhite 6 = .ok (.iload_n 0, 1) := by decide +kernel
theorem d_Reader_isWhite_7 : decode b_Reader_isWhite 7 = .ok (.bipush 10, 2) := by decide +kernel
theorem d_Reader_isWhite_9 : decode b_Reader_isWhite 9 = .ok (.if_icmp .eq 9, 3) := by decide +kernel
theorem d_Reader_isWhite_12 : decode b_Reader_isWhite 12 = .ok (.iload_n 0, 1) := by decide +kernel
theorem d_Reader_isWhite_13 : decode b_Reader_isWhite 13 = .ok (.bipush 13, 2) := by decide +kernel
theorem d_Reader_isWhite_15 : decode b_Reader_isWhite 15 = .ok (.if_icmp .ne 7, 3) := by decide +kernel
theorem d_Reader_isWhite_18 : decode b_Reader_isWhite 18 = .ok (.iconst 1, 1) := by decide +kernel
theorem d_Reader_isWhite_19 : decode b_Reader_isWhite 19 = .ok (.goto 4, 3) := by decide +kernel
theorem d_Reader_isWhite_22 : decode b_Reader_isWhite 22 = .ok (.iconst 0, 1) := by decide +kernel
theorem d_Reader_isWhite_23 : decode b_Reader_isWhite 23 = .ok (.ireturn, 1) := by decide +kernel
