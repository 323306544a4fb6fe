theorem d_V_init_0 : decode b_V_init 0 = .ok (.aload_n 0, 1) := by decide +kernel
theorem d_V_init_1 : decode b_V_init 1 = .ok (.invokespecial 3, 3) := by decide +kernel
theorem d_V_init_4 : decode b_V_init 4 = .ok (.aload_n 0, 1) := by decide +kernel
theorem d_V_init_5 : decode b_V_init 5 = .ok (.new 9, 3) := by decide +kernel
theorem d_V_init_8 : decode b_V_init 8 = .ok (.dup, 1) := by decide +kernel
theorem d_V_init_9 : decode b_V_init 9 = .ok (.sipush 1000, 3) := by decide +kernel
theorem d_V_init_12 : decode b_V_init 12 = .ok (.invokespecial 11, 3) := by decide +kernel
theorem d_V_init_15 : decode b_V_init 15 = .ok (.putfield 14, 3) := by decide +kernel
theorem d_V_init_18 : decode b_V_init 18 = .ok (.aload_n 0, 1) := by decide +kernel
theorem d_V_init_19 : decode b_V_init 19 = .ok (.new 9, 3) := by decide +kernel
theorem d_V_init_22 : decode b_V_init 22 = .ok (.dup, 1) := by decide +kernel
theorem d_V_init_23 : decode b_V_init 23 = .ok (.sipush 2000, 3) := by decide +kernel
theorem d_V_init_26 : decode b_V_init 26 = .ok (.invokespecial 11, 3) := by decide +kernel
theorem d_V_init_29 : decode b_V_init 29 = .ok (.putfield 18, 3) := by decide +kernel
theorem d_V_init_32 : decode b_V_init 32 = .ok (.aload_n 0, 1) := by decide +kernel
theorem d_V_init_33 : decode b_V_init 33 = .ok (.aconst_null, 1) := by decide +kernel
theorem d_V_init_34 : decode b_V_init 34 = .ok (.putfield 21, 3) := by decide +kernel
theorem d_V_init_37 : decode b_V_init 37 = .ok (.aload_n 0, 1) := by decide +kernel
theorem d_V_init_38 : decode b_V_init 38 = .ok (.new 25, 3) := by decide +kernel
theorem d_V_init_41 : decode b_V_init 41 = .ok (.dup, 1) := by decide +kernel
theorem d_V_init_42 : decode b_V_init 42 = .ok (.invokespecial 27, 3) := by decide +kernel
theorem d_V_init_45 : decode b_V_init 45 = .ok (.putfield 28, 3) := by decide +kernel
theorem d_V_init_48 : decode b_V_init 48 = .ok (.aload_n 0, 1) := by decide +kernel
theorem d_V_init_49 : decode b_V_init 49 = .ok (.iconst 0, 1) := by decide +kernel
theorem d_V_init_50 : decode b_V_init 50 = .ok (.putfield 31, 3) := by decide +kernel
theorem d_V_init_53 : decode b_V_init 53 = .ok (.return_, 1) := by decide +kernel
theorem d_V_feed_0 : decode b_V_feed 0 = .ok (.aload_n 0, 1) := by decide +kernel
theorem d_V_feed_1 : decode b_V_feed 1 = .ok (.getfield 14, 3) := by decide +kernel
theorem d_V_feed_4 : decode b_V_feed 4 = .ok (.invokevirtual 35, 3) := by decide +kernel
theorem d_V_feed_7 : decode b_V_feed 7 = .ok (.bipush 20, 2) := by decide +kernel
theorem d_V_feed_9 : decode b_V_feed 9 = .ok (.iadd, 1) := by decide +kernel
theorem d_V_feed_10 : decode b_V_feed 10 = .ok (.sipush 1000, 3) := by decide +kernel
theorem d_V_feed_13 : decode b_V_feed 13 = .ok (.if_icmp .le 6, 3) := by decide +kernel
theorem d_V_feed_16 : decode b_V_feed 16 = .ok (.bipush (-3), 2) := by decide +kernel
theorem d_V_feed_18 : decode b_V_feed 18 = .ok (.ireturn, 1) := by decide +kernel
theorem d_V_feed_19 : decode b_V_feed 19 = .ok (.aload_n 0, 1) := by decide +kernel
theorem d_V_feed_20 : decode b_V_feed 20 = .ok (.getfield 14, 3) := by decide +kernel
theorem d_V_feed_23 : decode b_V_feed 23 = .ok (.iload_n 1, 1) := by decide +kernel
theorem d_V_feed_24 : decode b_V_feed 24 = .ok (.invokevirtual 39, 3) := by decide +kernel
theorem d_V_feed_27 : decode b_V_feed 27 = .ok (.aload_n 0, 1) := by decide +kernel
theorem d_V_feed_28 : decode b_V_feed 28 = .ok (.getfield 14, 3) := by decide +kernel
theorem d_V_feed_31 : decode b_V_feed 31 = .ok (.iload_n 2, 1) := by decide +kernel
theorem d_V_feed_32 : decode b_V_feed 32 = .ok (.invokevirtual 39, 3) := by decide +kernel
theorem d_V_feed_35 : decode b_V_feed 35 = .ok (.aload_n 0, 1) := by decide +kernel
theorem d_V_feed_36 : decode b_V_feed 36 = .ok (.getfield 14, 3) := by decide +kernel
theorem d_V_feed_39 : decode b_V_feed 39 = .ok (.iload_n 3, 1) := by decide +kernel
theorem d_V_feed_40 : decode b_V_feed 40 = .ok (.invokevirtual 39, 3) := by decide +kernel
theorem d_V_feed_43 : decode b_V_feed 43 = .ok (.aload_n 0, 1) := by decide +kernel
theorem d_V_feed_44 : decode b_V_feed 44 = .ok (.getfield 14, 3) := by decide +kernel
theorem d_V_feed_47 : decode b_V_feed 47 = .ok (.iload 4, 2) := by decide +kernel
theorem d_V_feed_49 : decode b_V_feed 49 = .ok (.invokevirtual 39, 3) := by decide +kernel
theorem d_V_feed_52 : decode b_V_feed 52 = .ok (.aload_n 0, 1) := by decide +kernel
theorem d_V_feed_53 : decode b_V_feed 53 = .ok (.getfield 14, 3) := by decide +kernel
theorem d_V_feed_56 : decode b_V_feed 56 = .ok (.iload 5, 2) := by decide +kernel
theorem d_V_feed_58 : decode b_V_feed 58 = .ok (.invokevirtual 39, 3) := by decide +kernel
theorem d_V_feed_61 : decode b_V_feed 61 = .ok (.aload_n 0, 1) := by decide +kernel
theorem d_V_feed_62 : decode b_V_feed 62 = .ok (.getfield 14, 3) := by decide +kernel
theorem d_V_feed_65 : decode b_V_feed 65 = .ok (.invokevirtual 35, 3) := by decide +kernel
theorem d_V_feed_68 : decode b_V_feed 68 = .ok (.ireturn, 1) := by decide +kernel
theorem d_V_end_0 : decode b_V_end 0 = .ok (.iload_n 1, 1) := by decide +kernel
theorem d_V_end_1 : decode b_V_end 1 = .ok (.ifCond .lt 14, 3) := by decide +kernel
theorem d_V_end_4 : decode b_V_end 4 = .ok (.iload_n 1, 1) := by decide +kernel
theorem d_V_end_5 : decode b_V_end 5 = .ok (.aload_n 0, 1) := by decide +kernel
theorem d_V_end_6 : decode b_V_end 6 = .ok (.getfield 14, 3) := by decide +kernel
theorem d_V_end_9 : decode b_V_end 9 = .ok (.invokevirtual 35, 3) := by decide +kernel
theorem d_V_end_12 : decode b_V_end 12 = .ok (.if_icmp .le 5, 3) := by decide +kernel
theorem d_V_end_15 : decode b_V_end 15 = .ok (.iconst (-1), 1) := by decide +kernel
theorem d_V_end_16 : decode b_V_end 16 = .ok (.ireturn, 1) := by decide +kernel
theorem d_V_end_17 : decode b_V_end 17 = .ok (.aload_n 0, 1) := by decide +kernel
theorem d_V_end_18 : decode b_V_end 18 = .ok (.getfield 14, 3) := by decide +kernel
theorem d_V_end_21 : decode b_V_end 21 = .ok (.iload_n 1, 1) := by decide +kernel
theorem d_V_end_22 : decode b_V_end 22 = .ok (.invokevirtual 42, 3) := by decide +kernel
theorem d_V_end_25 : decode b_V_end 25 = .ok (.iload_n 1, 1) := by decide +kernel
theorem d_V_end_26 : decode b_V_end 26 = .ok (.ireturn, 1) := by decide +kernel
theorem d_V_read_0 : decode b_V_read 0 = .ok (.new 45, 3) := by decide +kernel
theorem d_V_read_3 : decode b_V_read 3 = .ok (.dup, 1) := by decide +kernel
theorem d_V_read_4 : decode b_V_read 4 = .ok (.aload_n 0, 1) := by decide +kernel
theorem d_V_read_5 : decode b_V_read 5 = .ok (.getfield 14, 3) := by decide +kernel
theorem d_V_read_8 : decode b_V_read 8 = .ok (.aload_n 0, 1) := by decide +kernel
theorem d_V_read_9 : decode b_V_read 9 = .ok (.getfield 28, 3) := by decide +kernel
theorem d_V_read_12 : decode b_V_read 12 = .ok (.invokespecial 47, 3) := by decide +kernel
theorem d_V_read_15 : decode b_V_read 15 = .ok (.invokevirtual 50, 3) := by decide +kernel
theorem d_V_read_18 : decode b_V_read 18 = .ok (.istore_n 1, 1) := by decide +kernel
theorem d_V_read_19 : decode b_V_read 19 = .ok (.aload_n 0, 1) := by decide +kernel
theorem d_V_read_20 : decode b_V_read 20 = .ok (.getfield 14, 3) := by decide +kernel
theorem d_V_read_23 : decode b_V_read 23 = .ok (.iconst 0, 1) := by decide +kernel
theorem d_V_read_24 : decode b_V_read 24 = .ok (.invokevirtual 42, 3) := by decide +kernel
theorem d_V_read_27 : decode b_V_read 27 = .ok (.iload_n 1, 1) := by decide +kernel
theorem d_V_read_28 : decode b_V_read 28 = .ok (.ifCond .ne 6, 3) := by decide +kernel
theorem d_V_read_31 : decode b_V_read 31 = .ok (.bipush (-4), 2) := by decide +kernel
theorem d_V_read_33 : decode b_V_read 33 = .ok (.ireturn, 1) := by decide +kernel
theorem d_V_read_34 : decode b_V_read 34 = .ok (.aload_n 0, 1) := by decide +kernel
theorem d_V_read_35 : decode b_V_read 35 = .ok (.getfield 21, 3) := by decide +kernel
theorem d_V_read_38 : decode b_V_read 38 = .ok (.astore_n 2, 1) := by decide +kernel
theorem d_V_read_39 : decode b_V_read 39 = .ok (.aload_n 0, 1) := by decide +kernel
theorem d_V_read_40 : decode b_V_read 40 = .ok (.aload_n 0, 1) := by decide +kernel
theorem d_V_read_41 : decode b_V_read 41 = .ok (.getfield 28, 3) := by decide +kernel
theorem d_V_read_44 : decode b_V_read 44 = .ok (.putfield 21, 3) := by decide +kernel
theorem d_V_read_47 : decode b_V_read 47 = .ok (.aload_n 0, 1) := by decide +kernel
theorem d_V_read_48 : decode b_V_read 48 = .ok (.aload_n 2, 1) := by decide +kernel
theorem d_V_read_49 : decode b_V_read 49 = .ok (.ifnonnull 13, 3) := by decide +kernel
theorem d_V_read_52 : decode b_V_read 52 = .ok (.new 25, 3) := by decide +kernel
theorem d_V_read_55 : decode b_V_read 55 = .ok (.dup, 1) := by decide +kernel
theorem d_V_read_56 : decode b_V_read 56 = .ok (.invokespecial 27, 3) := by decide +kernel
theorem d_V_read_59 : decode b_V_read 59 = .ok (.goto 4, 3) := by decide +kernel
theorem d_V_read_62 : decode b_V_read 62 = .ok (.aload_n 2, 1) := by decide +kernel
theorem d_V_read_63 : decode b_V_read 63 = .ok (.putfield 28, 3) := by decide +kernel
theorem d_V_read_66 : decode b_V_read 66 = .ok (.aload_n 0, 1) := by decide +kernel
theorem d_V_read_67 : decode b_V_read 67 = .ok (.iconst 0, 1) := by decide +kernel
theorem d_V_read_68 : decode b_V_read 68 = .ok (.putfield 31, 3) := by decide +kernel
theorem d_V_read_71 : decode b_V_read 71 = .ok (.aload_n 0, 1) := by decide +kernel
theorem d_V_read_72 : decode b_V_read 72 = .ok (.getfield 21, 3) := by decide +kernel
theorem d_V_read_75 : decode b_V_read 75 = .ok (.aload_n 0, 1) := by decide +kernel
theorem d_V_read_76 : decode b_V_read 76 = .ok (.getfield 31, 3) := by decide +kernel
theorem d_V_read_79 : decode b_V_read 79 = .ok (.invokevirtual 54, 3) := by decide +kernel
theorem d_V_read_82 : decode b_V_read 82 = .ok (.ireturn, 1) := by decide +kernel
theorem d_V_write_0 : decode b_V_write 0 = .ok (.aload_n 0, 1) := by decide +kernel
theorem d_V_write_1 : decode b_V_write 1 = .ok (.getfield 21, 3) := by decide +kernel
theorem d_V_write_4 : decode b_V_write 4 = .ok (.ifnonnull 6, 3) := by decide +kernel
theorem d_V_write_7 : decode b_V_write 7 = .ok (.bipush (-2), 2) := by decide +kernel
theorem d_V_write_9 : decode b_V_write 9 = .ok (.ireturn, 1) := by decide +kernel
theorem d_V_write_10 : decode b_V_write 10 = .ok (.aload_n 0, 1) := by decide +kernel
theorem d_V_write_11 : decode b_V_write 11 = .ok (.getfield 18, 3) := by decide +kernel
theorem d_V_write_14 : decode b_V_write 14 = .ok (.iconst 0, 1) := by decide +kernel
theorem d_V_write_15 : decode b_V_write 15 = .ok (.invokevirtual 42, 3) := by decide +kernel
theorem d_V_write_18 : decode b_V_write 18 = .ok (.new 58, 3) := by decide +kernel
theorem d_V_write_21 : decode b_V_write 21 = .ok (.dup, 1) := by decide +kernel
theorem d_V_write_22 : decode b_V_write 22 = .ok (.aload_n 0, 1) := by decide +kernel
theorem d_V_write_23 : decode b_V_write 23 = .ok (.getfield 21, 3) := by decide +kernel
theorem d_V_write_26 : decode b_V_write 26 = .ok (.aload_n 0, 1) := by decide +kernel
theorem d_V_write_27 : decode b_V_write 27 = .ok (.getfield 18, 3) := by decide +kernel
theorem d_V_write_30 : decode b_V_write 30 = .ok (.invokespecial 60, 3) := by decide +kernel
theorem d_V_write_33 : decode b_V_write 33 = .ok (.aload_n 0, 1) := by decide +kernel
theorem d_V_write_34 : decode b_V_write 34 = .ok (.getfield 31, 3) := by decide +kernel
theorem d_V_write_37 : decode b_V_write 37 = .ok (.invokevirtual 63, 3) := by decide +kernel
theorem d_V_write_40 : decode b_V_write 40 = .ok (.aload_n 0, 1) := by decide +kernel
theorem d_V_write_41 : decode b_V_write 41 = .ok (.getfield 18, 3) := by decide +kernel
theorem d_V_write_44 : decode b_V_write 44 = .ok (.invokevirtual 35, 3) := by decide +kernel
theorem d_V_write_47 : decode b_V_write 47 = .ok (.ireturn, 1) := by decide +kernel
theorem d_V_top_0 : decode b_V_top 0 = .ok (.aload_n 0, 1) := by decide +kernel
theorem d_V_top_1 : decode b_V_top 1 = .ok (.getfield 21, 3) := by decide +kernel
theorem d_V_top_4 : decode b_V_top 4 = .ok (.ifnonnull 8, 3) := by decide +kernel
theorem d_V_top_7 : decode b_V_top 7 = .ok (.bipush (-2), 2) := by decide +kernel
theorem d_V_top_9 : decode b_V_top 9 = .ok (.goto 8, 3) := by decide +kernel
theorem d_V_top_12 : decode b_V_top 12 = .ok (.aload_n 0, 1) := by decide +kernel
theorem d_V_top_13 : decode b_V_top 13 = .ok (.iconst 0, 1) := by decide +kernel
theorem d_V_top_14 : decode b_V_top 14 = .ok (.invokevirtual 66, 3) := by decide +kernel
theorem d_V_top_17 : decode b_V_top 17 = .ok (.ireturn, 1) := by decide +kernel
theorem d_V_item_0 : decode b_V_item 0 = .ok (.aload_n 0, 1) := by decide +kernel
theorem d_V_item_1 : decode b_V_item 1 = .ok (.getfield 21, 3) := by decide +kernel
theorem d_V_item_4 : decode b_V_item 4 = .ok (.ifnonnull 8, 3) := by decide +kernel
theorem d_V_item_7 : decode b_V_item 7 = .ok (.bipush (-2), 2) := by decide +kernel
theorem d_V_item_9 : decode b_V_item 9 = .ok (.goto 19, 3) := by decide +kernel
theorem d_V_item_12 : decode b_V_item 12 = .ok (.aload_n 0, 1) := by decide +kernel
theorem d_V_item_13 : decode b_V_item 13 = .ok (.aload_n 0, 1) := by decide +kernel
theorem d_V_item_14 : decode b_V_item 14 = .ok (.getfield 21, 3) := by decide +kernel
theorem d_V_item_17 : decode b_V_item 17 = .ok (.aload_n 0, 1) := by decide +kernel
theorem d_V_item_18 : decode b_V_item 18 = .ok (.getfield 31, 3) := by decide +kernel
theorem d_V_item_21 : decode b_V_item 21 = .ok (.iload_n 1, 1) := by decide +kernel
theorem d_V_item_22 : decode b_V_item 22 = .ok (.invokevirtual 69, 3) := by decide +kernel
theorem d_V_item_25 : decode b_V_item 25 = .ok (.invokevirtual 66, 3) := by decide +kernel
theorem d_V_item_28 : decode b_V_item 28 = .ok (.ireturn, 1) := by decide +kernel
theorem d_V_find_0 : decode b_V_find 0 = .ok (.aload_n 0, 1) := by decide +kernel
theorem d_V_find_1 : decode b_V_find 1 = .ok (.getfield 21, 3) := by decide +kernel
theorem d_V_find_4 : decode b_V_find 4 = .ok (.ifnonnull 8, 3) := by decide +kernel
theorem d_V_find_7 : decode b_V_find 7 = .ok (.bipush (-2), 2) := by decide +kernel
theorem d_V_find_9 : decode b_V_find 9 = .ok (.goto 26, 3) := by decide +kernel
theorem d_V_find_12 : decode b_V_find 12 = .ok (.aload_n 0, 1) := by decide +kernel
theorem d_V_find_13 : decode b_V_find 13 = .ok (.getfield 21, 3) := by decide +kernel
theorem d_V_find_16 : decode b_V_find 16 = .ok (.aload_n 0, 1) := by decide +kernel
theorem d_V_find_17 : decode b_V_find 17 = .ok (.getfield 31, 3) := by decide +kernel
theorem d_V_find_20 : decode b_V_find 20 = .ok (.aload_n 0, 1) := by decide +kernel
theorem d_V_find_21 : decode b_V_find 21 = .ok (.getfield 14, 3) := by decide +kernel
theorem d_V_find_24 : decode b_V_find 24 = .ok (.iconst 0, 1) := by decide +kernel
theorem d_V_find_25 : decode b_V_find 25 = .ok (.aload_n 0, 1) := by decide +kernel
theorem d_V_find_26 : decode b_V_find 26 = .ok (.getfield 14, 3) := by decide +kernel
theorem d_V_find_29 : decode b_V_find 29 = .ok (.invokevirtual 35, 3) := by decide +kernel
theorem d_V_find_32 : decode b_V_find 32 = .ok (.invokevirtual 73, 3) := by decide +kernel
theorem d_V_find_35 : decode b_V_find 35 = .ok (.istore_n 1, 1) := by decide +kernel
theorem d_V_find_36 : decode b_V_find 36 = .ok (.aload_n 0, 1) := by decide +kernel
theorem d_V_find_37 : decode b_V_find 37 = .ok (.getfield 14, 3) := by decide +kernel
theorem d_V_find_40 : decode b_V_find 40 = .ok (.iconst 0, 1) := by decide +kernel
theorem d_V_find_41 : decode b_V_find 41 = .ok (.invokevirtual 42, 3) := by decide +kernel
theorem d_V_find_44 : decode b_V_find 44 = .ok (.aload_n 0, 1) := by decide +kernel
theorem d_V_find_45 : decode b_V_find 45 = .ok (.iload_n 1, 1) := by decide +kernel
theorem d_V_find_46 : decode b_V_find 46 = .ok (.invokevirtual 66, 3) := by decide +kernel
theorem d_V_find_49 : decode b_V_find 49 = .ok (.ireturn, 1) := by decide +kernel
theorem d_V_look_0 : decode b_V_look 0 = .ok (.iload_n 1, 1) := by decide +kernel
theorem d_V_look_1 : decode b_V_look 1 = .ok (.ifCond .lt 8, 3) := by decide +kernel
theorem d_V_look_4 : decode b_V_look 4 = .ok (.iload_n 1, 1) := by decide +kernel
theorem d_V_look_5 : decode b_V_look 5 = .ok (.iconst 3, 1) := by decide +kernel
theorem d_V_look_6 : decode b_V_look 6 = .ok (.if_icmp .le 5, 3) := by decide +kernel
theorem d_V_look_9 : decode b_V_look 9 = .ok (.iconst (-1), 1) := by decide +kernel
theorem d_V_look_10 : decode b_V_look 10 = .ok (.ireturn, 1) := by decide +kernel
theorem d_V_look_11 : decode b_V_look 11 = .ok (.aload_n 0, 1) := by decide +kernel
theorem d_V_look_12 : decode b_V_look 12 = .ok (.getfield 21, 3) := by decide +kernel
theorem d_V_look_15 : decode b_V_look 15 = .ok (.ifnonnull 6, 3) := by decide +kernel
theorem d_V_look_18 : decode b_V_look 18 = .ok (.bipush (-2), 2) := by decide +kernel
theorem d_V_look_20 : decode b_V_look 20 = .ok (.ireturn, 1) := by decide +kernel
theorem d_V_look_21 : decode b_V_look 21 = .ok (.iload_n 1, 1) := by decide +kernel
theorem d_V_look_22 : decode b_V_look 22 = .ok (.tableswitch 82 0 2 #[26, 38, 50], 26) := by decide +kernel
theorem d_V_look_48 : decode b_V_look 48 = .ok (.aload_n 0, 1) := by decide +kernel
theorem d_V_look_49 : decode b_V_look 49 = .ok (.getfield 21, 3) := by decide +kernel
theorem d_V_look_52 : decode b_V_look 52 = .ok (.aload_n 0, 1) := by decide +kernel
theorem d_V_look_53 : decode b_V_look 53 = .ok (.getfield 31, 3) := by decide +kernel
theorem d_V_look_56 : decode b_V_look 56 = .ok (.invokevirtual 54, 3) := by decide +kernel
theorem d_V_look_59 : decode b_V_look 59 = .ok (.ireturn, 1) := by decide +kernel
theorem d_V_look_60 : decode b_V_look 60 = .ok (.aload_n 0, 1) := by decide +kernel
theorem d_V_look_61 : decode b_V_look 61 = .ok (.getfield 21, 3) := by decide +kernel
theorem d_V_look_64 : decode b_V_look 64 = .ok (.aload_n 0, 1) := by decide +kernel
theorem d_V_look_65 : decode b_V_look 65 = .ok (.getfield 31, 3) := by decide +kernel
theorem d_V_look_68 : decode b_V_look 68 = .ok (.invokevirtual 77, 3) := by decide +kernel
theorem d_V_look_71 : decode b_V_look 71 = .ok (.ireturn, 1) := by decide +kernel
theorem d_V_look_72 : decode b_V_look 72 = .ok (.aload_n 0, 1) := by decide +kernel
theorem d_V_look_73 : decode b_V_look 73 = .ok (.getfield 21, 3) := by decide +kernel
theorem d_V_look_76 : decode b_V_look 76 = .ok (.aload_n 0, 1) := by decide +kernel
theorem d_V_look_77 : decode b_V_look 77 = .ok (.getfield 31, 3) := by decide +kernel
theorem d_V_look_80 : decode b_V_look 80 = .ok (.invokevirtual 54, 3) := by decide +kernel
theorem d_V_look_83 : decode b_V_look 83 = .ok (.bipush 8, 2) := by decide +kernel
theorem d_V_look_85 : decode b_V_look 85 = .ok (.if_icmp .ne 17, 3) := by decide +kernel
theorem d_V_look_88 : decode b_V_look 88 = .ok (.aload_n 0, 1) := by decide +kernel
theorem d_V_look_89 : decode b_V_look 89 = .ok (.getfield 21, 3) := by decide +kernel
theorem d_V_look_92 : decode b_V_look 92 = .ok (.aload_n 0, 1) := by decide +kernel
theorem d_V_look_93 : decode b_V_look 93 = .ok (.getfield 31, 3) := by decide +kernel
theorem d_V_look_96 : decode b_V_look 96 = .ok (.invokevirtual 80, 3) := by decide +kernel
theorem d_V_look_99 : decode b_V_look 99 = .ok (.goto 4, 3) := by decide +kernel
theorem d_V_look_102 : decode b_V_look 102 = .ok (.iconst 0, 1) := by decide +kernel
theorem d_V_look_103 : decode b_V_look 103 = .ok (.ireturn, 1) := by decide +kernel
theorem d_V_look_104 : decode b_V_look 104 = .ok (.aload_n 0, 1) := by decide +kernel
theorem d_V_look_105 : decode b_V_look 105 = .ok (.getfield 21, 3) := by decide +kernel
theorem d_V_look_108 : decode b_V_look 108 = .ok (.aload_n 0, 1) := by decide +kernel
theorem d_V_look_109 : decode b_V_look 109 = .ok (.getfield 31, 3) := by decide +kernel
theorem d_V_look_112 : decode b_V_look 112 = .ok (.invokevirtual 83, 3) := by decide +kernel
theorem d_V_look_115 : decode b_V_look 115 = .ok (.ireturn, 1) := by decide +kernel
theorem d_V_bytes_0 : decode b_V_bytes 0 = .ok (.aload_n 0, 1) := by decide +kernel
theorem d_V_bytes_1 : decode b_V_bytes 1 = .ok (.getfield 21, 3) := by decide +kernel
theorem d_V_bytes_4 : decode b_V_bytes 4 = .ok (.ifnonnull 6, 3) := by decide +kernel
theorem d_V_bytes_7 : decode b_V_bytes 7 = .ok (.bipush (-2), 2) := by decide +kernel
theorem d_V_bytes_9 : decode b_V_bytes 9 = .ok (.ireturn, 1) := by decide +kernel
theorem d_V_bytes_10 : decode b_V_bytes 10 = .ok (.aload_n 0, 1) := by decide +kernel
theorem d_V_bytes_11 : decode b_V_bytes 11 = .ok (.getfield 21, 3) := by decide +kernel
theorem d_V_bytes_14 : decode b_V_bytes 14 = .ok (.aload_n 0, 1) := by decide +kernel
theorem d_V_bytes_15 : decode b_V_bytes 15 = .ok (.getfield 31, 3) := by decide +kernel
theorem d_V_bytes_18 : decode b_V_bytes 18 = .ok (.iload_n 1, 1) := by decide +kernel
theorem d_V_bytes_19 : decode b_V_bytes 19 = .ok (.invokevirtual 86, 3) := by decide +kernel
theorem d_V_bytes_22 : decode b_V_bytes 22 = .ok (.istore_n 2, 1) := by decide +kernel
theorem d_V_bytes_23 : decode b_V_bytes 23 = .ok (.iload_n 2, 1) := by decide +kernel
theorem d_V_bytes_24 : decode b_V_bytes 24 = .ok (.bipush (-2), 2) := by decide +kernel
theorem d_V_bytes_26 : decode b_V_bytes 26 = .ok (.if_icmp .ne 6, 3) := by decide +kernel
theorem d_V_bytes_29 : decode b_V_bytes 29 = .ok (.bipush (-2), 2) := by decide +kernel
theorem d_V_bytes_31 : decode b_V_bytes 31 = .ok (.ireturn, 1) := by decide +kernel
theorem d_V_bytes_32 : decode b_V_bytes 32 = .ok (.aload_n 0, 1) := by decide +kernel
theorem d_V_bytes_33 : decode b_V_bytes 33 = .ok (.getfield 18, 3) := by decide +kernel
theorem d_V_bytes_36 : decode b_V_bytes 36 = .ok (.iconst 0, 1) := by decide +kernel
theorem d_V_bytes_37 : decode b_V_bytes 37 = .ok (.invokevirtual 42, 3) := by decide +kernel
theorem d_V_bytes_40 : decode b_V_bytes 40 = .ok (.aload_n 0, 1) := by decide +kernel
theorem d_V_bytes_41 : decode b_V_bytes 41 = .ok (.getfield 18, 3) := by decide +kernel
theorem d_V_bytes_44 : decode b_V_bytes 44 = .ok (.aload_n 0, 1) := by decide +kernel
theorem d_V_bytes_45 : decode b_V_bytes 45 = .ok (.getfield 21, 3) := by decide +kernel
theorem d_V_bytes_48 : decode b_V_bytes 48 = .ok (.invokevirtual 89, 3) := by decide +kernel
theorem d_V_bytes_51 : decode b_V_bytes 51 = .ok (.aload_n 0, 1) := by decide +kernel
theorem d_V_bytes_52 : decode b_V_bytes 52 = .ok (.getfield 21, 3) := by decide +kernel
theorem d_V_bytes_55 : decode b_V_bytes 55 = .ok (.iload_n 2, 1) := by decide +kernel
theorem d_V_bytes_56 : decode b_V_bytes 56 = .ok (.invokevirtual 80, 3) := by decide +kernel
theorem d_V_bytes_59 : decode b_V_bytes 59 = .ok (.aload_n 0, 1) := by decide +kernel
theorem d_V_bytes_60 : decode b_V_bytes 60 = .ok (.getfield 21, 3) := by decide +kernel
theorem d_V_bytes_63 : decode b_V_bytes 63 = .ok (.iload_n 2, 1) := by decide +kernel
theorem d_V_bytes_64 : decode b_V_bytes 64 = .ok (.invokevirtual 77, 3) := by decide +kernel
theorem d_V_bytes_67 : decode b_V_bytes 67 = .ok (.invokevirtual 93, 3) := by decide +kernel
theorem d_V_bytes_70 : decode b_V_bytes 70 = .ok (.aload_n 0, 1) := by decide +kernel
theorem d_V_bytes_71 : decode b_V_bytes 71 = .ok (.getfield 18, 3) := by decide +kernel
theorem d_V_bytes_74 : decode b_V_bytes 74 = .ok (.invokevirtual 35, 3) := by decide +kernel
theorem d_V_bytes_77 : decode b_V_bytes 77 = .ok (.ireturn, 1) := by decide +kernel
theorem d_V_octet_0 : decode b_V_octet 0 = .ok (.iload_n 1, 1) := by decide +kernel
theorem d_V_octet_1 : decode b_V_octet 1 = .ok (.iconst (-1), 1) := by decide +kernel
theorem d_V_octet_2 : decode b_V_octet 2 = .ok (.if_icmp .ne 11, 3) := by decide +kernel
theorem d_V_octet_5 : decode b_V_octet 5 = .ok (.aload_n 0, 1) := by decide +kernel
theorem d_V_octet_6 : decode b_V_octet 6 = .ok (.getfield 18, 3) := by decide +kernel
theorem d_V_octet_9 : decode b_V_octet 9 = .ok (.invokevirtual 35, 3) := by decide +kernel
theorem d_V_octet_12 : decode b_V_octet 12 = .ok (.ireturn, 1) := by decide +kernel
theorem d_V_octet_13 : decode b_V_octet 13 = .ok (.iload_n 1, 1) := by decide +kernel
theorem d_V_octet_14 : decode b_V_octet 14 = .ok (.ifCond .lt 25, 3) := by decide +kernel
theorem d_V_octet_17 : decode b_V_octet 17 = .ok (.iload_n 1, 1) := by decide +kernel
theorem d_V_octet_18 : decode b_V_octet 18 = .ok (.aload_n 0, 1) := by decide +kernel
theorem d_V_octet_19 : decode b_V_octet 19 = .ok (.getfield 18, 3) := by decide +kernel
theorem d_V_octet_22 : decode b_V_octet 22 = .ok (.invokevirtual 35, 3) := by decide +kernel
theorem d_V_octet_25 : decode b_V_octet 25 = .ok (.if_icmp .ge 14, 3) := by decide +kernel
theorem d_V_octet_28 : decode b_V_octet 28 = .ok (.aload_n 0, 1) := by decide +kernel
theorem d_V_octet_29 : decode b_V_octet 29 = .ok (.getfield 18, 3) := by decide +kernel
theorem d_V_octet_32 : decode b_V_octet 32 = .ok (.iload_n 1, 1) := by decide +kernel
theorem d_V_octet_33 : decode b_V_octet 33 = .ok (.invokevirtual 97, 3) := by decide +kernel
theorem d_V_octet_36 : decode b_V_octet 36 = .ok (.goto 5, 3) := by decide +kernel
theorem d_V_octet_39 : decode b_V_octet 39 = .ok (.bipush (-2), 2) := by decide +kernel
theorem d_V_octet_41 : decode b_V_octet 41 = .ok (.ireturn, 1) := by decide +kernel
theorem d_V_pointAt_0 : decode b_V_pointAt 0 = .ok (.aload_n 0, 1) := by decide +kernel
theorem d_V_pointAt_1 : decode b_V_pointAt 1 = .ok (.getfield 21, 3) := by decide +kernel
theorem d_V_pointAt_4 : decode b_V_pointAt 4 = .ok (.ifnull 9, 3) := by decide +kernel
theorem d_V_pointAt_7 : decode b_V_pointAt 7 = .ok (.iload_n 1, 1) := by decide +kernel
theorem d_V_pointAt_8 : decode b_V_pointAt 8 = .ok (.bipush (-2), 2) := by decide +kernel
theorem d_V_pointAt_10 : decode b_V_pointAt 10 = .ok (.if_icmp .ne 6, 3) := by decide +kernel
theorem d_V_pointAt_13 : decode b_V_pointAt 13 = .ok (.bipush (-2), 2) := by decide +kernel
theorem d_V_pointAt_15 : decode b_V_pointAt 15 = .ok (.ireturn, 1) := by decide +kernel
theorem d_V_pointAt_16 : decode b_V_pointAt 16 = .ok (.aload_n 0, 1) := by decide +kernel
theorem d_V_pointAt_17 : decode b_V_pointAt 17 = .ok (.iload_n 1, 1) := by decide +kernel
theorem d_V_pointAt_18 : decode b_V_pointAt 18 = .ok (.putfield 31, 3) := by decide +kernel
theorem d_V_pointAt_21 : decode b_V_pointAt 21 = .ok (.aload_n 0, 1) := by decide +kernel
theorem d_V_pointAt_22 : decode b_V_pointAt 22 = .ok (.getfield 21, 3) := by decide +kernel
theorem d_V_pointAt_25 : decode b_V_pointAt 25 = .ok (.iload_n 1, 1) := by decide +kernel
theorem d_V_pointAt_26 : decode b_V_pointAt 26 = .ok (.invokevirtual 54, 3) := by decide +kernel
theorem d_V_pointAt_29 : decode b_V_pointAt 29 = .ok (.ireturn, 1) := by decide +kernel
theorem d_Writer_init_0 : decode b_Writer_init 0 = .ok (.aload_n 0, 1) := by decide +kernel
theorem d_Writer_init_1 : decode b_Writer_init 1 = .ok (.invokespecial 3, 3) := by decide +kernel
theorem d_Writer_init_4 : decode b_Writer_init 4 = .ok (.aload_n 0, 1) := by decide +kernel
theorem d_Writer_init_5 : decode b_Writer_init 5 = .ok (.aload_n 1, 1) := by decide +kernel
theorem d_Writer_init_6 : decode b_Writer_init 6 = .ok (.putfield 9, 3) := by decide +kernel
theorem d_Writer_init_9 : decode b_Writer_init 9 = .ok (.aload_n 0, 1) := by decide +kernel
theorem d_Writer_init_10 : decode b_Writer_init 10 = .ok (.aload_n 2, 1) := by decide +kernel
theorem d_Writer_init_11 : decode b_Writer_init 11 = .ok (.putfield 15, 3) := by decide +kernel
theorem d_Writer_init_14 : decode b_Writer_init 14 = .ok (.return_, 1) := by decide +kernel
theorem d_Writer_addAll_0 : decode b_Writer_addAll 0 = .ok (.aload_n 0, 1) := by decide +kernel
theorem d_Writer_addAll_1 : decode b_Writer_addAll 1 = .ok (.iload_n 1, 1) := by decide +kernel
theorem d_Writer_addAll_2 : decode b_Writer_addAll 2 = .ok (.iconst 0, 1) := by decide +kernel
theorem d_Writer_addAll_3 : decode b_Writer_addAll 3 = .ok (.invokevirtual 19, 3) := by decide +kernel
theorem d_Writer_addAll_6 : decode b_Writer_addAll 6 = .ok (.return_, 1) := by decide +kernel
theorem d_Writer_addValue_0 : decode b_Writer_addValue 0 = .ok (.aload_n 0, 1) := by decide +kernel
theorem d_Writer_addValue_1 : decode b_Writer_addValue 1 = .ok (.getfield 9, 3) := by decide +kernel
theorem d_Writer_addValue_4 : decode b_Writer_addValue 4 = .ok (.iload_n 1, 1) := by decide +kernel
theorem d_Writer_addValue_5 : decode b_Writer_addValue 5 = .ok (.invokevirtual 23, 3) := by decide +kernel
theorem d_Writer_addValue_8 : decode b_Writer_addValue 8 = .ok (.tableswitch 145 0 8 #[52, 64, 76, 88, 103, 111, 119, 128, 137], 52) := by decide +kernel
theorem d_Writer_addValue_60 : decode b_Writer_addValue 60 = .ok (.aload_n 0, 1) := by decide +kernel
theorem d_Writer_addValue_61 : decode b_Writer_addValue 61 = .ok (.getfield 15, 3) := by decide +kernel
theorem d_Writer_addValue_64 : decode b_Writer_addValue 64 = .ok (.ldc 29, 2) := by decide +kernel
theorem d_Writer_addValue_66 : decode b_Writer_addValue 66 = .ok (.invokevirtual 31, 3) := by decide +kernel
theorem d_Writer_addValue_69 : decode b_Writer_addValue 69 = .ok (.goto 84, 3) := by decide +kernel
theorem d_Writer_addValue_72 : decode b_Writer_addValue 72 = .ok (.aload_n 0, 1) := by decide +kernel
theorem d_Writer_addValue_73 : decode b_Writer_addValue 73 = .ok (.getfield 15, 3) := by decide +kernel
theorem d_Writer_addValue_76 : decode b_Writer_addValue 76 = .ok (.ldc 37, 2) := by decide +kernel
theorem d_Writer_addValue_78 : decode b_Writer_addValue 78 = .ok (.invokevirtual 31, 3) := by decide +kernel
theorem d_Writer_addValue_81 : decode b_Writer_addValue 81 = .ok (.goto 72, 3) := by decide +kernel
theorem d_Writer_addValue_84 : decode b_Writer_addValue 84 = .ok (.aload_n 0, 1) := by decide +kernel
theorem d_Writer_addValue_85 : decode b_Writer_addValue 85 = .ok (.getfield 15, 3) := by decide +kernel
theorem d_Writer_addValue_88 : decode b_Writer_addValue 88 = .ok (.ldc 39, 2) := by decide +kernel
theorem d_Writer_addValue_90 : decode b_Writer_addValue 90 = .ok (.invokevirtual 31, 3) := by decide +kernel
theorem d_Writer_addValue_93 : decode b_Writer_addValue 93 = .ok (.goto 60, 3) := by decide +kernel
theorem d_Writer_addValue_96 : decode b_Writer_addValue 96 = .ok (.aload_n 0, 1) := by decide +kernel
theorem d_Writer_addValue_97 : decode b_Writer_addValue 97 = .ok (.aload_n 0, 1) := by decide +kernel
theorem d_Writer_addValue_98 : decode b_Writer_addValue 98 = .ok (.getfield 9, 3) := by decide +kernel
theorem d_Writer_addValue_101 : decode b_Writer_addValue 101 = .ok (.iload_n 1, 1) := by decide +kernel
theorem d_Writer_addValue_102 : decode b_Writer_addValue 102 = .ok (.invokevirtual 41, 3) := by decide +kernel
theorem d_Writer_addValue_105 : decode b_Writer_addValue 105 = .ok (.invokevirtual 44, 3) := by decide +kernel
theorem d_Writer_addValue_108 : decode b_Writer_addValue 108 = .ok (.goto 45, 3) := by decide +kernel
theorem d_Writer_addValue_111 : decode b_Writer_addValue 111 = .ok (.aload_n 0, 1) := by decide +kernel
theorem d_Writer_addValue_112 : decode b_Writer_addValue 112 = .ok (.iload_n 1, 1) := by decide +kernel
theorem d_Writer_addValue_113 : decode b_Writer_addValue 113 = .ok (.invokevirtual 48, 3) := by decide +kernel
theorem d_Writer_addValue_116 : decode b_Writer_addValue 116 = .ok (.goto 37, 3) := by decide +kernel
theorem d_Writer_addValue_119 : decode b_Writer_addValue 119 = .ok (.aload_n 0, 1) := by decide +kernel
theorem d_Writer_addValue_120 : decode b_Writer_addValue 120 = .ok (.iload_n 1, 1) := by decide +kernel
theorem d_Writer_addValue_121 : decode b_Writer_addValue 121 = .ok (.invokevirtual 51, 3) := by decide +kernel
theorem d_Writer_addValue_124 : decode b_Writer_addValue 124 = .ok (.goto 29, 3) := by decide +kernel
theorem d_Writer_addValue_127 : decode b_Writer_addValue 127 = .ok (.aload_n 0, 1) := by decide +kernel
theorem d_Writer_addValue_128 : decode b_Writer_addValue 128 = .ok (.iload_n 1, 1) := by decide +kernel
theorem d_Writer_addValue_129 : decode b_Writer_addValue 129 = .ok (.iload_n 2, 1) := by decide +kernel
theorem d_Writer_addValue_130 : decode b_Writer_addValue 130 = .ok (.invokevirtual 54, 3) := by decide +kernel
theorem d_Writer_addValue_133 : decode b_Writer_addValue 133 = .ok (.goto 20, 3) := by decide +kernel
theorem d_Writer_addValue_136 : decode b_Writer_addValue 136 = .ok (.aload_n 0, 1) := by decide +kernel
theorem d_Writer_addValue_137 : decode b_Writer_addValue 137 = .ok (.iload_n 1, 1) := by decide +kernel
theorem d_Writer_addValue_138 : decode b_Writer_addValue 138 = .ok (.iload_n 2, 1) := by decide +kernel
theorem d_Writer_addValue_139 : decode b_Writer_addValue 139 = .ok (.invokevirtual 57, 3) := by decide +kernel
theorem d_Writer_addValue_142 : decode b_Writer_addValue 142 = .ok (.goto 11, 3) := by decide +kernel
theorem d_Writer_addValue_145 : decode b_Writer_addValue 145 = .ok (.aload_n 0, 1) := by decide +kernel
theorem d_Writer_addValue_146 : decode b_Writer_addValue 146 = .ok (.iload_n 1, 1) := by decide +kernel
theorem d_Writer_addValue_147 : decode b_Writer_addValue 147 = .ok (.invokevirtual 60, 3) := by decide +kernel
theorem d_Writer_addValue_150 : decode b_Writer_addValue 150 = .ok (.goto 3, 3) := by decide +kernel
theorem d_Writer_addValue_153 : decode b_Writer_addValue 153 = .ok (.return_, 1) := by decide +kernel
theorem d_Writer_addInt_0 : decode b_Writer_addInt 0 = .ok (.iload_n 1, 1) := by decide +kernel
theorem d_Writer_addInt_1 : decode b_Writer_addInt 1 = .ok (.ifCond .ge 12, 3) := by decide +kernel
theorem d_Writer_addInt_4 : decode b_Writer_addInt 4 = .ok (.aload_n 0, 1) := by decide +kernel
theorem d_Writer_addInt_5 : decode b_Writer_addInt 5 = .ok (.getfield 15, 3) := by decide +kernel
theorem d_Writer_addInt_8 : decode b_Writer_addInt 8 = .ok (.bipush 45, 2) := by decide +kernel
theorem d_Writer_addInt_10 : decode b_Writer_addInt 10 = .ok (.invokevirtual 63, 3) := by decide +kernel
theorem d_Writer_addInt_13 : decode b_Writer_addInt 13 = .ok (.iload_n 1, 1) := by decide +kernel
theorem d_Writer_addInt_14 : decode b_Writer_addInt 14 = .ok (.ifCond .ge 8, 3) := by decide +kernel
theorem d_Writer_addInt_17 : decode b_Writer_addInt 17 = .ok (.iload_n 1, 1) := by decide +kernel
theorem d_Writer_addInt_18 : decode b_Writer_addInt 18 = .ok (.ineg, 1) := by decide +kernel
theorem d_Writer_addInt_19 : decode b_Writer_addInt 19 = .ok (.goto 4, 3) := by decide +kernel
theorem d_Writer_addInt_22 : decode b_Writer_addInt 22 = .ok (.iload_n 1, 1) := by decide +kernel
theorem d_Writer_addInt_23 : decode b_Writer_addInt 23 = .ok (.istore_n 2, 1) := by decide +kernel
theorem d_Writer_addInt_24 : decode b_Writer_addInt 24 = .ok (.iconst 0, 1) := by decide +kernel
theorem d_Writer_addInt_25 : decode b_Writer_addInt 25 = .ok (.istore_n 3, 1) := by decide +kernel
theorem d_Writer_addInt_26 : decode b_Writer_addInt 26 = .ok (.ldc 66, 2) := by decide +kernel
theorem d_Writer_addInt_28 : decode b_Writer_addInt 28 = .ok (.istore 4, 2) := by decide +kernel
theorem d_Writer_addInt_30 : decode b_Writer_addInt 30 = .ok (.iload 4, 2) := by decide +kernel
theorem d_Writer_addInt_32 : decode b_Writer_addInt 32 = .ok (.iconst 1, 1) := by decide +kernel
theorem d_Writer_addInt_33 : decode b_Writer_addInt 33 = .ok (.if_icmp .lt 59, 3) := by decide +kernel
theorem d_Writer_addInt_36 : decode b_Writer_addInt 36 = .ok (.iload_n 2, 1) := by decide +kernel
theorem d_Writer_addInt_37 : decode b_Writer_addInt 37 = .ok (.iload 4, 2) := by decide +kernel
theorem d_Writer_addInt_39 : decode b_Writer_addInt 39 = .ok (.idiv, 1) := by decide +kernel
theorem d_Writer_addInt_40 : decode b_Writer_addInt 40 = .ok (.bipush 10, 2) := by decide +kernel
theorem d_Writer_addInt_42 : decode b_Writer_addInt 42 = .ok (.irem, 1) := by decide +kernel
theorem d_Writer_addInt_43 : decode b_Writer_addInt 43 = .ok (.istore 5, 2) := by decide +kernel
theorem d_Writer_addInt_45 : decode b_Writer_addInt 45 = .ok (.iload_n 3, 1) := by decide +kernel
theorem d_Writer_addInt_46 : decode b_Writer_addInt 46 = .ok (.ifCond .ne 14, 3) := by decide +kernel
theorem d_Writer_addInt_49 : decode b_Writer_addInt 49 = .ok (.iload 5, 2) := by decide +kernel
theorem d_Writer_addInt_51 : decode b_Writer_addInt 51 = .ok (.ifCond .gt 9, 3) := by decide +kernel
theorem d_Writer_addInt_54 : decode b_Writer_addInt 54 = .ok (.iload 4, 2) := by decide +kernel
theorem d_Writer_addInt_56 : decode b_Writer_addInt 56 = .ok (.iconst 1, 1) := by decide +kernel
theorem d_Writer_addInt_57 : decode b_Writer_addInt 57 = .ok (.if_icmp .ne 7, 3) := by decide +kernel
theorem d_Writer_addInt_60 : decode b_Writer_addInt 60 = .ok (.iconst 1, 1) := by decide +kernel
theorem d_Writer_addInt_61 : decode b_Writer_addInt 61 = .ok (.goto 4, 3) := by decide +kernel
theorem d_Writer_addInt_64 : decode b_Writer_addInt 64 = .ok (.iconst 0, 1) := by decide +kernel
theorem d_Writer_addInt_65 : decode b_Writer_addInt 65 = .ok (.istore_n 3, 1) := by decide +kernel
theorem d_Writer_addInt_66 : decode b_Writer_addInt 66 = .ok (.iload_n 3, 1) := by decide +kernel
theorem d_Writer_addInt_67 : decode b_Writer_addInt 67 = .ok (.ifCond .eq 15, 3) := by decide +kernel
theorem d_Writer_addInt_70 : decode b_Writer_addInt 70 = .ok (.aload_n 0, 1) := by decide +kernel
theorem d_Writer_addInt_71 : decode b_Writer_addInt 71 = .ok (.getfield 15, 3) := by decide +kernel
theorem d_Writer_addInt_74 : decode b_Writer_addInt 74 = .ok (.bipush 48, 2) := by decide +kernel
theorem d_Writer_addInt_76 : decode b_Writer_addInt 76 = .ok (.iload 5, 2) := by decide +kernel
theorem d_Writer_addInt_78 : decode b_Writer_addInt 78 = .ok (.iadd, 1) := by decide +kernel
theorem d_Writer_addInt_79 : decode b_Writer_addInt 79 = .ok (.invokevirtual 63, 3) := by decide +kernel
theorem d_Writer_addInt_82 : decode b_Writer_addInt 82 = .ok (.iload 4, 2) := by decide +kernel
theorem d_Writer_addInt_84 : decode b_Writer_addInt 84 = .ok (.bipush 10, 2) := by decide +kernel
theorem d_Writer_addInt_86 : decode b_Writer_addInt 86 = .ok (.idiv, 1) := by decide +kernel
theorem d_Writer_addInt_87 : decode b_Writer_addInt 87 = .ok (.istore 4, 2) := by decide +kernel
theorem d_Writer_addInt_89 : decode b_Writer_addInt 89 = .ok (.goto (-59), 3) := by decide +kernel
theorem d_Writer_addInt_92 : decode b_Writer_addInt 92 = .ok (.return_, 1) := by decide +kernel
theorem d_Writer_addName_0 : decode b_Writer_addName 0 = .ok (.aload_n 0, 1) := by decide +kernel
theorem d_Writer_addName_1 : decode b_Writer_addName 1 = .ok (.getfield 15, 3) := by decide +kernel
theorem d_Writer_addName_4 : decode b_Writer_addName 4 = .ok (.bipush 47, 2) := by decide +kernel
theorem d_Writer_addName_6 : decode b_Writer_addName 6 = .ok (.invokevirtual 63, 3) := by decide +kernel
theorem d_Writer_addName_9 : decode b_Writer_addName 9 = .ok (.aload_n 0, 1) := by decide +kernel
theorem d_Writer_addName_10 : decode b_Writer_addName 10 = .ok (.getfield 15, 3) := by decide +kernel
theorem d_Writer_addName_13 : decode b_Writer_addName 13 = .ok (.aload_n 0, 1) := by decide +kernel
theorem d_Writer_addName_14 : decode b_Writer_addName 14 = .ok (.getfield 9, 3) := by decide +kernel
theorem d_Writer_addName_17 : decode b_Writer_addName 17 = .ok (.invokevirtual 67, 3) := by decide +kernel
theorem d_Writer_addName_20 : decode b_Writer_addName 20 = .ok (.aload_n 0, 1) := by decide +kernel
theorem d_Writer_addName_21 : decode b_Writer_addName 21 = .ok (.getfield 9, 3) := by decide +kernel
theorem d_Writer_addName_24 : decode b_Writer_addName 24 = .ok (.iload_n 1, 1) := by decide +kernel
theorem d_Writer_addName_25 : decode b_Writer_addName 25 = .ok (.invokevirtual 71, 3) := by decide +kernel
theorem d_Writer_addName_28 : decode b_Writer_addName 28 = .ok (.aload_n 0, 1) := by decide +kernel
theorem d_Writer_addName_29 : decode b_Writer_addName 29 = .ok (.getfield 9, 3) := by decide +kernel
theorem d_Writer_addName_32 : decode b_Writer_addName 32 = .ok (.iload_n 1, 1) := by decide +kernel
theorem d_Writer_addName_33 : decode b_Writer_addName 33 = .ok (.invokevirtual 41, 3) := by decide +kernel
theorem d_Writer_addName_36 : decode b_Writer_addName 36 = .ok (.invokevirtual 74, 3) := by decide +kernel
theorem d_Writer_addName_39 : decode b_Writer_addName 39 = .ok (.return_, 1) := by decide +kernel
theorem d_Writer_addString_0 : decode b_Writer_addString 0 = .ok (.aload_n 0, 1) := by decide +kernel
theorem d_Writer_addString_1 : decode b_Writer_addString 1 = .ok (.getfield 15, 3) := by decide +kernel
theorem d_Writer_addString_4 : decode b_Writer_addString 4 = .ok (.bipush 60, 2) := by decide +kernel
theorem d_Writer_addString_6 : decode b_Writer_addString 6 = .ok (.invokevirtual 63, 3) := by decide +kernel
theorem d_Writer_addString_9 : decode b_Writer_addString 9 = .ok (.iconst 0, 1) := by decide +kernel
theorem d_Writer_addString_10 : decode b_Writer_addString 10 = .ok (.istore_n 2, 1) := by decide +kernel
theorem d_Writer_addString_11 : decode b_Writer_addString 11 = .ok (.iload_n 2, 1) := by decide +kernel
theorem d_Writer_addString_12 : decode b_Writer_addString 12 = .ok (.aload_n 0, 1) := by decide +kernel
theorem d_Writer_addString_13 : decode b_Writer_addString 13 = .ok (.getfield 9, 3) := by decide +kernel
theorem d_Writer_addString_16 : decode b_Writer_addString 16 = .ok (.iload_n 1, 1) := by decide +kernel
theorem d_Writer_addString_17 : decode b_Writer_addString 17 = .ok (.invokevirtual 41, 3) := by decide +kernel
theorem d_Writer_addString_20 : decode b_Writer_addString 20 = .ok (.if_icmp .ge 60, 3) := by decide +kernel
theorem d_Writer_addString_23 : decode b_Writer_addString 23 = .ok (.aload_n 0, 1) := by decide +kernel
theorem d_Writer_addString_24 : decode b_Writer_addString 24 = .ok (.getfield 9, 3) := by decide +kernel
theorem d_Writer_addString_27 : decode b_Writer_addString 27 = .ok (.invokevirtual 67, 3) := by decide +kernel
theorem d_Writer_addString_30 : decode b_Writer_addString 30 = .ok (.aload_n 0, 1) := by decide +kernel
theorem d_Writer_addString_31 : decode b_Writer_addString 31 = .ok (.getfield 9, 3) := by decide +kernel
theorem d_Writer_addString_34 : decode b_Writer_addString 34 = .ok (.iload_n 1, 1) := by decide +kernel
theorem d_Writer_addString_35 : decode b_Writer_addString 35 = .ok (.invokevirtual 71, 3) := by decide +kernel
theorem d_Writer_addString_38 : decode b_Writer_addString 38 = .ok (.iload_n 2, 1) := by decide +kernel
theorem d_Writer_addString_39 : decode b_Writer_addString 39 = .ok (.iadd, 1) := by decide +kernel
theorem d_Writer_addString_40 : decode b_Writer_addString 40 = .ok (.invokevirtual 78, 3) := by decide +kernel
theorem d_Writer_addString_43 : decode b_Writer_addString 43 = .ok (.istore_n 3, 1) := by decide +kernel
theorem d_Writer_addString_44 : decode b_Writer_addString 44 = .ok (.aload_n 0, 1) := by decide +kernel
theorem d_Writer_addString_45 : decode b_Writer_addString 45 = .ok (.getfield 15, 3) := by decide +kernel
theorem d_Writer_addString_48 : decode b_Writer_addString 48 = .ok (.iload_n 3, 1) := by decide +kernel
theorem d_Writer_addString_49 : decode b_Writer_addString 49 = .ok (.iconst 4, 1) := by decide +kernel
theorem d_Writer_addString_50 : decode b_Writer_addString 50 = .ok (.ishr, 1) := by decide +kernel
theorem d_Writer_addString_51 : decode b_Writer_addString 51 = .ok (.bipush 15, 2) := by decide +kernel
theorem d_Writer_addString_53 : decode b_Writer_addString 53 = .ok (.iand, 1) := by decide +kernel
theorem d_Writer_addString_54 : decode b_Writer_addString 54 = .ok (.invokestatic 81, 3) := by decide +kernel
theorem d_Writer_addString_57 : decode b_Writer_addString 57 = .ok (.invokevirtual 63, 3) := by decide +kernel
theorem d_Writer_addString_60 : decode b_Writer_addString 60 = .ok (.aload_n 0, 1) := by decide +kernel
theorem d_Writer_addString_61 : decode b_Writer_addString 61 = .ok (.getfield 15, 3) := by decide +kernel
theorem d_Writer_addString_64 : decode b_Writer_addString 64 = .ok (.iload_n 3, 1) := by decide +kernel
theorem d_Writer_addString_65 : decode b_Writer_addString 65 = .ok (.bipush 15, 2) := by decide +kernel
theorem d_Writer_addString_67 : decode b_Writer_addString 67 = .ok (.iand, 1) := by decide +kernel
theorem d_Writer_addString_68 : decode b_Writer_addString 68 = .ok (.invokestatic 81, 3) := by decide +kernel
theorem d_Writer_addString_71 : decode b_Writer_addString 71 = .ok (.invokevirtual 63, 3) := by decide +kernel
theorem d_Writer_addString_74 : decode b_Writer_addString 74 = .ok (.iinc 2 1, 3) := by decide +kernel
theorem d_Writer_addString_77 : decode b_Writer_addString 77 = .ok (.goto (-66), 3) := by decide +kernel
theorem d_Writer_addString_80 : decode b_Writer_addString 80 = .ok (.aload_n 0, 1) := by decide +kernel
theorem d_Writer_addString_81 : decode b_Writer_addString 81 = .ok (.getfield 15, 3) := by decide +kernel
theorem d_Writer_addString_84 : decode b_Writer_addString 84 = .ok (.bipush 62, 2) := by decide +kernel
theorem d_Writer_addString_86 : decode b_Writer_addString 86 = .ok (.invokevirtual 63, 3) := by decide +kernel
theorem d_Writer_addString_89 : decode b_Writer_addString 89 = .ok (.return_, 1) := by decide +kernel
theorem d_Writer_hexDigit_0 : decode b_Writer_hexDigit 0 = .ok (.iload_n 0, 1) := by decide +kernel
theorem d_Writer_hexDigit_1 : decode b_Writer_hexDigit 1 = .ok (.bipush 10, 2) := by decide +kernel
theorem d_Writer_hexDigit_3 : decode b_Writer_hexDigit 3 = .ok (.if_icmp .ge 10, 3) := by decide +kernel
theorem d_Writer_hexDigit_6 : decode b_Writer_hexDigit 6 = .ok (.bipush 48, 2) := by decide +kernel
theorem d_Writer_hexDigit_8 : decode b_Writer_hexDigit 8 = .ok (.iload_n 0, 1) := by decide +kernel
theorem d_Writer_hexDigit_9 : decode b_Writer_hexDigit 9 = .ok (.iadd, 1) := by decide +kernel
theorem d_Writer_hexDigit_10 : decode b_Writer_hexDigit 10 = .ok (.goto 10, 3) := by decide +kernel
theorem d_Writer_hexDigit_13 : decode b_Writer_hexDigit 13 = .ok (.bipush 97, 2) := by decide +kernel
theorem d_Writer_hexDigit_15 : decode b_Writer_hexDigit 15 = .ok (.iload_n 0, 1) := by decide +kernel
theorem d_Writer_hexDigit_16 : decode b_Writer_hexDigit 16 = .ok (.iadd, 1) := by decide +kernel
theorem d_Writer_hexDigit_17 : decode b_Writer_hexDigit 17 = .ok (.bipush 10, 2) := by decide +kernel
theorem d_Writer_hexDigit_19 : decode b_Writer_hexDigit 19 = .ok (.isub, 1) := by decide +kernel
theorem d_Writer_hexDigit_20 : decode b_Writer_hexDigit 20 = .ok (.ireturn, 1) := by decide +kernel
theorem d_Writer_addRef_0 : decode b_Writer_addRef 0 = .ok (.aload_n 0, 1) := by decide +kernel
theorem d_Writer_addRef_1 : decode b_Writer_addRef 1 = .ok (.aload_n 0, 1) := by decide +kernel
theorem d_Writer_addRef_2 : decode b_Writer_addRef 2 = .ok (.getfield 9, 3) := by decide +kernel
theorem d_Writer_addRef_5 : decode b_Writer_addRef 5 = .ok (.iload_n 1, 1) := by decide +kernel
theorem d_Writer_addRef_6 : decode b_Writer_addRef 6 = .ok (.invokevirtual 41, 3) := by decide +kernel
theorem d_Writer_addRef_9 : decode b_Writer_addRef 9 = .ok (.invokevirtual 44, 3) := by decide +kernel
theorem d_Writer_addRef_12 : decode b_Writer_addRef 12 = .ok (.aload_n 0, 1) := by decide +kernel
theorem d_Writer_addRef_13 : decode b_Writer_addRef 13 = .ok (.getfield 15, 3) := by decide +kernel
theorem d_Writer_addRef_16 : decode b_Writer_addRef 16 = .ok (.bipush 32, 2) := by decide +kernel
theorem d_Writer_addRef_18 : decode b_Writer_addRef 18 = .ok (.invokevirtual 63, 3) := by decide +kernel
theorem d_Writer_addRef_21 : decode b_Writer_addRef 21 = .ok (.aload_n 0, 1) := by decide +kernel
theorem d_Writer_addRef_22 : decode b_Writer_addRef 22 = .ok (.aload_n 0, 1) := by decide +kernel
theorem d_Writer_addRef_23 : decode b_Writer_addRef 23 = .ok (.getfield 9, 3) := by decide +kernel
theorem d_Writer_addRef_26 : decode b_Writer_addRef 26 = .ok (.iload_n 1, 1) := by decide +kernel
theorem d_Writer_addRef_27 : decode b_Writer_addRef 27 = .ok (.invokevirtual 71, 3) := by decide +kernel
theorem d_Writer_addRef_30 : decode b_Writer_addRef 30 = .ok (.invokevirtual 44, 3) := by decide +kernel
theorem d_Writer_addRef_33 : decode b_Writer_addRef 33 = .ok (.aload_n 0, 1) := by decide +kernel
theorem d_Writer_addRef_34 : decode b_Writer_addRef 34 = .ok (.getfield 15, 3) := by decide +kernel
theorem d_Writer_addRef_37 : decode b_Writer_addRef 37 = .ok (.ldc 84, 2) := by decide +kernel
theorem d_Writer_addRef_39 : decode b_Writer_addRef 39 = .ok (.invokevirtual 31, 3) := by decide +kernel
theorem d_Writer_addRef_42 : decode b_Writer_addRef 42 = .ok (.return_, 1) := by decide +kernel
theorem d_Writer_addArray_0 : decode b_Writer_addArray 0 = .ok (.iload_n 2, 1) := by decide +kernel
theorem d_Writer_addArray_1 : decode b_Writer_addArray 1 = .ok (.bipush 8, 2) := by decide +kernel
theorem d_Writer_addArray_3 : decode b_Writer_addArray 3 = .ok (.if_icmp .lt 4, 3) := by decide +kernel
theorem d_Writer_addArray_6 : decode b_Writer_addArray 6 = .ok (.return_, 1) := by decide +kernel
theorem d_Writer_addArray_7 : decode b_Writer_addArray 7 = .ok (.aload_n 0, 1) := by decide +kernel
theorem d_Writer_addArray_8 : decode b_Writer_addArray 8 = .ok (.getfield 15, 3) := by decide +kernel
theorem d_Writer_addArray_11 : decode b_Writer_addArray 11 = .ok (.bipush 91, 2) := by decide +kernel
theorem d_Writer_addArray_13 : decode b_Writer_addArray 13 = .ok (.invokevirtual 63, 3) := by decide +kernel
theorem d_Writer_addArray_16 : decode b_Writer_addArray 16 = .ok (.iload_n 1, 1) := by decide +kernel
theorem d_Writer_addArray_17 : decode b_Writer_addArray 17 = .ok (.iconst 1, 1) := by decide +kernel
theorem d_Writer_addArray_18 : decode b_Writer_addArray 18 = .ok (.iadd, 1) := by decide +kernel
theorem d_Writer_addArray_19 : decode b_Writer_addArray 19 = .ok (.istore_n 3, 1) := by decide +kernel
theorem d_Writer_addArray_20 : decode b_Writer_addArray 20 = .ok (.iconst 0, 1) := by decide +kernel
theorem d_Writer_addArray_21 : decode b_Writer_addArray 21 = .ok (.istore 4, 2) := by decide +kernel
theorem d_Writer_addArray_23 : decode b_Writer_addArray 23 = .ok (.iload 4, 2) := by decide +kernel
theorem d_Writer_addArray_25 : decode b_Writer_addArray 25 = .ok (.aload_n 0, 1) := by decide +kernel
theorem d_Writer_addArray_26 : decode b_Writer_addArray 26 = .ok (.getfield 9, 3) := by decide +kernel
theorem d_Writer_addArray_29 : decode b_Writer_addArray 29 = .ok (.iload_n 1, 1) := by decide +kernel
theorem d_Writer_addArray_30 : decode b_Writer_addArray 30 = .ok (.invokevirtual 41, 3) := by decide +kernel
theorem d_Writer_addArray_33 : decode b_Writer_addArray 33 = .ok (.if_icmp .ge 32, 3) := by decide +kernel
theorem d_Writer_addArray_36 : decode b_Writer_addArray 36 = .ok (.aload_n 0, 1) := by decide +kernel
theorem d_Writer_addArray_37 : decode b_Writer_addArray 37 = .ok (.iload 4, 2) := by decide +kernel
theorem d_Writer_addArray_39 : decode b_Writer_addArray 39 = .ok (.invokevirtual 86, 3) := by decide +kernel
theorem d_Writer_addArray_42 : decode b_Writer_addArray 42 = .ok (.aload_n 0, 1) := by decide +kernel
theorem d_Writer_addArray_43 : decode b_Writer_addArray 43 = .ok (.iload_n 3, 1) := by decide +kernel
theorem d_Writer_addArray_44 : decode b_Writer_addArray 44 = .ok (.iload_n 2, 1) := by decide +kernel
theorem d_Writer_addArray_45 : decode b_Writer_addArray 45 = .ok (.iconst 1, 1) := by decide +kernel
theorem d_Writer_addArray_46 : decode b_Writer_addArray 46 = .ok (.iadd, 1) := by decide +kernel
theorem d_Writer_addArray_47 : decode b_Writer_addArray 47 = .ok (.invokevirtual 19, 3) := by decide +kernel
theorem d_Writer_addArray_50 : decode b_Writer_addArray 50 = .ok (.aload_n 0, 1) := by decide +kernel
theorem d_Writer_addArray_51 : decode b_Writer_addArray 51 = .ok (.getfield 9, 3) := by decide +kernel
theorem d_Writer_addArray_54 : decode b_Writer_addArray 54 = .ok (.iload_n 3, 1) := by decide +kernel
theorem d_Writer_addArray_55 : decode b_Writer_addArray 55 = .ok (.invokevirtual 89, 3) := by decide +kernel
theorem d_Writer_addArray_58 : decode b_Writer_addArray 58 = .ok (.istore_n 3, 1) := by decide +kernel
theorem d_Writer_addArray_59 : decode b_Writer_addArray 59 = .ok (.iinc 4 1, 3) := by decide +kernel
theorem d_Writer_addArray_62 : decode b_Writer_addArray 62 = .ok (.goto (-39), 3) := by decide +kernel
theorem d_Writer_addArray_65 : decode b_Writer_addArray 65 = .ok (.aload_n 0, 1) := by decide +kernel
theorem d_Writer_addArray_66 : decode b_Writer_addArray 66 = .ok (.getfield 15, 3) := by decide +kernel
theorem d_Writer_addArray_69 : decode b_Writer_addArray 69 = .ok (.bipush 93, 2) := by decide +kernel
theorem d_Writer_addArray_71 : decode b_Writer_addArray 71 = .ok (.invokevirtual 63, 3) := by decide +kernel
theorem d_Writer_addArray_74 : decode b_Writer_addArray 74 = .ok (.return_, 1) := by decide +kernel
theorem d_Writer_addDict_0 : decode b_Writer_addDict 0 = .ok (.iload_n 2, 1) := by decide +kernel
theorem d_Writer_addDict_1 : decode b_Writer_addDict 1 = .ok (.bipush 8, 2) := by decide +kernel
theorem d_Writer_addDict_3 : decode b_Writer_addDict 3 = .ok (.if_icmp .lt 4, 3) := by decide +kernel
theorem d_Writer_addDict_6 : decode b_Writer_addDict 6 = .ok (.return_, 1) := by decide +kernel
theorem d_Writer_addDict_7 : decode b_Writer_addDict 7 = .ok (.aload_n 0, 1) := by decide +kernel
theorem d_Writer_addDict_8 : decode b_Writer_addDict 8 = .ok (.getfield 15, 3) := by decide +kernel
theorem d_Writer_addDict_11 : decode b_Writer_addDict 11 = .ok (.ldc 92, 2) := by decide +kernel
theorem d_Writer_addDict_13 : decode b_Writer_addDict 13 = .ok (.invokevirtual 31, 3) := by decide +kernel
theorem d_Writer_addDict_16 : decode b_Writer_addDict 16 = .ok (.iload_n 1, 1) := by decide +kernel
theorem d_Writer_addDict_17 : decode b_Writer_addDict 17 = .ok (.iconst 1, 1) := by decide +kernel
theorem d_Writer_addDict_18 : decode b_Writer_addDict 18 = .ok (.iadd, 1) := by decide +kernel
theorem d_Writer_addDict_19 : decode b_Writer_addDict 19 = .ok (.istore_n 3, 1) := by decide +kernel
theorem d_Writer_addDict_20 : decode b_Writer_addDict 20 = .ok (.iconst 0, 1) := by decide +kernel
theorem d_Writer_addDict_21 : decode b_Writer_addDict 21 = .ok (.istore 4, 2) := by decide +kernel
theorem d_Writer_addDict_23 : decode b_Writer_addDict 23 = .ok (.iload 4, 2) := by decide +kernel
theorem d_Writer_addDict_25 : decode b_Writer_addDict 25 = .ok (.aload_n 0, 1) := by decide +kernel
theorem d_Writer_addDict_26 : decode b_Writer_addDict 26 = .ok (.getfield 9, 3) := by decide +kernel
theorem d_Writer_addDict_29 : decode b_Writer_addDict 29 = .ok (.iload_n 1, 1) := by decide +kernel
theorem d_Writer_addDict_30 : decode b_Writer_addDict 30 = .ok (.invokevirtual 41, 3) := by decide +kernel
theorem d_Writer_addDict_33 : decode b_Writer_addDict 33 = .ok (.if_icmp .ge 50, 3) := by decide +kernel
theorem d_Writer_addDict_36 : decode b_Writer_addDict 36 = .ok (.aload_n 0, 1) := by decide +kernel
theorem d_Writer_addDict_37 : decode b_Writer_addDict 37 = .ok (.iload 4, 2) := by decide +kernel
theorem d_Writer_addDict_39 : decode b_Writer_addDict 39 = .ok (.invokevirtual 86, 3) := by decide +kernel
theorem d_Writer_addDict_42 : decode b_Writer_addDict 42 = .ok (.aload_n 0, 1) := by decide +kernel
theorem d_Writer_addDict_43 : decode b_Writer_addDict 43 = .ok (.iload_n 3, 1) := by decide +kernel
theorem d_Writer_addDict_44 : decode b_Writer_addDict 44 = .ok (.invokevirtual 48, 3) := by decide +kernel
theorem d_Writer_addDict_47 : decode b_Writer_addDict 47 = .ok (.aload_n 0, 1) := by decide +kernel
theorem d_Writer_addDict_48 : decode b_Writer_addDict 48 = .ok (.getfield 15, 3) := by decide +kernel
theorem d_Writer_addDict_51 : decode b_Writer_addDict 51 = .ok (.bipush 32, 2) := by decide +kernel
theorem d_Writer_addDict_53 : decode b_Writer_addDict 53 = .ok (.invokevirtual 63, 3) := by decide +kernel
theorem d_Writer_addDict_56 : decode b_Writer_addDict 56 = .ok (.aload_n 0, 1) := by decide +kernel
theorem d_Writer_addDict_57 : decode b_Writer_addDict 57 = .ok (.iload_n 3, 1) := by decide +kernel
theorem d_Writer_addDict_58 : decode b_Writer_addDict 58 = .ok (.iconst 1, 1) := by decide +kernel
theorem d_Writer_addDict_59 : decode b_Writer_addDict 59 = .ok (.iadd, 1) := by decide +kernel
theorem d_Writer_addDict_60 : decode b_Writer_addDict 60 = .ok (.iload_n 2, 1) := by decide +kernel
theorem d_Writer_addDict_61 : decode b_Writer_addDict 61 = .ok (.iconst 1, 1) := by decide +kernel
theorem d_Writer_addDict_62 : decode b_Writer_addDict 62 = .ok (.iadd, 1) := by decide +kernel
theorem d_Writer_addDict_63 : decode b_Writer_addDict 63 = .ok (.invokevirtual 19, 3) := by decide +kernel
theorem d_Writer_addDict_66 : decode b_Writer_addDict 66 = .ok (.aload_n 0, 1) := by decide +kernel
theorem d_Writer_addDict_67 : decode b_Writer_addDict 67 = .ok (.getfield 9, 3) := by decide +kernel
theorem d_Writer_addDict_70 : decode b_Writer_addDict 70 = .ok (.iload_n 3, 1) := by decide +kernel
theorem d_Writer_addDict_71 : decode b_Writer_addDict 71 = .ok (.iconst 1, 1) := by decide +kernel
theorem d_Writer_addDict_72 : decode b_Writer_addDict 72 = .ok (.iadd, 1) := by decide +kernel
theorem d_Writer_addDict_73 : decode b_Writer_addDict 73 = .ok (.invokevirtual 89, 3) := by decide +kernel
theorem d_Writer_addDict_76 : decode b_Writer_addDict 76 = .ok (.istore_n 3, 1) := by decide +kernel
theorem d_Writer_addDict_77 : decode b_Writer_addDict 77 = .ok (.iinc 4 1, 3) := by decide +kernel
theorem d_Writer_addDict_80 : decode b_Writer_addDict 80 = .ok (.goto (-57), 3) := by decide +kernel
theorem d_Writer_addDict_83 : decode b_Writer_addDict 83 = .ok (.aload_n 0, 1) := by decide +kernel
theorem d_Writer_addDict_84 : decode b_Writer_addDict 84 = .ok (.getfield 15, 3) := by decide +kernel
theorem d_Writer_addDict_87 : decode b_Writer_addDict 87 = .ok (.ldc 94, 2) := by decide +kernel
theorem d_Writer_addDict_89 : decode b_Writer_addDict 89 = .ok (.invokevirtual 31, 3) := by decide +kernel
theorem d_Writer_addDict_92 : decode b_Writer_addDict 92 = .ok (.return_, 1) := by decide +kernel
theorem d_Writer_addSpaceBefore_0 : decode b_Writer_addSpaceBefore 0 = .ok (.iload_n 1, 1) := by decide +kernel
theorem d_Writer_addSpaceBefore_1 : decode b_Writer_addSpaceBefore 1 = .ok (.ifCond .le 12, 3) := by decide +kernel
theorem d_Writer_addSpaceBefore_4 : decode b_Writer_addSpaceBefore 4 = .ok (.aload_n 0, 1) := by decide +kernel
theorem d_Writer_addSpaceBefore_5 : decode b_Writer_addSpaceBefore 5 = .ok (.getfield 15, 3) := by decide +kernel
theorem d_Writer_addSpaceBefore_8 : decode b_Writer_addSpaceBefore 8 = .ok (.bipush 32, 2) := by decide +kernel
theorem d_Writer_addSpaceBefore_10 : decode b_Writer_addSpaceBefore 10 = .ok (.invokevirtual 63, 3) := by decide +kernel
theorem d_Writer_addSpaceBefore_13 : decode b_Writer_addSpaceBefore 13 = .ok (.return_, 1) := by decide +kernel
theorem d_Math_min_0 : decode b_Math_min 0 = .ok (.iload_n 0, 1) := by decide +kernel
theorem d_Math_min_1 : decode b_Math_min 1 = .ok (.iload_n 1, 1) := by decide +kernel
theorem d_Math_min_2 : decode b_Math_min 2 = .ok (.if_icmp .gt 7, 3) := by decide +kernel
theorem d_Math_min_5 : decode b_Math_min 5 = .ok (.iload_n 0, 1) := by decide +kernel
theorem d_Math_min_6 : decode b_Math_min 6 = .ok (.goto 4, 3) := by decide +kernel
theorem d_Math_min_9 : decode b_Math_min 9 = .ok (.iload_n 1, 1) := by decide +kernel
theorem d_Math_min_10 : decode b_Math_min 10 = .ok (.ireturn, 1) := by decide +kernel
theorem d_Str_charAt_0 : decode b_Str_charAt 0 = .ok (.aload_n 0, 1) := by decide +kernel
theorem d_Str_charAt_1 : decode b_Str_charAt 1 = .ok (.invokevirtual 492, 3) := by decide +kernel
theorem d_Str_charAt_4 : decode b_Str_charAt 4 = .ok (.ifCond .eq 12, 3) := by decide +kernel
theorem d_Str_charAt_7 : decode b_Str_charAt 7 = .ok (.aload_n 0, 1) := by decide +kernel
theorem d_Str_charAt_8 : decode b_Str_charAt 8 = .ok (.getfield 9, 3) := by decide +kernel
theorem d_Str_charAt_11 : decode b_Str_charAt 11 = .ok (.iload_n 1, 1) := by decide +kernel
theorem d_Str_charAt_12 : decode b_Str_charAt 12 = .ok (.invokestatic 495, 3) := by decide +kernel
theorem d_Str_charAt_15 : decode b_Str_charAt 15 = .ok (.ireturn, 1) := by decide +kernel
theorem d_Str_charAt_16 : decode b_Str_charAt 16 = .ok (.aload_n 0, 1) := by decide +kernel
theorem d_Str_charAt_17 : decode b_Str_charAt 17 = .ok (.getfield 9, 3) := by decide +kernel
theorem d_Str_charAt_20 : decode b_Str_charAt 20 = .ok (.iload_n 1, 1) := by decide +kernel
theorem d_Str_charAt_21 : decode b_Str_charAt 21 = .ok (.invokestatic 498, 3) := by decide +kernel
theorem d_Str_charAt_24 : decode b_Str_charAt 24 = .ok (.ireturn, 1) := by decide +kernel
theorem d_Str_checkIndex_0 : decode b_Str_checkIndex 0 = .ok (.iload_n 0, 1) := by decide +kernel
theorem d_Str_checkIndex_1 : decode b_Str_checkIndex 1 = .ok (.iload_n 1, 1) := by decide +kernel
theorem d_Str_checkIndex_2 : decode b_Str_checkIndex 2 = .ok (.getstatic 1053, 3) := by decide +kernel
theorem d_Str_checkIndex_5 : decode b_Str_checkIndex 5 = .ok (.invokestatic 1059, 3) := by decide +kernel
theorem d_Str_checkIndex_8 : decode b_Str_checkIndex 8 = .ok (.pop, 1) := by decide +kernel
theorem d_Str_checkIndex_9 : decode b_Str_checkIndex 9 = .ok (.return_, 1) := by decide +kernel
theorem d_Str_coder_0 : decode b_Str_coder 0 = .ok (.getstatic 38, 3) := by decide +kernel
theorem d_Str_coder_3 : decode b_Str_coder 3 = .ok (.ifCond .eq 10, 3) := by decide +kernel
theorem d_Str_coder_6 : decode b_Str_coder 6 = .ok (.aload_n 0, 1) := by decide +kernel
theorem d_Str_coder_7 : decode b_Str_coder 7 = .ok (.getfield 15, 3) := by decide +kernel
theorem d_Str_coder_10 : decode b_Str_coder 10 = .ok (.goto 4, 3) := by decide +kernel
theorem d_Str_coder_13 : decode b_Str_coder 13 = .ok (.iconst 1, 1) := by decide +kernel
theorem d_Str_coder_14 : decode b_Str_coder 14 = .ok (.ireturn, 1) := by decide +kernel
theorem d_Str_isLatin1_0 : decode b_Str_isLatin1 0 = .ok (.getstatic 38, 3) := by decide +kernel
theorem d_Str_isLatin1_3 : decode b_Str_isLatin1 3 = .ok (.ifCond .eq 14, 3) := by decide +kernel
theorem d_Str_isLatin1_6 : decode b_Str_isLatin1 6 = .ok (.aload_n 0, 1) := by decide +kernel
theorem d_Str_isLatin1_7 : decode b_Str_isLatin1 7 = .ok (.getfield 15, 3) := by decide +kernel
theorem d_Str_isLatin1_10 : decode b_Str_isLatin1 10 = .ok (.ifCond .ne 7, 3) := by decide +kernel
theorem d_Str_isLatin1_13 : decode b_Str_isLatin1 13 = .ok (.iconst 1, 1) := by decide +kernel
theorem d_Str_isLatin1_14 : decode b_Str_isLatin1 14 = .ok (.goto 4, 3) := by decide +kernel
theorem d_Str_isLatin1_17 : decode b_Str_isLatin1 17 = .ok (.iconst 0, 1) := by decide +kernel
theorem d_Str_isLatin1_18 : decode b_Str_isLatin1 18 = .ok (.ireturn, 1) := by decide +kernel
theorem d_Str_length_0 : decode b_Str_length 0 = .ok (.aload_n 0, 1) := by decide +kernel
theorem d_Str_length_1 : decode b_Str_length 1 = .ok (.getfield 9, 3) := by decide +kernel
theorem d_Str_length_4 : decode b_Str_length 4 = .ok (.arraylength, 1) := by decide +kernel
theorem d_Str_length_5 : decode b_Str_length 5 = .ok (.aload_n 0, 1) := by decide +kernel
theorem d_Str_length_6 : decode b_Str_length 6 = .ok (.invokevirtual 335, 3) := by decide +kernel
theorem d_Str_length_9 : decode b_Str_length 9 = .ok (.ishr, 1) := by decide +kernel
theorem d_Str_length_10 : decode b_Str_length 10 = .ok (.ireturn, 1) := by decide +kernel
theorem d_SL_charAt_0 : decode b_SL_charAt 0 = .ok (.iload_n 1, 1) := by decide +kernel
theorem d_SL_charAt_1 : decode b_SL_charAt 1 = .ok (.aload_n 0, 1) := by decide +kernel
theorem d_SL_charAt_2 : decode b_SL_charAt 2 = .ok (.arraylength, 1) := by decide +kernel
theorem d_SL_charAt_3 : decode b_SL_charAt 3 = .ok (.invokestatic 9, 3) := by decide +kernel
theorem d_SL_charAt_6 : decode b_SL_charAt 6 = .ok (.aload_n 0, 1) := by decide +kernel
theorem d_SL_charAt_7 : decode b_SL_charAt 7 = .ok (.iload_n 1, 1) := by decide +kernel
theorem d_SL_charAt_8 : decode b_SL_charAt 8 = .ok (.baload, 1) := by decide +kernel
theorem d_SL_charAt_9 : decode b_SL_charAt 9 = .ok (.sipush 255, 3) := by decide +kernel
theorem d_SL_charAt_12 : decode b_SL_charAt 12 = .ok (.iand, 1) := by decide +kernel
theorem d_SL_charAt_13 : decode b_SL_charAt 13 = .ok (.i2c, 1) := by decide +kernel
theorem d_SL_charAt_14 : decode b_SL_charAt 14 = .ok (.ireturn, 1) := by decide +kernel
theorem d_Arr_copyOf_0 : decode b_Arr_copyOf 0 = .ok (.iload_n 1, 1) := by decide +kernel
theorem d_Arr_copyOf_1 : decode b_Arr_copyOf 1 = .ok (.aload_n 0, 1) := by decide +kernel
theorem d_Arr_copyOf_2 : decode b_Arr_copyOf 2 = .ok (.arraylength, 1) := by decide +kernel
theorem d_Arr_copyOf_3 : decode b_Arr_copyOf 3 = .ok (.if_icmp .ne 11, 3) := by decide +kernel
theorem d_Arr_copyOf_6 : decode b_Arr_copyOf 6 = .ok (.aload_n 0, 1) := by decide +kernel
theorem d_Arr_copyOf_7 : decode b_Arr_copyOf 7 = .ok (.invokevirtual 310, 3) := by decide +kernel
theorem d_Arr_copyOf_10 : decode b_Arr_copyOf 10 = .ok (.checkcast 311, 3) := by decide +kernel
theorem d_Arr_copyOf_13 : decode b_Arr_copyOf 13 = .ok (.areturn, 1) := by decide +kernel
theorem d_Arr_copyOf_14 : decode b_Arr_copyOf 14 = .ok (.iload_n 1, 1) := by decide +kernel
theorem d_Arr_copyOf_15 : decode b_Arr_copyOf 15 = .ok (.newarray .byte, 2) := by decide +kernel
theorem d_Arr_copyOf_17 : decode b_Arr_copyOf 17 = .ok (.astore_n 2, 1) := by decide +kernel
theorem d_Arr_copyOf_18 : decode b_Arr_copyOf 18 = .ok (.aload_n 0, 1) := by decide +kernel
theorem d_Arr_copyOf_19 : decode b_Arr_copyOf 19 = .ok (.iconst 0, 1) := by decide +kernel
theorem d_Arr_copyOf_20 : decode b_Arr_copyOf 20 = .ok (.aload_n 2, 1) := by decide +kernel
theorem d_Arr_copyOf_21 : decode b_Arr_copyOf 21 = .ok (.iconst 0, 1) := by decide +kernel
theorem d_Arr_copyOf_22 : decode b_Arr_copyOf 22 = .ok (.aload_n 0, 1) := by decide +kernel
theorem d_Arr_copyOf_23 : decode b_Arr_copyOf 23 = .ok (.arraylength, 1) := by decide +kernel
theorem d_Arr_copyOf_24 : decode b_Arr_copyOf 24 = .ok (.iload_n 1, 1) := by decide +kernel
theorem d_Arr_copyOf_25 : decode b_Arr_copyOf 25 = .ok (.invokestatic 304, 3) := by decide +kernel
theorem d_Arr_copyOf_28 : decode b_Arr_copyOf 28 = .ok (.invokestatic 150, 3) := by decide +kernel
theorem d_Arr_copyOf_31 : decode b_Arr_copyOf 31 = .ok (.aload_n 2, 1) := by decide +kernel
theorem d_Arr_copyOf_32 : decode b_Arr_copyOf 32 = .ok (.areturn, 1) := by decide +kernel
theorem d_Arr_copyOfRange_0 : decode b_Arr_copyOfRange 0 = .ok (.iload_n 1, 1) := by decide +kernel
theorem d_Arr_copyOfRange_1 : decode b_Arr_copyOfRange 1 = .ok (.ifCond .ne 9, 3) := by decide +kernel
theorem d_Arr_copyOfRange_4 : decode b_Arr_copyOfRange 4 = .ok (.iload_n 2, 1) := by decide +kernel
theorem d_Arr_copyOfRange_5 : decode b_Arr_copyOfRange 5 = .ok (.aload_n 0, 1) := by decide +kernel
theorem d_Arr_copyOfRange_6 : decode b_Arr_copyOfRange 6 = .ok (.arraylength, 1) := by decide +kernel
theorem d_Arr_copyOfRange_7 : decode b_Arr_copyOfRange 7 = .ok (.if_icmp .eq 10, 3) := by decide +kernel
theorem d_Arr_copyOfRange_10 : decode b_Arr_copyOfRange 10 = .ok (.aload_n 0, 1) := by decide +kernel
theorem d_Arr_copyOfRange_11 : decode b_Arr_copyOfRange 11 = .ok (.iload_n 1, 1) := by decide +kernel
theorem d_Arr_copyOfRange_12 : decode b_Arr_copyOfRange 12 = .ok (.iload_n 2, 1) := by decide +kernel
theorem d_Arr_copyOfRange_13 : decode b_Arr_copyOfRange 13 = .ok (.invokestatic 339, 3) := by decide +kernel
theorem d_Arr_copyOfRange_16 : decode b_Arr_copyOfRange 16 = .ok (.areturn, 1) := by decide +kernel
theorem d_Arr_copyOfRange_17 : decode b_Arr_copyOfRange 17 = .ok (.aload_n 0, 1) := by decide +kernel
theorem d_Arr_copyOfRange_18 : decode b_Arr_copyOfRange 18 = .ok (.invokevirtual 310, 3) := by decide +kernel
theorem d_Arr_copyOfRange_21 : decode b_Arr_copyOfRange 21 = .ok (.checkcast 311, 3) := by decide +kernel
theorem d_Arr_copyOfRange_24 : decode b_Arr_copyOfRange 24 = .ok (.areturn, 1) := by decide +kernel
theorem d_Pre_checkIndex_0 : decode b_Pre_checkIndex 0 = .ok (.iload_n 0, 1) := by decide +kernel
theorem d_Pre_checkIndex_1 : decode b_Pre_checkIndex 1 = .ok (.ifCond .lt 8, 3) := by decide +kernel
theorem d_Pre_checkIndex_4 : decode b_Pre_checkIndex 4 = .ok (.iload_n 0, 1) := by decide +kernel
theorem d_Pre_checkIndex_5 : decode b_Pre_checkIndex 5 = .ok (.iload_n 1, 1) := by decide +kernel
theorem d_Pre_checkIndex_6 : decode b_Pre_checkIndex 6 = .ok (.if_icmp .lt 10, 3) := by decide +kernel
theorem d_Pre_checkIndex_9 : decode b_Pre_checkIndex 9 = .ok (.aload_n 2, 1) := by decide +kernel
theorem d_Pre_checkIndex_10 : decode b_Pre_checkIndex 10 = .ok (.iload_n 0, 1) := by decide +kernel
theorem d_Pre_checkIndex_11 : decode b_Pre_checkIndex 11 = .ok (.iload_n 1, 1) := by decide +kernel
theorem d_Pre_checkIndex_12 : decode b_Pre_checkIndex 12 = .ok (.invokestatic 95, 3) := by decide +kernel
theorem d_Pre_checkIndex_15 : decode b_Pre_checkIndex 15 = .ok (.athrow, 1) := by decide +kernel
theorem d_Pre_checkIndex_16 : decode b_Pre_checkIndex 16 = .ok (.iload_n 0, 1) := by decide +kernel
theorem d_Pre_checkIndex_17 : decode b_Pre_checkIndex 17 = .ok (.ireturn, 1) := by decide +kernel
theorem d_Arr_copyOfRangeByte_0 : decode b_Arr_copyOfRangeByte 0 = .ok (.iload_n 1, 1) := by decide +kernel
theorem d_Arr_copyOfRangeByte_1 : decode b_Arr_copyOfRangeByte 1 = .ok (.iload_n 2, 1) := by decide +kernel
theorem d_Arr_copyOfRangeByte_2 : decode b_Arr_copyOfRangeByte 2 = .ok (.invokestatic 343, 3) := by decide +kernel
theorem d_Arr_copyOfRangeByte_5 : decode b_Arr_copyOfRangeByte 5 = .ok (.iload_n 2, 1) := by decide +kernel
theorem d_Arr_copyOfRangeByte_6 : decode b_Arr_copyOfRangeByte 6 = .ok (.iload_n 1, 1) := by decide +kernel
theorem d_Arr_copyOfRangeByte_7 : decode b_Arr_copyOfRangeByte 7 = .ok (.isub, 1) := by decide +kernel
theorem d_Arr_copyOfRangeByte_8 : decode b_Arr_copyOfRangeByte 8 = .ok (.istore_n 3, 1) := by decide +kernel
theorem d_Arr_copyOfRangeByte_9 : decode b_Arr_copyOfRangeByte 9 = .ok (.iload_n 3, 1) := by decide +kernel
theorem d_Arr_copyOfRangeByte_10 : decode b_Arr_copyOfRangeByte 10 = .ok (.newarray .byte, 2) := by decide +kernel
theorem d_Arr_copyOfRangeByte_12 : decode b_Arr_copyOfRangeByte 12 = .ok (.astore 4, 2) := by decide +kernel
theorem d_Arr_copyOfRangeByte_14 : decode b_Arr_copyOfRangeByte 14 = .ok (.aload_n 0, 1) := by decide +kernel
theorem d_Arr_copyOfRangeByte_15 : decode b_Arr_copyOfRangeByte 15 = .ok (.iload_n 1, 1) := by decide +kernel
theorem d_Arr_copyOfRangeByte_16 : decode b_Arr_copyOfRangeByte 16 = .ok (.aload 4, 2) := by decide +kernel
theorem d_Arr_copyOfRangeByte_18 : decode b_Arr_copyOfRangeByte 18 = .ok (.iconst 0, 1) := by decide +kernel
theorem d_Arr_copyOfRangeByte_19 : decode b_Arr_copyOfRangeByte 19 = .ok (.aload_n 0, 1) := by decide +kernel
theorem d_Arr_copyOfRangeByte_20 : decode b_Arr_copyOfRangeByte 20 = .ok (.arraylength, 1) := by decide +kernel
theorem d_Arr_copyOfRangeByte_21 : decode b_Arr_copyOfRangeByte 21 = .ok (.iload_n 1, 1) := by decide +kernel
theorem d_Arr_copyOfRangeByte_22 : decode b_Arr_copyOfRangeByte 22 = .ok (.isub, 1) := by decide +kernel
theorem d_Arr_copyOfRangeByte_23 : decode b_Arr_copyOfRangeByte 23 = .ok (.iload_n 3, 1) := by decide +kernel
theorem d_Arr_copyOfRangeByte_24 : decode b_Arr_copyOfRangeByte 24 = .ok (.invokestatic 304, 3) := by decide +kernel
theorem d_Arr_copyOfRangeByte_27 : decode b_Arr_copyOfRangeByte 27 = .ok (.invokestatic 150, 3) := by decide +kernel
theorem d_Arr_copyOfRangeByte_30 : decode b_Arr_copyOfRangeByte 30 = .ok (.aload 4, 2) := by decide +kernel
theorem d_Arr_copyOfRangeByte_32 : decode b_Arr_copyOfRangeByte 32 = .ok (.areturn, 1) := by decide +kernel
