theorem dd_Bu_init_0 : decode prog_2_method_1_code 0 = .ok (.aload_n 0, 1) := by decide +kernel
theorem dd_Bu_init_1 : decode prog_2_method_1_code 1 = .ok (.invokespecial 3, 3) := by decide +kernel
theorem dd_Bu_init_4 : decode prog_2_method_1_code 4 = .ok (.aload_n 0, 1) := by decide +kernel
theorem dd_Bu_init_5 : decode prog_2_method_1_code 5 = .ok (.bipush 48, 2) := by decide +kernel
theorem dd_Bu_init_7 : decode prog_2_method_1_code 7 = .ok (.newarray .int, 2) := by decide +kernel
theorem dd_Bu_init_9 : decode prog_2_method_1_code 9 = .ok (.putfield 9, 3) := by decide +kernel
theorem dd_Bu_init_12 : decode prog_2_method_1_code 12 = .ok (.aload_n 0, 1) := by decide +kernel
theorem dd_Bu_init_13 : decode prog_2_method_1_code 13 = .ok (.bipush 48, 2) := by decide +kernel
theorem dd_Bu_init_15 : decode prog_2_method_1_code 15 = .ok (.newarray .long, 2) := by decide +kernel
theorem dd_Bu_init_17 : decode prog_2_method_1_code 17 = .ok (.putfield 15, 3) := by decide +kernel
theorem dd_Bu_init_20 : decode prog_2_method_1_code 20 = .ok (.aload_n 0, 1) := by decide +kernel
theorem dd_Bu_init_21 : decode prog_2_method_1_code 21 = .ok (.bipush 48, 2) := by decide +kernel
theorem dd_Bu_init_23 : decode prog_2_method_1_code 23 = .ok (.newarray .int, 2) := by decide +kernel
theorem dd_Bu_init_25 : decode prog_2_method_1_code 25 = .ok (.putfield 19, 3) := by decide +kernel
theorem dd_Bu_init_28 : decode prog_2_method_1_code 28 = .ok (.return_, 1) := by decide +kernel
theorem dd_Bu_put_0 : decode prog_2_method_2_code 0 = .ok (.aload_n 0, 1) := by decide +kernel
theorem dd_Bu_put_1 : decode prog_2_method_2_code 1 = .ok (.getfield 22, 3) := by decide +kernel
theorem dd_Bu_put_4 : decode prog_2_method_2_code 4 = .ok (.bipush 48, 2) := by decide +kernel
theorem dd_Bu_put_6 : decode prog_2_method_2_code 6 = .ok (.if_icmp .lt 14, 3) := by decide +kernel
theorem dd_Bu_put_9 : decode prog_2_method_2_code 9 = .ok (.aload_n 0, 1) := by decide +kernel
theorem dd_Bu_put_10 : decode prog_2_method_2_code 10 = .ok (.dup, 1) := by decide +kernel
theorem dd_Bu_put_11 : decode prog_2_method_2_code 11 = .ok (.getfield 26, 3) := by decide +kernel
theorem dd_Bu_put_14 : decode prog_2_method_2_code 14 = .ok (.iconst 1, 1) := by decide +kernel
theorem dd_Bu_put_15 : decode prog_2_method_2_code 15 = .ok (.iadd, 1) := by decide +kernel
theorem dd_Bu_put_16 : decode prog_2_method_2_code 16 = .ok (.putfield 26, 3) := by decide +kernel
theorem dd_Bu_put_19 : decode prog_2_method_2_code 19 = .ok (.return_, 1) := by decide +kernel
theorem dd_Bu_put_20 : decode prog_2_method_2_code 20 = .ok (.aload_n 0, 1) := by decide +kernel
theorem dd_Bu_put_21 : decode prog_2_method_2_code 21 = .ok (.getfield 9, 3) := by decide +kernel
theorem dd_Bu_put_24 : decode prog_2_method_2_code 24 = .ok (.aload_n 0, 1) := by decide +kernel
theorem dd_Bu_put_25 : decode prog_2_method_2_code 25 = .ok (.getfield 22, 3) := by decide +kernel
theorem dd_Bu_put_28 : decode prog_2_method_2_code 28 = .ok (.iload_n 2, 1) := by decide +kernel
theorem dd_Bu_put_29 : decode prog_2_method_2_code 29 = .ok (.iload_n 3, 1) := by decide +kernel
theorem dd_Bu_put_30 : decode prog_2_method_2_code 30 = .ok (.bipush 8, 2) := by decide +kernel
theorem dd_Bu_put_32 : decode prog_2_method_2_code 32 = .ok (.ishl, 1) := by decide +kernel
theorem dd_Bu_put_33 : decode prog_2_method_2_code 33 = .ok (.iadd, 1) := by decide +kernel
theorem dd_Bu_put_34 : decode prog_2_method_2_code 34 = .ok (.aload_n 1, 1) := by decide +kernel
theorem dd_Bu_put_35 : decode prog_2_method_2_code 35 = .ok (.getfield 29, 3) := by decide +kernel
theorem dd_Bu_put_38 : decode prog_2_method_2_code 38 = .ok (.iadd, 1) := by decide +kernel
theorem dd_Bu_put_39 : decode prog_2_method_2_code 39 = .ok (.iastore, 1) := by decide +kernel
theorem dd_Bu_put_40 : decode prog_2_method_2_code 40 = .ok (.aload_n 0, 1) := by decide +kernel
theorem dd_Bu_put_41 : decode prog_2_method_2_code 41 = .ok (.getfield 15, 3) := by decide +kernel
theorem dd_Bu_put_44 : decode prog_2_method_2_code 44 = .ok (.aload_n 0, 1) := by decide +kernel
theorem dd_Bu_put_45 : decode prog_2_method_2_code 45 = .ok (.getfield 22, 3) := by decide +kernel
theorem dd_Bu_put_48 : decode prog_2_method_2_code 48 = .ok (.lload 4, 2) := by decide +kernel
theorem dd_Bu_put_50 : decode prog_2_method_2_code 50 = .ok (.lastore, 1) := by decide +kernel
theorem dd_Bu_put_51 : decode prog_2_method_2_code 51 = .ok (.aload_n 0, 1) := by decide +kernel
theorem dd_Bu_put_52 : decode prog_2_method_2_code 52 = .ok (.getfield 19, 3) := by decide +kernel
theorem dd_Bu_put_55 : decode prog_2_method_2_code 55 = .ok (.aload_n 0, 1) := by decide +kernel
theorem dd_Bu_put_56 : decode prog_2_method_2_code 56 = .ok (.getfield 22, 3) := by decide +kernel
theorem dd_Bu_put_59 : decode prog_2_method_2_code 59 = .ok (.aload_n 1, 1) := by decide +kernel
theorem dd_Bu_put_60 : decode prog_2_method_2_code 60 = .ok (.getfield 34, 3) := by decide +kernel
theorem dd_Bu_put_63 : decode prog_2_method_2_code 63 = .ok (.iastore, 1) := by decide +kernel
theorem dd_Bu_put_64 : decode prog_2_method_2_code 64 = .ok (.aload_n 0, 1) := by decide +kernel
theorem dd_Bu_put_65 : decode prog_2_method_2_code 65 = .ok (.dup, 1) := by decide +kernel
theorem dd_Bu_put_66 : decode prog_2_method_2_code 66 = .ok (.getfield 22, 3) := by decide +kernel
theorem dd_Bu_put_69 : decode prog_2_method_2_code 69 = .ok (.iconst 1, 1) := by decide +kernel
theorem dd_Bu_put_70 : decode prog_2_method_2_code 70 = .ok (.iadd, 1) := by decide +kernel
theorem dd_Bu_put_71 : decode prog_2_method_2_code 71 = .ok (.putfield 22, 3) := by decide +kernel
theorem dd_Bu_put_74 : decode prog_2_method_2_code 74 = .ok (.return_, 1) := by decide +kernel
theorem dd_Bu_placeOfNext_0 : decode prog_2_method_3_code 0 = .ok (.aload_n 0, 1) := by decide +kernel
theorem dd_Bu_placeOfNext_1 : decode prog_2_method_3_code 1 = .ok (.getfield 22, 3) := by decide +kernel
theorem dd_Bu_placeOfNext_4 : decode prog_2_method_3_code 4 = .ok (.ifCond .le 7, 3) := by decide +kernel
theorem dd_Bu_placeOfNext_7 : decode prog_2_method_3_code 7 = .ok (.iconst 0, 1) := by decide +kernel
theorem dd_Bu_placeOfNext_8 : decode prog_2_method_3_code 8 = .ok (.goto 4, 3) := by decide +kernel
theorem dd_Bu_placeOfNext_11 : decode prog_2_method_3_code 11 = .ok (.iconst (-1), 1) := by decide +kernel
theorem dd_Bu_placeOfNext_12 : decode prog_2_method_3_code 12 = .ok (.istore_n 1, 1) := by decide +kernel
theorem dd_Bu_placeOfNext_13 : decode prog_2_method_3_code 13 = .ok (.iconst 1, 1) := by decide +kernel
theorem dd_Bu_placeOfNext_14 : decode prog_2_method_3_code 14 = .ok (.istore_n 2, 1) := by decide +kernel
theorem dd_Bu_placeOfNext_15 : decode prog_2_method_3_code 15 = .ok (.iload_n 2, 1) := by decide +kernel
theorem dd_Bu_placeOfNext_16 : decode prog_2_method_3_code 16 = .ok (.aload_n 0, 1) := by decide +kernel
theorem dd_Bu_placeOfNext_17 : decode prog_2_method_3_code 17 = .ok (.getfield 22, 3) := by decide +kernel
theorem dd_Bu_placeOfNext_20 : decode prog_2_method_3_code 20 = .ok (.if_icmp .ge 26, 3) := by decide +kernel
theorem dd_Bu_placeOfNext_23 : decode prog_2_method_3_code 23 = .ok (.aload_n 0, 1) := by decide +kernel
theorem dd_Bu_placeOfNext_24 : decode prog_2_method_3_code 24 = .ok (.getfield 9, 3) := by decide +kernel
theorem dd_Bu_placeOfNext_27 : decode prog_2_method_3_code 27 = .ok (.iload_n 2, 1) := by decide +kernel
theorem dd_Bu_placeOfNext_28 : decode prog_2_method_3_code 28 = .ok (.iaload, 1) := by decide +kernel
theorem dd_Bu_placeOfNext_29 : decode prog_2_method_3_code 29 = .ok (.aload_n 0, 1) := by decide +kernel
theorem dd_Bu_placeOfNext_30 : decode prog_2_method_3_code 30 = .ok (.getfield 9, 3) := by decide +kernel
theorem dd_Bu_placeOfNext_33 : decode prog_2_method_3_code 33 = .ok (.iload_n 1, 1) := by decide +kernel
theorem dd_Bu_placeOfNext_34 : decode prog_2_method_3_code 34 = .ok (.iaload, 1) := by decide +kernel
theorem dd_Bu_placeOfNext_35 : decode prog_2_method_3_code 35 = .ok (.if_icmp .ge 5, 3) := by decide +kernel
theorem dd_Bu_placeOfNext_38 : decode prog_2_method_3_code 38 = .ok (.iload_n 2, 1) := by decide +kernel
theorem dd_Bu_placeOfNext_39 : decode prog_2_method_3_code 39 = .ok (.istore_n 1, 1) := by decide +kernel
theorem dd_Bu_placeOfNext_40 : decode prog_2_method_3_code 40 = .ok (.iinc 2 1, 3) := by decide +kernel
theorem dd_Bu_placeOfNext_43 : decode prog_2_method_3_code 43 = .ok (.goto (-28), 3) := by decide +kernel
theorem dd_Bu_placeOfNext_46 : decode prog_2_method_3_code 46 = .ok (.iload_n 1, 1) := by decide +kernel
theorem dd_Bu_placeOfNext_47 : decode prog_2_method_3_code 47 = .ok (.ireturn, 1) := by decide +kernel
theorem dd_Bu_takeAway_0 : decode prog_2_method_4_code 0 = .ok (.iload_n 1, 1) := by decide +kernel
theorem dd_Bu_takeAway_1 : decode prog_2_method_4_code 1 = .ok (.istore_n 2, 1) := by decide +kernel
theorem dd_Bu_takeAway_2 : decode prog_2_method_4_code 2 = .ok (.iload_n 2, 1) := by decide +kernel
theorem dd_Bu_takeAway_3 : decode prog_2_method_4_code 3 = .ok (.aload_n 0, 1) := by decide +kernel
theorem dd_Bu_takeAway_4 : decode prog_2_method_4_code 4 = .ok (.getfield 22, 3) := by decide +kernel
theorem dd_Bu_takeAway_7 : decode prog_2_method_4_code 7 = .ok (.iconst 1, 1) := by decide +kernel
theorem dd_Bu_takeAway_8 : decode prog_2_method_4_code 8 = .ok (.isub, 1) := by decide +kernel
theorem dd_Bu_takeAway_9 : decode prog_2_method_4_code 9 = .ok (.if_icmp .ge 17, 3) := by decide +kernel
theorem dd_Bu_takeAway_12 : decode prog_2_method_4_code 12 = .ok (.aload_n 0, 1) := by decide +kernel
theorem dd_Bu_takeAway_13 : decode prog_2_method_4_code 13 = .ok (.iload_n 2, 1) := by decide +kernel
theorem dd_Bu_takeAway_14 : decode prog_2_method_4_code 14 = .ok (.iconst 1, 1) := by decide +kernel
theorem dd_Bu_takeAway_15 : decode prog_2_method_4_code 15 = .ok (.iadd, 1) := by decide +kernel
theorem dd_Bu_takeAway_16 : decode prog_2_method_4_code 16 = .ok (.iload_n 2, 1) := by decide +kernel
theorem dd_Bu_takeAway_17 : decode prog_2_method_4_code 17 = .ok (.invokevirtual 37, 3) := by decide +kernel
theorem dd_Bu_takeAway_20 : decode prog_2_method_4_code 20 = .ok (.iinc 2 1, 3) := by decide +kernel
theorem dd_Bu_takeAway_23 : decode prog_2_method_4_code 23 = .ok (.goto (-21), 3) := by decide +kernel
theorem dd_Bu_takeAway_26 : decode prog_2_method_4_code 26 = .ok (.aload_n 0, 1) := by decide +kernel
theorem dd_Bu_takeAway_27 : decode prog_2_method_4_code 27 = .ok (.dup, 1) := by decide +kernel
theorem dd_Bu_takeAway_28 : decode prog_2_method_4_code 28 = .ok (.getfield 22, 3) := by decide +kernel
theorem dd_Bu_takeAway_31 : decode prog_2_method_4_code 31 = .ok (.iconst 1, 1) := by decide +kernel
theorem dd_Bu_takeAway_32 : decode prog_2_method_4_code 32 = .ok (.isub, 1) := by decide +kernel
theorem dd_Bu_takeAway_33 : decode prog_2_method_4_code 33 = .ok (.putfield 22, 3) := by decide +kernel
theorem dd_Bu_takeAway_36 : decode prog_2_method_4_code 36 = .ok (.return_, 1) := by decide +kernel
theorem dd_Bu_takeAwayFramesOf_0 : decode prog_2_method_5_code 0 = .ok (.iconst 0, 1) := by decide +kernel
theorem dd_Bu_takeAwayFramesOf_1 : decode prog_2_method_5_code 1 = .ok (.istore_n 2, 1) := by decide +kernel
theorem dd_Bu_takeAwayFramesOf_2 : decode prog_2_method_5_code 2 = .ok (.iconst 0, 1) := by decide +kernel
theorem dd_Bu_takeAwayFramesOf_3 : decode prog_2_method_5_code 3 = .ok (.istore_n 3, 1) := by decide +kernel
theorem dd_Bu_takeAwayFramesOf_4 : decode prog_2_method_5_code 4 = .ok (.iload_n 3, 1) := by decide +kernel
theorem dd_Bu_takeAwayFramesOf_5 : decode prog_2_method_5_code 5 = .ok (.aload_n 0, 1) := by decide +kernel
theorem dd_Bu_takeAwayFramesOf_6 : decode prog_2_method_5_code 6 = .ok (.getfield 22, 3) := by decide +kernel
theorem dd_Bu_takeAwayFramesOf_9 : decode prog_2_method_5_code 9 = .ok (.if_icmp .ge 28, 3) := by decide +kernel
theorem dd_Bu_takeAwayFramesOf_12 : decode prog_2_method_5_code 12 = .ok (.aload_n 0, 1) := by decide +kernel
theorem dd_Bu_takeAwayFramesOf_13 : decode prog_2_method_5_code 13 = .ok (.getfield 19, 3) := by decide +kernel
theorem dd_Bu_takeAwayFramesOf_16 : decode prog_2_method_5_code 16 = .ok (.iload_n 3, 1) := by decide +kernel
theorem dd_Bu_takeAwayFramesOf_17 : decode prog_2_method_5_code 17 = .ok (.iaload, 1) := by decide +kernel
theorem dd_Bu_takeAwayFramesOf_18 : decode prog_2_method_5_code 18 = .ok (.iload_n 1, 1) := by decide +kernel
theorem dd_Bu_takeAwayFramesOf_19 : decode prog_2_method_5_code 19 = .ok (.if_icmp .eq 12, 3) := by decide +kernel
theorem dd_Bu_takeAwayFramesOf_22 : decode prog_2_method_5_code 22 = .ok (.aload_n 0, 1) := by decide +kernel
theorem dd_Bu_takeAwayFramesOf_23 : decode prog_2_method_5_code 23 = .ok (.iload_n 3, 1) := by decide +kernel
theorem dd_Bu_takeAwayFramesOf_24 : decode prog_2_method_5_code 24 = .ok (.iload_n 2, 1) := by decide +kernel
theorem dd_Bu_takeAwayFramesOf_25 : decode prog_2_method_5_code 25 = .ok (.invokevirtual 37, 3) := by decide +kernel
theorem dd_Bu_takeAwayFramesOf_28 : decode prog_2_method_5_code 28 = .ok (.iinc 2 1, 3) := by decide +kernel
theorem dd_Bu_takeAwayFramesOf_31 : decode prog_2_method_5_code 31 = .ok (.iinc 3 1, 3) := by decide +kernel
theorem dd_Bu_takeAwayFramesOf_34 : decode prog_2_method_5_code 34 = .ok (.goto (-30), 3) := by decide +kernel
theorem dd_Bu_takeAwayFramesOf_37 : decode prog_2_method_5_code 37 = .ok (.aload_n 0, 1) := by decide +kernel
theorem dd_Bu_takeAwayFramesOf_38 : decode prog_2_method_5_code 38 = .ok (.iload_n 2, 1) := by decide +kernel
theorem dd_Bu_takeAwayFramesOf_39 : decode prog_2_method_5_code 39 = .ok (.putfield 22, 3) := by decide +kernel
theorem dd_Bu_takeAwayFramesOf_42 : decode prog_2_method_5_code 42 = .ok (.return_, 1) := by decide +kernel
theorem dd_Bu_move_0 : decode prog_2_method_6_code 0 = .ok (.aload_n 0, 1) := by decide +kernel
theorem dd_Bu_move_1 : decode prog_2_method_6_code 1 = .ok (.getfield 9, 3) := by decide +kernel
theorem dd_Bu_move_4 : decode prog_2_method_6_code 4 = .ok (.iload_n 2, 1) := by decide +kernel
theorem dd_Bu_move_5 : decode prog_2_method_6_code 5 = .ok (.aload_n 0, 1) := by decide +kernel
theorem dd_Bu_move_6 : decode prog_2_method_6_code 6 = .ok (.getfield 9, 3) := by decide +kernel
theorem dd_Bu_move_9 : decode prog_2_method_6_code 9 = .ok (.iload_n 1, 1) := by decide +kernel
theorem dd_Bu_move_10 : decode prog_2_method_6_code 10 = .ok (.iaload, 1) := by decide +kernel
theorem dd_Bu_move_11 : decode prog_2_method_6_code 11 = .ok (.iastore, 1) := by decide +kernel
theorem dd_Bu_move_12 : decode prog_2_method_6_code 12 = .ok (.aload_n 0, 1) := by decide +kernel
theorem dd_Bu_move_13 : decode prog_2_method_6_code 13 = .ok (.getfield 15, 3) := by decide +kernel
theorem dd_Bu_move_16 : decode prog_2_method_6_code 16 = .ok (.iload_n 2, 1) := by decide +kernel
theorem dd_Bu_move_17 : decode prog_2_method_6_code 17 = .ok (.aload_n 0, 1) := by decide +kernel
theorem dd_Bu_move_18 : decode prog_2_method_6_code 18 = .ok (.getfield 15, 3) := by decide +kernel
theorem dd_Bu_move_21 : decode prog_2_method_6_code 21 = .ok (.iload_n 1, 1) := by decide +kernel
theorem dd_Bu_move_22 : decode prog_2_method_6_code 22 = .ok (.laload, 1) := by decide +kernel
theorem dd_Bu_move_23 : decode prog_2_method_6_code 23 = .ok (.lastore, 1) := by decide +kernel
theorem dd_Bu_move_24 : decode prog_2_method_6_code 24 = .ok (.aload_n 0, 1) := by decide +kernel
theorem dd_Bu_move_25 : decode prog_2_method_6_code 25 = .ok (.getfield 19, 3) := by decide +kernel
theorem dd_Bu_move_28 : decode prog_2_method_6_code 28 = .ok (.iload_n 2, 1) := by decide +kernel
theorem dd_Bu_move_29 : decode prog_2_method_6_code 29 = .ok (.aload_n 0, 1) := by decide +kernel
theorem dd_Bu_move_30 : decode prog_2_method_6_code 30 = .ok (.getfield 19, 3) := by decide +kernel
theorem dd_Bu_move_33 : decode prog_2_method_6_code 33 = .ok (.iload_n 1, 1) := by decide +kernel
theorem dd_Bu_move_34 : decode prog_2_method_6_code 34 = .ok (.iaload, 1) := by decide +kernel
theorem dd_Bu_move_35 : decode prog_2_method_6_code 35 = .ok (.iastore, 1) := by decide +kernel
theorem dd_Bu_move_36 : decode prog_2_method_6_code 36 = .ok (.return_, 1) := by decide +kernel
theorem dd_Ms_init_0 : decode prog_5_method_1_code 0 = .ok (.aload_n 0, 1) := by decide +kernel
theorem dd_Ms_init_1 : decode prog_5_method_1_code 1 = .ok (.invokespecial 3, 3) := by decide +kernel
theorem dd_Ms_init_4 : decode prog_5_method_1_code 4 = .ok (.aload_n 0, 1) := by decide +kernel
theorem dd_Ms_init_5 : decode prog_5_method_1_code 5 = .ok (.bipush 7, 2) := by decide +kernel
theorem dd_Ms_init_7 : decode prog_5_method_1_code 7 = .ok (.newarray .long, 2) := by decide +kernel
theorem dd_Ms_init_9 : decode prog_5_method_1_code 9 = .ok (.putfield 9, 3) := by decide +kernel
theorem dd_Ms_init_12 : decode prog_5_method_1_code 12 = .ok (.return_, 1) := by decide +kernel
theorem dd_Ms_keep_0 : decode prog_5_method_2_code 0 = .ok (.iload_n 1, 1) := by decide +kernel
theorem dd_Ms_keep_1 : decode prog_5_method_2_code 1 = .ok (.iconst 1, 1) := by decide +kernel
theorem dd_Ms_keep_2 : decode prog_5_method_2_code 2 = .ok (.if_icmp .lt 18, 3) := by decide +kernel
theorem dd_Ms_keep_5 : decode prog_5_method_2_code 5 = .ok (.iload_n 1, 1) := by decide +kernel
theorem dd_Ms_keep_6 : decode prog_5_method_2_code 6 = .ok (.bipush 7, 2) := by decide +kernel
theorem dd_Ms_keep_8 : decode prog_5_method_2_code 8 = .ok (.if_icmp .gt 12, 3) := by decide +kernel
theorem dd_Ms_keep_11 : decode prog_5_method_2_code 11 = .ok (.aload_n 0, 1) := by decide +kernel
theorem dd_Ms_keep_12 : decode prog_5_method_2_code 12 = .ok (.getfield 9, 3) := by decide +kernel
theorem dd_Ms_keep_15 : decode prog_5_method_2_code 15 = .ok (.iload_n 1, 1) := by decide +kernel
theorem dd_Ms_keep_16 : decode prog_5_method_2_code 16 = .ok (.iconst 1, 1) := by decide +kernel
theorem dd_Ms_keep_17 : decode prog_5_method_2_code 17 = .ok (.isub, 1) := by decide +kernel
theorem dd_Ms_keep_18 : decode prog_5_method_2_code 18 = .ok (.lload_n 2, 1) := by decide +kernel
theorem dd_Ms_keep_19 : decode prog_5_method_2_code 19 = .ok (.lastore, 1) := by decide +kernel
theorem dd_Ms_keep_20 : decode prog_5_method_2_code 20 = .ok (.return_, 1) := by decide +kernel
theorem dd_Ms_copy_0 : decode prog_5_method_3_code 0 = .ok (.aload_n 0, 1) := by decide +kernel
theorem dd_Ms_copy_1 : decode prog_5_method_3_code 1 = .ok (.aload_n 1, 1) := by decide +kernel
theorem dd_Ms_copy_2 : decode prog_5_method_3_code 2 = .ok (.getfield 15, 3) := by decide +kernel
theorem dd_Ms_copy_5 : decode prog_5_method_3_code 5 = .ok (.putfield 15, 3) := by decide +kernel
theorem dd_Ms_copy_8 : decode prog_5_method_3_code 8 = .ok (.aload_n 0, 1) := by decide +kernel
theorem dd_Ms_copy_9 : decode prog_5_method_3_code 9 = .ok (.aload_n 1, 1) := by decide +kernel
theorem dd_Ms_copy_10 : decode prog_5_method_3_code 10 = .ok (.getfield 19, 3) := by decide +kernel
theorem dd_Ms_copy_13 : decode prog_5_method_3_code 13 = .ok (.putfield 19, 3) := by decide +kernel
theorem dd_Ms_copy_16 : decode prog_5_method_3_code 16 = .ok (.aload_n 0, 1) := by decide +kernel
theorem dd_Ms_copy_17 : decode prog_5_method_3_code 17 = .ok (.aload_n 1, 1) := by decide +kernel
theorem dd_Ms_copy_18 : decode prog_5_method_3_code 18 = .ok (.getfield 22, 3) := by decide +kernel
theorem dd_Ms_copy_21 : decode prog_5_method_3_code 21 = .ok (.putfield 22, 3) := by decide +kernel
theorem dd_Ms_copy_24 : decode prog_5_method_3_code 24 = .ok (.aload_n 0, 1) := by decide +kernel
theorem dd_Ms_copy_25 : decode prog_5_method_3_code 25 = .ok (.aload_n 1, 1) := by decide +kernel
theorem dd_Ms_copy_26 : decode prog_5_method_3_code 26 = .ok (.getfield 25, 3) := by decide +kernel
theorem dd_Ms_copy_29 : decode prog_5_method_3_code 29 = .ok (.putfield 25, 3) := by decide +kernel
theorem dd_Ms_copy_32 : decode prog_5_method_3_code 32 = .ok (.iconst 0, 1) := by decide +kernel
theorem dd_Ms_copy_33 : decode prog_5_method_3_code 33 = .ok (.istore_n 2, 1) := by decide +kernel
theorem dd_Ms_copy_34 : decode prog_5_method_3_code 34 = .ok (.iload_n 2, 1) := by decide +kernel
theorem dd_Ms_copy_35 : decode prog_5_method_3_code 35 = .ok (.bipush 7, 2) := by decide +kernel
theorem dd_Ms_copy_37 : decode prog_5_method_3_code 37 = .ok (.if_icmp .ge 21, 3) := by decide +kernel
theorem dd_Ms_copy_40 : decode prog_5_method_3_code 40 = .ok (.aload_n 0, 1) := by decide +kernel
theorem dd_Ms_copy_41 : decode prog_5_method_3_code 41 = .ok (.getfield 9, 3) := by decide +kernel
theorem dd_Ms_copy_44 : decode prog_5_method_3_code 44 = .ok (.iload_n 2, 1) := by decide +kernel
theorem dd_Ms_copy_45 : decode prog_5_method_3_code 45 = .ok (.aload_n 1, 1) := by decide +kernel
theorem dd_Ms_copy_46 : decode prog_5_method_3_code 46 = .ok (.getfield 9, 3) := by decide +kernel
theorem dd_Ms_copy_49 : decode prog_5_method_3_code 49 = .ok (.iload_n 2, 1) := by decide +kernel
theorem dd_Ms_copy_50 : decode prog_5_method_3_code 50 = .ok (.laload, 1) := by decide +kernel
theorem dd_Ms_copy_51 : decode prog_5_method_3_code 51 = .ok (.lastore, 1) := by decide +kernel
theorem dd_Ms_copy_52 : decode prog_5_method_3_code 52 = .ok (.iinc 2 1, 3) := by decide +kernel
theorem dd_Ms_copy_55 : decode prog_5_method_3_code 55 = .ok (.goto (-21), 3) := by decide +kernel
theorem dd_Ms_copy_58 : decode prog_5_method_3_code 58 = .ok (.return_, 1) := by decide +kernel
theorem dd_Ms_byteAt_0 : decode prog_5_method_4_code 0 = .ok (.iload_n 1, 1) := by decide +kernel
theorem dd_Ms_byteAt_1 : decode prog_5_method_4_code 1 = .ok (.ifCond .lt 17, 3) := by decide +kernel
theorem dd_Ms_byteAt_4 : decode prog_5_method_4_code 4 = .ok (.iload_n 1, 1) := by decide +kernel
theorem dd_Ms_byteAt_5 : decode prog_5_method_4_code 5 = .ok (.aload_n 0, 1) := by decide +kernel
theorem dd_Ms_byteAt_6 : decode prog_5_method_4_code 6 = .ok (.getfield 22, 3) := by decide +kernel
theorem dd_Ms_byteAt_9 : decode prog_5_method_4_code 9 = .ok (.if_icmp .ge 9, 3) := by decide +kernel
theorem dd_Ms_byteAt_12 : decode prog_5_method_4_code 12 = .ok (.iload_n 1, 1) := by decide +kernel
theorem dd_Ms_byteAt_13 : decode prog_5_method_4_code 13 = .ok (.bipush 49, 2) := by decide +kernel
theorem dd_Ms_byteAt_15 : decode prog_5_method_4_code 15 = .ok (.if_icmp .lt 5, 3) := by decide +kernel
theorem dd_Ms_byteAt_18 : decode prog_5_method_4_code 18 = .ok (.iconst (-1), 1) := by decide +kernel
theorem dd_Ms_byteAt_19 : decode prog_5_method_4_code 19 = .ok (.ireturn, 1) := by decide +kernel
theorem dd_Ms_byteAt_20 : decode prog_5_method_4_code 20 = .ok (.aload_n 0, 1) := by decide +kernel
theorem dd_Ms_byteAt_21 : decode prog_5_method_4_code 21 = .ok (.getfield 9, 3) := by decide +kernel
theorem dd_Ms_byteAt_24 : decode prog_5_method_4_code 24 = .ok (.iload_n 1, 1) := by decide +kernel
theorem dd_Ms_byteAt_25 : decode prog_5_method_4_code 25 = .ok (.bipush 7, 2) := by decide +kernel
theorem dd_Ms_byteAt_27 : decode prog_5_method_4_code 27 = .ok (.idiv, 1) := by decide +kernel
theorem dd_Ms_byteAt_28 : decode prog_5_method_4_code 28 = .ok (.laload, 1) := by decide +kernel
theorem dd_Ms_byteAt_29 : decode prog_5_method_4_code 29 = .ok (.iload_n 1, 1) := by decide +kernel
theorem dd_Ms_byteAt_30 : decode prog_5_method_4_code 30 = .ok (.bipush 7, 2) := by decide +kernel
theorem dd_Ms_byteAt_32 : decode prog_5_method_4_code 32 = .ok (.irem, 1) := by decide +kernel
theorem dd_Ms_byteAt_33 : decode prog_5_method_4_code 33 = .ok (.iconst 2, 1) := by decide +kernel
theorem dd_Ms_byteAt_34 : decode prog_5_method_4_code 34 = .ok (.iadd, 1) := by decide +kernel
theorem dd_Ms_byteAt_35 : decode prog_5_method_4_code 35 = .ok (.invokestatic 29, 3) := by decide +kernel
theorem dd_Ms_byteAt_38 : decode prog_5_method_4_code 38 = .ok (.ireturn, 1) := by decide +kernel
theorem dd_St_init_0 : decode prog_7_method_1_code 0 = .ok (.aload_n 0, 1) := by decide +kernel
theorem dd_St_init_1 : decode prog_7_method_1_code 1 = .ok (.invokespecial 1, 3) := by decide +kernel
theorem dd_St_init_4 : decode prog_7_method_1_code 4 = .ok (.aload_n 0, 1) := by decide +kernel
theorem dd_St_init_5 : decode prog_7_method_1_code 5 = .ok (.iload_n 1, 1) := by decide +kernel
theorem dd_St_init_6 : decode prog_7_method_1_code 6 = .ok (.putfield 7, 3) := by decide +kernel
theorem dd_St_init_9 : decode prog_7_method_1_code 9 = .ok (.return_, 1) := by decide +kernel
theorem dd_Ou_init_0 : decode prog_6_method_1_code 0 = .ok (.aload_n 0, 1) := by decide +kernel
theorem dd_Ou_init_1 : decode prog_6_method_1_code 1 = .ok (.invokespecial 3, 3) := by decide +kernel
theorem dd_Ou_init_4 : decode prog_6_method_1_code 4 = .ok (.aload_n 0, 1) := by decide +kernel
theorem dd_Ou_init_5 : decode prog_6_method_1_code 5 = .ok (.iconst 0, 1) := by decide +kernel
theorem dd_Ou_init_6 : decode prog_6_method_1_code 6 = .ok (.putfield 9, 3) := by decide +kernel
theorem dd_Ou_init_9 : decode prog_6_method_1_code 9 = .ok (.aload_n 0, 1) := by decide +kernel
theorem dd_Ou_init_10 : decode prog_6_method_1_code 10 = .ok (.ldc2_w 15, 3) := by decide +kernel
theorem dd_Ou_init_13 : decode prog_6_method_1_code 13 = .ok (.putfield 17, 3) := by decide +kernel
theorem dd_Ou_init_16 : decode prog_6_method_1_code 16 = .ok (.aload_n 0, 1) := by decide +kernel
theorem dd_Ou_init_17 : decode prog_6_method_1_code 17 = .ok (.aload_n 1, 1) := by decide +kernel
theorem dd_Ou_init_18 : decode prog_6_method_1_code 18 = .ok (.putfield 21, 3) := by decide +kernel
theorem dd_Ou_init_21 : decode prog_6_method_1_code 21 = .ok (.aload_n 0, 1) := by decide +kernel
theorem dd_Ou_init_22 : decode prog_6_method_1_code 22 = .ok (.aload_n 2, 1) := by decide +kernel
theorem dd_Ou_init_23 : decode prog_6_method_1_code 23 = .ok (.putfield 25, 3) := by decide +kernel
theorem dd_Ou_init_26 : decode prog_6_method_1_code 26 = .ok (.return_, 1) := by decide +kernel
theorem dd_Ou_begin_0 : decode prog_6_method_2_code 0 = .ok (.aload_n 0, 1) := by decide +kernel
theorem dd_Ou_begin_1 : decode prog_6_method_2_code 1 = .ok (.iload_n 1, 1) := by decide +kernel
theorem dd_Ou_begin_2 : decode prog_6_method_2_code 2 = .ok (.putfield 29, 3) := by decide +kernel
theorem dd_Ou_begin_5 : decode prog_6_method_2_code 5 = .ok (.aload_n 0, 1) := by decide +kernel
theorem dd_Ou_begin_6 : decode prog_6_method_2_code 6 = .ok (.iload_n 2, 1) := by decide +kernel
theorem dd_Ou_begin_7 : decode prog_6_method_2_code 7 = .ok (.putfield 32, 3) := by decide +kernel
theorem dd_Ou_begin_10 : decode prog_6_method_2_code 10 = .ok (.aload_n 0, 1) := by decide +kernel
theorem dd_Ou_begin_11 : decode prog_6_method_2_code 11 = .ok (.iload_n 3, 1) := by decide +kernel
theorem dd_Ou_begin_12 : decode prog_6_method_2_code 12 = .ok (.putfield 35, 3) := by decide +kernel
theorem dd_Ou_begin_15 : decode prog_6_method_2_code 15 = .ok (.aload_n 0, 1) := by decide +kernel
theorem dd_Ou_begin_16 : decode prog_6_method_2_code 16 = .ok (.lload 4, 2) := by decide +kernel
theorem dd_Ou_begin_18 : decode prog_6_method_2_code 18 = .ok (.putfield 38, 3) := by decide +kernel
theorem dd_Ou_begin_21 : decode prog_6_method_2_code 21 = .ok (.aload_n 0, 1) := by decide +kernel
theorem dd_Ou_begin_22 : decode prog_6_method_2_code 22 = .ok (.iconst 1, 1) := by decide +kernel
theorem dd_Ou_begin_23 : decode prog_6_method_2_code 23 = .ok (.putfield 41, 3) := by decide +kernel
theorem dd_Ou_begin_26 : decode prog_6_method_2_code 26 = .ok (.iload_n 1, 1) := by decide +kernel
theorem dd_Ou_begin_27 : decode prog_6_method_2_code 27 = .ok (.sipush 255, 3) := by decide +kernel
theorem dd_Ou_begin_30 : decode prog_6_method_2_code 30 = .ok (.if_icmp .ne 7, 3) := by decide +kernel
theorem dd_Ou_begin_33 : decode prog_6_method_2_code 33 = .ok (.iconst 1, 1) := by decide +kernel
theorem dd_Ou_begin_34 : decode prog_6_method_2_code 34 = .ok (.goto 4, 3) := by decide +kernel
theorem dd_Ou_begin_37 : decode prog_6_method_2_code 37 = .ok (.iconst 0, 1) := by decide +kernel
theorem dd_Ou_begin_38 : decode prog_6_method_2_code 38 = .ok (.istore 6, 2) := by decide +kernel
theorem dd_Ou_begin_40 : decode prog_6_method_2_code 40 = .ok (.aload_n 0, 1) := by decide +kernel
theorem dd_Ou_begin_41 : decode prog_6_method_2_code 41 = .ok (.iload 6, 2) := by decide +kernel
theorem dd_Ou_begin_43 : decode prog_6_method_2_code 43 = .ok (.ifCond .eq 7, 3) := by decide +kernel
theorem dd_Ou_begin_46 : decode prog_6_method_2_code 46 = .ok (.iconst 1, 1) := by decide +kernel
theorem dd_Ou_begin_47 : decode prog_6_method_2_code 47 = .ok (.goto 4, 3) := by decide +kernel
theorem dd_Ou_begin_50 : decode prog_6_method_2_code 50 = .ok (.iconst 2, 1) := by decide +kernel
theorem dd_Ou_begin_51 : decode prog_6_method_2_code 51 = .ok (.putfield 9, 3) := by decide +kernel
theorem dd_Ou_begin_54 : decode prog_6_method_2_code 54 = .ok (.aload_n 0, 1) := by decide +kernel
theorem dd_Ou_begin_55 : decode prog_6_method_2_code 55 = .ok (.getfield 21, 3) := by decide +kernel
theorem dd_Ou_begin_58 : decode prog_6_method_2_code 58 = .ok (.aload_n 0, 1) := by decide +kernel
theorem dd_Ou_begin_59 : decode prog_6_method_2_code 59 = .ok (.getfield 25, 3) := by decide +kernel
theorem dd_Ou_begin_62 : decode prog_6_method_2_code 62 = .ok (.ldc 44, 2) := by decide +kernel
theorem dd_Ou_begin_64 : decode prog_6_method_2_code 64 = .ok (.iload_n 1, 1) := by decide +kernel
theorem dd_Ou_begin_65 : decode prog_6_method_2_code 65 = .ok (.iload 6, 2) := by decide +kernel
theorem dd_Ou_begin_67 : decode prog_6_method_2_code 67 = .ok (.ifCond .eq 8, 3) := by decide +kernel
theorem dd_Ou_begin_70 : decode prog_6_method_2_code 70 = .ok (.bipush 32, 2) := by decide +kernel
theorem dd_Ou_begin_72 : decode prog_6_method_2_code 72 = .ok (.goto 5, 3) := by decide +kernel
theorem dd_Ou_begin_75 : decode prog_6_method_2_code 75 = .ok (.bipush 16, 2) := by decide +kernel
theorem dd_Ou_begin_77 : decode prog_6_method_2_code 77 = .ok (.iload_n 3, 1) := by decide +kernel
theorem dd_Ou_begin_78 : decode prog_6_method_2_code 78 = .ok (.iload_n 2, 1) := by decide +kernel
theorem dd_Ou_begin_79 : decode prog_6_method_2_code 79 = .ok (.invokestatic 45, 3) := by decide +kernel
theorem dd_Ou_begin_82 : decode prog_6_method_2_code 82 = .ok (.invokevirtual 49, 3) := by decide +kernel
theorem dd_Ou_begin_85 : decode prog_6_method_2_code 85 = .ok (.aload_n 0, 1) := by decide +kernel
theorem dd_Ou_begin_86 : decode prog_6_method_2_code 86 = .ok (.aload_n 0, 1) := by decide +kernel
theorem dd_Ou_begin_87 : decode prog_6_method_2_code 87 = .ok (.getfield 21, 3) := by decide +kernel
theorem dd_Ou_begin_90 : decode prog_6_method_2_code 90 = .ok (.getfield 55, 3) := by decide +kernel
theorem dd_Ou_begin_93 : decode prog_6_method_2_code 93 = .ok (.iload 6, 2) := by decide +kernel
theorem dd_Ou_begin_95 : decode prog_6_method_2_code 95 = .ok (.ifCond .eq 8, 3) := by decide +kernel
theorem dd_Ou_begin_98 : decode prog_6_method_2_code 98 = .ok (.bipush 50, 2) := by decide +kernel
theorem dd_Ou_begin_100 : decode prog_6_method_2_code 100 = .ok (.goto 6, 3) := by decide +kernel
theorem dd_Ou_begin_103 : decode prog_6_method_2_code 103 = .ok (.sipush 1250, 3) := by decide +kernel
theorem dd_Ou_begin_106 : decode prog_6_method_2_code 106 = .ok (.i2l, 1) := by decide +kernel
theorem dd_Ou_begin_107 : decode prog_6_method_2_code 107 = .ok (.ladd, 1) := by decide +kernel
theorem dd_Ou_begin_108 : decode prog_6_method_2_code 108 = .ok (.putfield 17, 3) := by decide +kernel
theorem dd_Ou_begin_111 : decode prog_6_method_2_code 111 = .ok (.return_, 1) := by decide +kernel
theorem dd_Ou_end_0 : decode prog_6_method_3_code 0 = .ok (.aload_n 0, 1) := by decide +kernel
theorem dd_Ou_end_1 : decode prog_6_method_3_code 1 = .ok (.iconst 0, 1) := by decide +kernel
theorem dd_Ou_end_2 : decode prog_6_method_3_code 2 = .ok (.putfield 9, 3) := by decide +kernel
theorem dd_Ou_end_5 : decode prog_6_method_3_code 5 = .ok (.aload_n 0, 1) := by decide +kernel
theorem dd_Ou_end_6 : decode prog_6_method_3_code 6 = .ok (.iload_n 1, 1) := by decide +kernel
theorem dd_Ou_end_7 : decode prog_6_method_3_code 7 = .ok (.putfield 58, 3) := by decide +kernel
theorem dd_Ou_end_10 : decode prog_6_method_3_code 10 = .ok (.aload_n 0, 1) := by decide +kernel
theorem dd_Ou_end_11 : decode prog_6_method_3_code 11 = .ok (.ldc2_w 15, 3) := by decide +kernel
theorem dd_Ou_end_14 : decode prog_6_method_3_code 14 = .ok (.putfield 17, 3) := by decide +kernel
theorem dd_Ou_end_17 : decode prog_6_method_3_code 17 = .ok (.return_, 1) := by decide +kernel
theorem dd_Ou_isWith_0 : decode prog_6_method_4_code 0 = .ok (.aload_n 0, 1) := by decide +kernel
theorem dd_Ou_isWith_1 : decode prog_6_method_4_code 1 = .ok (.getfield 9, 3) := by decide +kernel
theorem dd_Ou_isWith_4 : decode prog_6_method_4_code 4 = .ok (.iconst 2, 1) := by decide +kernel
theorem dd_Ou_isWith_5 : decode prog_6_method_4_code 5 = .ok (.if_icmp .eq 11, 3) := by decide +kernel
theorem dd_Ou_isWith_8 : decode prog_6_method_4_code 8 = .ok (.aload_n 0, 1) := by decide +kernel
theorem dd_Ou_isWith_9 : decode prog_6_method_4_code 9 = .ok (.getfield 9, 3) := by decide +kernel
theorem dd_Ou_isWith_12 : decode prog_6_method_4_code 12 = .ok (.iconst 3, 1) := by decide +kernel
theorem dd_Ou_isWith_13 : decode prog_6_method_4_code 13 = .ok (.if_icmp .ne 23, 3) := by decide +kernel
theorem dd_Ou_isWith_16 : decode prog_6_method_4_code 16 = .ok (.aload_n 0, 1) := by decide +kernel
theorem dd_Ou_isWith_17 : decode prog_6_method_4_code 17 = .ok (.getfield 29, 3) := by decide +kernel
theorem dd_Ou_isWith_20 : decode prog_6_method_4_code 20 = .ok (.iload_n 1, 1) := by decide +kernel
theorem dd_Ou_isWith_21 : decode prog_6_method_4_code 21 = .ok (.if_icmp .ne 15, 3) := by decide +kernel
theorem dd_Ou_isWith_24 : decode prog_6_method_4_code 24 = .ok (.aload_n 0, 1) := by decide +kernel
theorem dd_Ou_isWith_25 : decode prog_6_method_4_code 25 = .ok (.getfield 32, 3) := by decide +kernel
theorem dd_Ou_isWith_28 : decode prog_6_method_4_code 28 = .ok (.iload_n 2, 1) := by decide +kernel
theorem dd_Ou_isWith_29 : decode prog_6_method_4_code 29 = .ok (.if_icmp .ne 7, 3) := by decide +kernel
theorem dd_Ou_isWith_32 : decode prog_6_method_4_code 32 = .ok (.iconst 1, 1) := by decide +kernel
theorem dd_Ou_isWith_33 : decode prog_6_method_4_code 33 = .ok (.goto 4, 3) := by decide +kernel
theorem dd_Ou_isWith_36 : decode prog_6_method_4_code 36 = .ok (.iconst 0, 1) := by decide +kernel
theorem dd_Ou_isWith_37 : decode prog_6_method_4_code 37 = .ok (.ireturn, 1) := by decide +kernel
theorem dd_Ou_takeGrant_0 : decode prog_6_method_5_code 0 = .ok (.iload_n 1, 1) := by decide +kernel
theorem dd_Ou_takeGrant_1 : decode prog_6_method_5_code 1 = .ok (.ifCond .ne 24, 3) := by decide +kernel
theorem dd_Ou_takeGrant_4 : decode prog_6_method_5_code 4 = .ok (.aload_n 0, 1) := by decide +kernel
theorem dd_Ou_takeGrant_5 : decode prog_6_method_5_code 5 = .ok (.iconst 3, 1) := by decide +kernel
theorem dd_Ou_takeGrant_6 : decode prog_6_method_5_code 6 = .ok (.putfield 9, 3) := by decide +kernel
theorem dd_Ou_takeGrant_9 : decode prog_6_method_5_code 9 = .ok (.aload_n 0, 1) := by decide +kernel
theorem dd_Ou_takeGrant_10 : decode prog_6_method_5_code 10 = .ok (.aload_n 0, 1) := by decide +kernel
theorem dd_Ou_takeGrant_11 : decode prog_6_method_5_code 11 = .ok (.getfield 21, 3) := by decide +kernel
theorem dd_Ou_takeGrant_14 : decode prog_6_method_5_code 14 = .ok (.getfield 55, 3) := by decide +kernel
theorem dd_Ou_takeGrant_17 : decode prog_6_method_5_code 17 = .ok (.ldc2_w 61, 3) := by decide +kernel
theorem dd_Ou_takeGrant_20 : decode prog_6_method_5_code 20 = .ok (.ladd, 1) := by decide +kernel
theorem dd_Ou_takeGrant_21 : decode prog_6_method_5_code 21 = .ok (.putfield 17, 3) := by decide +kernel
theorem dd_Ou_takeGrant_24 : decode prog_6_method_5_code 24 = .ok (.return_, 1) := by decide +kernel
theorem dd_Ou_takeGrant_25 : decode prog_6_method_5_code 25 = .ok (.iload_n 2, 1) := by decide +kernel
theorem dd_Ou_takeGrant_26 : decode prog_6_method_5_code 26 = .ok (.iload_n 1, 1) := by decide +kernel
theorem dd_Ou_takeGrant_27 : decode prog_6_method_5_code 27 = .ok (.iadd, 1) := by decide +kernel
theorem dd_Ou_takeGrant_28 : decode prog_6_method_5_code 28 = .ok (.iconst 1, 1) := by decide +kernel
theorem dd_Ou_takeGrant_29 : decode prog_6_method_5_code 29 = .ok (.isub, 1) := by decide +kernel
theorem dd_Ou_takeGrant_30 : decode prog_6_method_5_code 30 = .ok (.aload_n 0, 1) := by decide +kernel
theorem dd_Ou_takeGrant_31 : decode prog_6_method_5_code 31 = .ok (.getfield 35, 3) := by decide +kernel
theorem dd_Ou_takeGrant_34 : decode prog_6_method_5_code 34 = .ok (.invokestatic 63, 3) := by decide +kernel
theorem dd_Ou_takeGrant_37 : decode prog_6_method_5_code 37 = .ok (.invokestatic 67, 3) := by decide +kernel
theorem dd_Ou_takeGrant_40 : decode prog_6_method_5_code 40 = .ok (.istore_n 3, 1) := by decide +kernel
theorem dd_Ou_takeGrant_41 : decode prog_6_method_5_code 41 = .ok (.iload_n 2, 1) := by decide +kernel
theorem dd_Ou_takeGrant_42 : decode prog_6_method_5_code 42 = .ok (.istore 4, 2) := by decide +kernel
theorem dd_Ou_takeGrant_44 : decode prog_6_method_5_code 44 = .ok (.iload 4, 2) := by decide +kernel
theorem dd_Ou_takeGrant_46 : decode prog_6_method_5_code 46 = .ok (.iload_n 3, 1) := by decide +kernel
theorem dd_Ou_takeGrant_47 : decode prog_6_method_5_code 47 = .ok (.if_icmp .gt 15, 3) := by decide +kernel
theorem dd_Ou_takeGrant_50 : decode prog_6_method_5_code 50 = .ok (.aload_n 0, 1) := by decide +kernel
theorem dd_Ou_takeGrant_51 : decode prog_6_method_5_code 51 = .ok (.iload 4, 2) := by decide +kernel
theorem dd_Ou_takeGrant_53 : decode prog_6_method_5_code 53 = .ok (.invokevirtual 73, 3) := by decide +kernel
theorem dd_Ou_takeGrant_56 : decode prog_6_method_5_code 56 = .ok (.iinc 4 1, 3) := by decide +kernel
theorem dd_Ou_takeGrant_59 : decode prog_6_method_5_code 59 = .ok (.goto (-15), 3) := by decide +kernel
theorem dd_Ou_takeGrant_62 : decode prog_6_method_5_code 62 = .ok (.aload_n 0, 1) := by decide +kernel
theorem dd_Ou_takeGrant_63 : decode prog_6_method_5_code 63 = .ok (.iconst 2, 1) := by decide +kernel
theorem dd_Ou_takeGrant_64 : decode prog_6_method_5_code 64 = .ok (.putfield 9, 3) := by decide +kernel
theorem dd_Ou_takeGrant_67 : decode prog_6_method_5_code 67 = .ok (.aload_n 0, 1) := by decide +kernel
theorem dd_Ou_takeGrant_68 : decode prog_6_method_5_code 68 = .ok (.aload_n 0, 1) := by decide +kernel
theorem dd_Ou_takeGrant_69 : decode prog_6_method_5_code 69 = .ok (.getfield 21, 3) := by decide +kernel
theorem dd_Ou_takeGrant_72 : decode prog_6_method_5_code 72 = .ok (.getfield 55, 3) := by decide +kernel
theorem dd_Ou_takeGrant_75 : decode prog_6_method_5_code 75 = .ok (.ldc2_w 77, 3) := by decide +kernel
theorem dd_Ou_takeGrant_78 : decode prog_6_method_5_code 78 = .ok (.ladd, 1) := by decide +kernel
theorem dd_Ou_takeGrant_79 : decode prog_6_method_5_code 79 = .ok (.putfield 17, 3) := by decide +kernel
theorem dd_Ou_takeGrant_82 : decode prog_6_method_5_code 82 = .ok (.return_, 1) := by decide +kernel
theorem dd_Ou_goOff_0 : decode prog_6_method_6_code 0 = .ok (.aload_n 0, 1) := by decide +kernel
theorem dd_Ou_goOff_1 : decode prog_6_method_6_code 1 = .ok (.getfield 9, 3) := by decide +kernel
theorem dd_Ou_goOff_4 : decode prog_6_method_6_code 4 = .ok (.iconst 1, 1) := by decide +kernel
theorem dd_Ou_goOff_5 : decode prog_6_method_6_code 5 = .ok (.if_icmp .ne 10, 3) := by decide +kernel
theorem dd_Ou_goOff_8 : decode prog_6_method_6_code 8 = .ok (.aload_n 0, 1) := by decide +kernel
theorem dd_Ou_goOff_9 : decode prog_6_method_6_code 9 = .ok (.invokevirtual 79, 3) := by decide +kernel
theorem dd_Ou_goOff_12 : decode prog_6_method_6_code 12 = .ok (.goto 34, 3) := by decide +kernel
theorem dd_Ou_goOff_15 : decode prog_6_method_6_code 15 = .ok (.aload_n 0, 1) := by decide +kernel
theorem dd_Ou_goOff_16 : decode prog_6_method_6_code 16 = .ok (.getfield 21, 3) := by decide +kernel
theorem dd_Ou_goOff_19 : decode prog_6_method_6_code 19 = .ok (.aload_n 0, 1) := by decide +kernel
theorem dd_Ou_goOff_20 : decode prog_6_method_6_code 20 = .ok (.getfield 25, 3) := by decide +kernel
theorem dd_Ou_goOff_23 : decode prog_6_method_6_code 23 = .ok (.ldc 44, 2) := by decide +kernel
theorem dd_Ou_goOff_25 : decode prog_6_method_6_code 25 = .ok (.aload_n 0, 1) := by decide +kernel
theorem dd_Ou_goOff_26 : decode prog_6_method_6_code 26 = .ok (.getfield 29, 3) := by decide +kernel
theorem dd_Ou_goOff_29 : decode prog_6_method_6_code 29 = .ok (.iconst 3, 1) := by decide +kernel
theorem dd_Ou_goOff_30 : decode prog_6_method_6_code 30 = .ok (.aload_n 0, 1) := by decide +kernel
theorem dd_Ou_goOff_31 : decode prog_6_method_6_code 31 = .ok (.getfield 32, 3) := by decide +kernel
theorem dd_Ou_goOff_34 : decode prog_6_method_6_code 34 = .ok (.invokestatic 82, 3) := by decide +kernel
theorem dd_Ou_goOff_37 : decode prog_6_method_6_code 37 = .ok (.invokevirtual 49, 3) := by decide +kernel
theorem dd_Ou_goOff_40 : decode prog_6_method_6_code 40 = .ok (.aload_n 0, 1) := by decide +kernel
theorem dd_Ou_goOff_41 : decode prog_6_method_6_code 41 = .ok (.bipush 11, 2) := by decide +kernel
theorem dd_Ou_goOff_43 : decode prog_6_method_6_code 43 = .ok (.invokevirtual 86, 3) := by decide +kernel
theorem dd_Ou_goOff_46 : decode prog_6_method_6_code 46 = .ok (.return_, 1) := by decide +kernel
theorem dd_Ou_sendNextToAll_0 : decode prog_6_method_7_code 0 = .ok (.aload_n 0, 1) := by decide +kernel
theorem dd_Ou_sendNextToAll_1 : decode prog_6_method_7_code 1 = .ok (.aload_n 0, 1) := by decide +kernel
theorem dd_Ou_sendNextToAll_2 : decode prog_6_method_7_code 2 = .ok (.getfield 41, 3) := by decide +kernel
theorem dd_Ou_sendNextToAll_5 : decode prog_6_method_7_code 5 = .ok (.invokevirtual 73, 3) := by decide +kernel
theorem dd_Ou_sendNextToAll_8 : decode prog_6_method_7_code 8 = .ok (.aload_n 0, 1) := by decide +kernel
theorem dd_Ou_sendNextToAll_9 : decode prog_6_method_7_code 9 = .ok (.dup, 1) := by decide +kernel
theorem dd_Ou_sendNextToAll_10 : decode prog_6_method_7_code 10 = .ok (.getfield 41, 3) := by decide +kernel
theorem dd_Ou_sendNextToAll_13 : decode prog_6_method_7_code 13 = .ok (.iconst 1, 1) := by decide +kernel
theorem dd_Ou_sendNextToAll_14 : decode prog_6_method_7_code 14 = .ok (.iadd, 1) := by decide +kernel
theorem dd_Ou_sendNextToAll_15 : decode prog_6_method_7_code 15 = .ok (.putfield 41, 3) := by decide +kernel
theorem dd_Ou_sendNextToAll_18 : decode prog_6_method_7_code 18 = .ok (.aload_n 0, 1) := by decide +kernel
theorem dd_Ou_sendNextToAll_19 : decode prog_6_method_7_code 19 = .ok (.getfield 41, 3) := by decide +kernel
theorem dd_Ou_sendNextToAll_22 : decode prog_6_method_7_code 22 = .ok (.aload_n 0, 1) := by decide +kernel
theorem dd_Ou_sendNextToAll_23 : decode prog_6_method_7_code 23 = .ok (.getfield 35, 3) := by decide +kernel
theorem dd_Ou_sendNextToAll_26 : decode prog_6_method_7_code 26 = .ok (.invokestatic 63, 3) := by decide +kernel
theorem dd_Ou_sendNextToAll_29 : decode prog_6_method_7_code 29 = .ok (.if_icmp .le 12, 3) := by decide +kernel
theorem dd_Ou_sendNextToAll_32 : decode prog_6_method_7_code 32 = .ok (.aload_n 0, 1) := by decide +kernel
theorem dd_Ou_sendNextToAll_33 : decode prog_6_method_7_code 33 = .ok (.bipush 10, 2) := by decide +kernel
theorem dd_Ou_sendNextToAll_35 : decode prog_6_method_7_code 35 = .ok (.invokevirtual 86, 3) := by decide +kernel
theorem dd_Ou_sendNextToAll_38 : decode prog_6_method_7_code 38 = .ok (.goto 18, 3) := by decide +kernel
theorem dd_Ou_sendNextToAll_41 : decode prog_6_method_7_code 41 = .ok (.aload_n 0, 1) := by decide +kernel
theorem dd_Ou_sendNextToAll_42 : decode prog_6_method_7_code 42 = .ok (.aload_n 0, 1) := by decide +kernel
theorem dd_Ou_sendNextToAll_43 : decode prog_6_method_7_code 43 = .ok (.getfield 21, 3) := by decide +kernel
theorem dd_Ou_sendNextToAll_46 : decode prog_6_method_7_code 46 = .ok (.getfield 55, 3) := by decide +kernel
theorem dd_Ou_sendNextToAll_49 : decode prog_6_method_7_code 49 = .ok (.ldc2_w 89, 3) := by decide +kernel
theorem dd_Ou_sendNextToAll_52 : decode prog_6_method_7_code 52 = .ok (.ladd, 1) := by decide +kernel
theorem dd_Ou_sendNextToAll_53 : decode prog_6_method_7_code 53 = .ok (.putfield 17, 3) := by decide +kernel
theorem dd_Ou_sendNextToAll_56 : decode prog_6_method_7_code 56 = .ok (.return_, 1) := by decide +kernel
theorem dd_Ou_sendPacket_0 : decode prog_6_method_8_code 0 = .ok (.iload_n 1, 1) := by decide +kernel
theorem dd_Ou_sendPacket_1 : decode prog_6_method_8_code 1 = .ok (.i2l, 1) := by decide +kernel
theorem dd_Ou_sendPacket_2 : decode prog_6_method_8_code 2 = .ok (.lstore_n 2, 1) := by decide +kernel
theorem dd_Ou_sendPacket_3 : decode prog_6_method_8_code 3 = .ok (.iconst 0, 1) := by decide +kernel
theorem dd_Ou_sendPacket_4 : decode prog_6_method_8_code 4 = .ok (.istore 4, 2) := by decide +kernel
theorem dd_Ou_sendPacket_6 : decode prog_6_method_8_code 6 = .ok (.iload 4, 2) := by decide +kernel
theorem dd_Ou_sendPacket_8 : decode prog_6_method_8_code 8 = .ok (.bipush 7, 2) := by decide +kernel
theorem dd_Ou_sendPacket_10 : decode prog_6_method_8_code 10 = .ok (.if_icmp .ge 71, 3) := by decide +kernel
theorem dd_Ou_sendPacket_13 : decode prog_6_method_8_code 13 = .ok (.bipush 7, 2) := by decide +kernel
theorem dd_Ou_sendPacket_15 : decode prog_6_method_8_code 15 = .ok (.iload_n 1, 1) := by decide +kernel
theorem dd_Ou_sendPacket_16 : decode prog_6_method_8_code 16 = .ok (.iconst 1, 1) := by decide +kernel
theorem dd_Ou_sendPacket_17 : decode prog_6_method_8_code 17 = .ok (.isub, 1) := by decide +kernel
theorem dd_Ou_sendPacket_18 : decode prog_6_method_8_code 18 = .ok (.imul, 1) := by decide +kernel
theorem dd_Ou_sendPacket_19 : decode prog_6_method_8_code 19 = .ok (.iload 4, 2) := by decide +kernel
theorem dd_Ou_sendPacket_21 : decode prog_6_method_8_code 21 = .ok (.iadd, 1) := by decide +kernel
theorem dd_Ou_sendPacket_22 : decode prog_6_method_8_code 22 = .ok (.istore 5, 2) := by decide +kernel
theorem dd_Ou_sendPacket_24 : decode prog_6_method_8_code 24 = .ok (.iload 5, 2) := by decide +kernel
theorem dd_Ou_sendPacket_26 : decode prog_6_method_8_code 26 = .ok (.aload_n 0, 1) := by decide +kernel
theorem dd_Ou_sendPacket_27 : decode prog_6_method_8_code 27 = .ok (.getfield 35, 3) := by decide +kernel
theorem dd_Ou_sendPacket_30 : decode prog_6_method_8_code 30 = .ok (.if_icmp .ge 27, 3) := by decide +kernel
theorem dd_Ou_sendPacket_33 : decode prog_6_method_8_code 33 = .ok (.aload_n 0, 1) := by decide +kernel
theorem dd_Ou_sendPacket_34 : decode prog_6_method_8_code 34 = .ok (.getfield 38, 3) := by decide +kernel
theorem dd_Ou_sendPacket_37 : decode prog_6_method_8_code 37 = .ok (.bipush 8, 2) := by decide +kernel
theorem dd_Ou_sendPacket_39 : decode prog_6_method_8_code 39 = .ok (.iload 5, 2) := by decide +kernel
theorem dd_Ou_sendPacket_41 : decode prog_6_method_8_code 41 = .ok (.bipush 8, 2) := by decide +kernel
theorem dd_Ou_sendPacket_43 : decode prog_6_method_8_code 43 = .ok (.irem, 1) := by decide +kernel
theorem dd_Ou_sendPacket_44 : decode prog_6_method_8_code 44 = .ok (.imul, 1) := by decide +kernel
theorem dd_Ou_sendPacket_45 : decode prog_6_method_8_code 45 = .ok (.lshr, 1) := by decide +kernel
theorem dd_Ou_sendPacket_46 : decode prog_6_method_8_code 46 = .ok (.iload 5, 2) := by decide +kernel
theorem dd_Ou_sendPacket_48 : decode prog_6_method_8_code 48 = .ok (.i2l, 1) := by decide +kernel
theorem dd_Ou_sendPacket_49 : decode prog_6_method_8_code 49 = .ok (.ladd, 1) := by decide +kernel
theorem dd_Ou_sendPacket_50 : decode prog_6_method_8_code 50 = .ok (.ldc2_w 91, 3) := by decide +kernel
theorem dd_Ou_sendPacket_53 : decode prog_6_method_8_code 53 = .ok (.land, 1) := by decide +kernel
theorem dd_Ou_sendPacket_54 : decode prog_6_method_8_code 54 = .ok (.goto 6, 3) := by decide +kernel
theorem dd_Ou_sendPacket_57 : decode prog_6_method_8_code 57 = .ok (.ldc2_w 91, 3) := by decide +kernel
theorem dd_Ou_sendPacket_60 : decode prog_6_method_8_code 60 = .ok (.lstore 6, 2) := by decide +kernel
theorem dd_Ou_sendPacket_62 : decode prog_6_method_8_code 62 = .ok (.lload_n 2, 1) := by decide +kernel
theorem dd_Ou_sendPacket_63 : decode prog_6_method_8_code 63 = .ok (.lload 6, 2) := by decide +kernel
theorem dd_Ou_sendPacket_65 : decode prog_6_method_8_code 65 = .ok (.bipush 8, 2) := by decide +kernel
theorem dd_Ou_sendPacket_67 : decode prog_6_method_8_code 67 = .ok (.iload 4, 2) := by decide +kernel
theorem dd_Ou_sendPacket_69 : decode prog_6_method_8_code 69 = .ok (.iconst 1, 1) := by decide +kernel
theorem dd_Ou_sendPacket_70 : decode prog_6_method_8_code 70 = .ok (.iadd, 1) := by decide +kernel
theorem dd_Ou_sendPacket_71 : decode prog_6_method_8_code 71 = .ok (.imul, 1) := by decide +kernel
theorem dd_Ou_sendPacket_72 : decode prog_6_method_8_code 72 = .ok (.lshl, 1) := by decide +kernel
theorem dd_Ou_sendPacket_73 : decode prog_6_method_8_code 73 = .ok (.ladd, 1) := by decide +kernel
theorem dd_Ou_sendPacket_74 : decode prog_6_method_8_code 74 = .ok (.lstore_n 2, 1) := by decide +kernel
theorem dd_Ou_sendPacket_75 : decode prog_6_method_8_code 75 = .ok (.iinc 4 1, 3) := by decide +kernel
theorem dd_Ou_sendPacket_78 : decode prog_6_method_8_code 78 = .ok (.goto (-72), 3) := by decide +kernel
theorem dd_Ou_sendPacket_81 : decode prog_6_method_8_code 81 = .ok (.aload_n 0, 1) := by decide +kernel
theorem dd_Ou_sendPacket_82 : decode prog_6_method_8_code 82 = .ok (.getfield 21, 3) := by decide +kernel
theorem dd_Ou_sendPacket_85 : decode prog_6_method_8_code 85 = .ok (.aload_n 0, 1) := by decide +kernel
theorem dd_Ou_sendPacket_86 : decode prog_6_method_8_code 86 = .ok (.getfield 25, 3) := by decide +kernel
theorem dd_Ou_sendPacket_89 : decode prog_6_method_8_code 89 = .ok (.ldc 93, 2) := by decide +kernel
theorem dd_Ou_sendPacket_91 : decode prog_6_method_8_code 91 = .ok (.aload_n 0, 1) := by decide +kernel
theorem dd_Ou_sendPacket_92 : decode prog_6_method_8_code 92 = .ok (.getfield 29, 3) := by decide +kernel
theorem dd_Ou_sendPacket_95 : decode prog_6_method_8_code 95 = .ok (.lload_n 2, 1) := by decide +kernel
theorem dd_Ou_sendPacket_96 : decode prog_6_method_8_code 96 = .ok (.invokevirtual 49, 3) := by decide +kernel
theorem dd_Ou_sendPacket_99 : decode prog_6_method_8_code 99 = .ok (.return_, 1) := by decide +kernel
theorem dd_In_init_0 : decode prog_4_method_1_code 0 = .ok (.aload_n 0, 1) := by decide +kernel
theorem dd_In_init_1 : decode prog_4_method_1_code 1 = .ok (.invokespecial 3, 3) := by decide +kernel
theorem dd_In_init_4 : decode prog_4_method_1_code 4 = .ok (.aload_n 0, 1) := by decide +kernel
theorem dd_In_init_5 : decode prog_4_method_1_code 5 = .ok (.new 9, 3) := by decide +kernel
theorem dd_In_init_8 : decode prog_4_method_1_code 8 = .ok (.dup, 1) := by decide +kernel
theorem dd_In_init_9 : decode prog_4_method_1_code 9 = .ok (.invokespecial 11, 3) := by decide +kernel
theorem dd_In_init_12 : decode prog_4_method_1_code 12 = .ok (.putfield 12, 3) := by decide +kernel
theorem dd_In_init_15 : decode prog_4_method_1_code 15 = .ok (.aload_n 0, 1) := by decide +kernel
theorem dd_In_init_16 : decode prog_4_method_1_code 16 = .ok (.ldc2_w 18, 3) := by decide +kernel
theorem dd_In_init_19 : decode prog_4_method_1_code 19 = .ok (.putfield 20, 3) := by decide +kernel
theorem dd_In_init_22 : decode prog_4_method_1_code 22 = .ok (.aload_n 0, 1) := by decide +kernel
theorem dd_In_init_23 : decode prog_4_method_1_code 23 = .ok (.aload_n 1, 1) := by decide +kernel
theorem dd_In_init_24 : decode prog_4_method_1_code 24 = .ok (.putfield 24, 3) := by decide +kernel
theorem dd_In_init_27 : decode prog_4_method_1_code 27 = .ok (.aload_n 0, 1) := by decide +kernel
theorem dd_In_init_28 : decode prog_4_method_1_code 28 = .ok (.aload_n 2, 1) := by decide +kernel
theorem dd_In_init_29 : decode prog_4_method_1_code 29 = .ok (.putfield 28, 3) := by decide +kernel
theorem dd_In_init_32 : decode prog_4_method_1_code 32 = .ok (.return_, 1) := by decide +kernel
theorem dd_In_begin_0 : decode prog_4_method_2_code 0 = .ok (.aload_n 0, 1) := by decide +kernel
theorem dd_In_begin_1 : decode prog_4_method_2_code 1 = .ok (.getfield 12, 3) := by decide +kernel
theorem dd_In_begin_4 : decode prog_4_method_2_code 4 = .ok (.iload_n 1, 1) := by decide +kernel
theorem dd_In_begin_5 : decode prog_4_method_2_code 5 = .ok (.putfield 32, 3) := by decide +kernel
theorem dd_In_begin_8 : decode prog_4_method_2_code 8 = .ok (.aload_n 0, 1) := by decide +kernel
theorem dd_In_begin_9 : decode prog_4_method_2_code 9 = .ok (.getfield 12, 3) := by decide +kernel
theorem dd_In_begin_12 : decode prog_4_method_2_code 12 = .ok (.iload_n 2, 1) := by decide +kernel
theorem dd_In_begin_13 : decode prog_4_method_2_code 13 = .ok (.putfield 36, 3) := by decide +kernel
theorem dd_In_begin_16 : decode prog_4_method_2_code 16 = .ok (.aload_n 0, 1) := by decide +kernel
theorem dd_In_begin_17 : decode prog_4_method_2_code 17 = .ok (.getfield 12, 3) := by decide +kernel
theorem dd_In_begin_20 : decode prog_4_method_2_code 20 = .ok (.iload_n 3, 1) := by decide +kernel
theorem dd_In_begin_21 : decode prog_4_method_2_code 21 = .ok (.putfield 39, 3) := by decide +kernel
theorem dd_In_begin_24 : decode prog_4_method_2_code 24 = .ok (.aload_n 0, 1) := by decide +kernel
theorem dd_In_begin_25 : decode prog_4_method_2_code 25 = .ok (.getfield 12, 3) := by decide +kernel
theorem dd_In_begin_28 : decode prog_4_method_2_code 28 = .ok (.iload 4, 2) := by decide +kernel
theorem dd_In_begin_30 : decode prog_4_method_2_code 30 = .ok (.putfield 42, 3) := by decide +kernel
theorem dd_In_begin_33 : decode prog_4_method_2_code 33 = .ok (.aload_n 0, 1) := by decide +kernel
theorem dd_In_begin_34 : decode prog_4_method_2_code 34 = .ok (.iconst 1, 1) := by decide +kernel
theorem dd_In_begin_35 : decode prog_4_method_2_code 35 = .ok (.putfield 46, 3) := by decide +kernel
theorem dd_In_begin_38 : decode prog_4_method_2_code 38 = .ok (.aload_n 0, 1) := by decide +kernel
theorem dd_In_begin_39 : decode prog_4_method_2_code 39 = .ok (.iconst 1, 1) := by decide +kernel
theorem dd_In_begin_40 : decode prog_4_method_2_code 40 = .ok (.putfield 49, 3) := by decide +kernel
theorem dd_In_begin_43 : decode prog_4_method_2_code 43 = .ok (.aload_n 0, 1) := by decide +kernel
theorem dd_In_begin_44 : decode prog_4_method_2_code 44 = .ok (.iconst 0, 1) := by decide +kernel
theorem dd_In_begin_45 : decode prog_4_method_2_code 45 = .ok (.putfield 52, 3) := by decide +kernel
theorem dd_In_begin_48 : decode prog_4_method_2_code 48 = .ok (.iload 4, 2) := by decide +kernel
theorem dd_In_begin_50 : decode prog_4_method_2_code 50 = .ok (.ifCond .eq 21, 3) := by decide +kernel
theorem dd_In_begin_53 : decode prog_4_method_2_code 53 = .ok (.aload_n 0, 1) := by decide +kernel
theorem dd_In_begin_54 : decode prog_4_method_2_code 54 = .ok (.aload_n 0, 1) := by decide +kernel
theorem dd_In_begin_55 : decode prog_4_method_2_code 55 = .ok (.getfield 24, 3) := by decide +kernel
theorem dd_In_begin_58 : decode prog_4_method_2_code 58 = .ok (.getfield 55, 3) := by decide +kernel
theorem dd_In_begin_61 : decode prog_4_method_2_code 61 = .ok (.ldc2_w 60, 3) := by decide +kernel
theorem dd_In_begin_64 : decode prog_4_method_2_code 64 = .ok (.ladd, 1) := by decide +kernel
theorem dd_In_begin_65 : decode prog_4_method_2_code 65 = .ok (.putfield 20, 3) := by decide +kernel
theorem dd_In_begin_68 : decode prog_4_method_2_code 68 = .ok (.goto 7, 3) := by decide +kernel
theorem dd_In_begin_71 : decode prog_4_method_2_code 71 = .ok (.aload_n 0, 1) := by decide +kernel
theorem dd_In_begin_72 : decode prog_4_method_2_code 72 = .ok (.invokevirtual 62, 3) := by decide +kernel
theorem dd_In_begin_75 : decode prog_4_method_2_code 75 = .ok (.return_, 1) := by decide +kernel
theorem dd_In_end_0 : decode prog_4_method_3_code 0 = .ok (.aload_n 0, 1) := by decide +kernel
theorem dd_In_end_1 : decode prog_4_method_3_code 1 = .ok (.iconst 0, 1) := by decide +kernel
theorem dd_In_end_2 : decode prog_4_method_3_code 2 = .ok (.putfield 46, 3) := by decide +kernel
theorem dd_In_end_5 : decode prog_4_method_3_code 5 = .ok (.aload_n 0, 1) := by decide +kernel
theorem dd_In_end_6 : decode prog_4_method_3_code 6 = .ok (.ldc2_w 18, 3) := by decide +kernel
theorem dd_In_end_9 : decode prog_4_method_3_code 9 = .ok (.putfield 20, 3) := by decide +kernel
theorem dd_In_end_12 : decode prog_4_method_3_code 12 = .ok (.return_, 1) := by decide +kernel
theorem dd_In_isFrom_0 : decode prog_4_method_4_code 0 = .ok (.aload_n 0, 1) := by decide +kernel
theorem dd_In_isFrom_1 : decode prog_4_method_4_code 1 = .ok (.getfield 46, 3) := by decide +kernel
theorem dd_In_isFrom_4 : decode prog_4_method_4_code 4 = .ok (.ifCond .eq 29, 3) := by decide +kernel
theorem dd_In_isFrom_7 : decode prog_4_method_4_code 7 = .ok (.aload_n 0, 1) := by decide +kernel
theorem dd_In_isFrom_8 : decode prog_4_method_4_code 8 = .ok (.getfield 12, 3) := by decide +kernel
theorem dd_In_isFrom_11 : decode prog_4_method_4_code 11 = .ok (.getfield 32, 3) := by decide +kernel
theorem dd_In_isFrom_14 : decode prog_4_method_4_code 14 = .ok (.iload_n 1, 1) := by decide +kernel
theorem dd_In_isFrom_15 : decode prog_4_method_4_code 15 = .ok (.if_icmp .ne 18, 3) := by decide +kernel
theorem dd_In_isFrom_18 : decode prog_4_method_4_code 18 = .ok (.aload_n 0, 1) := by decide +kernel
theorem dd_In_isFrom_19 : decode prog_4_method_4_code 19 = .ok (.getfield 12, 3) := by decide +kernel
theorem dd_In_isFrom_22 : decode prog_4_method_4_code 22 = .ok (.getfield 42, 3) := by decide +kernel
theorem dd_In_isFrom_25 : decode prog_4_method_4_code 25 = .ok (.iload_n 2, 1) := by decide +kernel
theorem dd_In_isFrom_26 : decode prog_4_method_4_code 26 = .ok (.if_icmp .ne 7, 3) := by decide +kernel
theorem dd_In_isFrom_29 : decode prog_4_method_4_code 29 = .ok (.iconst 1, 1) := by decide +kernel
theorem dd_In_isFrom_30 : decode prog_4_method_4_code 30 = .ok (.goto 4, 3) := by decide +kernel
theorem dd_In_isFrom_33 : decode prog_4_method_4_code 33 = .ok (.iconst 0, 1) := by decide +kernel
theorem dd_In_isFrom_34 : decode prog_4_method_4_code 34 = .ok (.ireturn, 1) := by decide +kernel
theorem dd_In_goOff_0 : decode prog_4_method_5_code 0 = .ok (.aload_n 0, 1) := by decide +kernel
theorem dd_In_goOff_1 : decode prog_4_method_5_code 1 = .ok (.getfield 12, 3) := by decide +kernel
theorem dd_In_goOff_4 : decode prog_4_method_5_code 4 = .ok (.getfield 42, 3) := by decide +kernel
theorem dd_In_goOff_7 : decode prog_4_method_5_code 7 = .ok (.ifCond .eq 10, 3) := by decide +kernel
theorem dd_In_goOff_10 : decode prog_4_method_5_code 10 = .ok (.aload_n 0, 1) := by decide +kernel
theorem dd_In_goOff_11 : decode prog_4_method_5_code 11 = .ok (.invokevirtual 65, 3) := by decide +kernel
theorem dd_In_goOff_14 : decode prog_4_method_5_code 14 = .ok (.goto 22, 3) := by decide +kernel
theorem dd_In_goOff_17 : decode prog_4_method_5_code 17 = .ok (.aload_n 0, 1) := by decide +kernel
theorem dd_In_goOff_18 : decode prog_4_method_5_code 18 = .ok (.getfield 68, 3) := by decide +kernel
theorem dd_In_goOff_21 : decode prog_4_method_5_code 21 = .ok (.ifCond .eq 10, 3) := by decide +kernel
theorem dd_In_goOff_24 : decode prog_4_method_5_code 24 = .ok (.aload_n 0, 1) := by decide +kernel
theorem dd_In_goOff_25 : decode prog_4_method_5_code 25 = .ok (.invokevirtual 62, 3) := by decide +kernel
theorem dd_In_goOff_28 : decode prog_4_method_5_code 28 = .ok (.goto 8, 3) := by decide +kernel
theorem dd_In_goOff_31 : decode prog_4_method_5_code 31 = .ok (.aload_n 0, 1) := by decide +kernel
theorem dd_In_goOff_32 : decode prog_4_method_5_code 32 = .ok (.iconst 3, 1) := by decide +kernel
theorem dd_In_goOff_33 : decode prog_4_method_5_code 33 = .ok (.invokevirtual 71, 3) := by decide +kernel
theorem dd_In_goOff_36 : decode prog_4_method_5_code 36 = .ok (.return_, 1) := by decide +kernel
theorem dd_In_takeToAll_0 : decode prog_4_method_6_code 0 = .ok (.lload_n 1, 1) := by decide +kernel
theorem dd_In_takeToAll_1 : decode prog_4_method_6_code 1 = .ok (.iconst 1, 1) := by decide +kernel
theorem dd_In_takeToAll_2 : decode prog_4_method_6_code 2 = .ok (.invokestatic 75, 3) := by decide +kernel
theorem dd_In_takeToAll_5 : decode prog_4_method_6_code 5 = .ok (.istore_n 3, 1) := by decide +kernel
theorem dd_In_takeToAll_6 : decode prog_4_method_6_code 6 = .ok (.iload_n 3, 1) := by decide +kernel
theorem dd_In_takeToAll_7 : decode prog_4_method_6_code 7 = .ok (.aload_n 0, 1) := by decide +kernel
theorem dd_In_takeToAll_8 : decode prog_4_method_6_code 8 = .ok (.getfield 49, 3) := by decide +kernel
theorem dd_In_takeToAll_11 : decode prog_4_method_6_code 11 = .ok (.if_icmp .eq 17, 3) := by decide +kernel
theorem dd_In_takeToAll_14 : decode prog_4_method_6_code 14 = .ok (.iload_n 3, 1) := by decide +kernel
theorem dd_In_takeToAll_15 : decode prog_4_method_6_code 15 = .ok (.aload_n 0, 1) := by decide +kernel
theorem dd_In_takeToAll_16 : decode prog_4_method_6_code 16 = .ok (.getfield 49, 3) := by decide +kernel
theorem dd_In_takeToAll_19 : decode prog_4_method_6_code 19 = .ok (.if_icmp .le 7, 3) := by decide +kernel
theorem dd_In_takeToAll_22 : decode prog_4_method_6_code 22 = .ok (.aload_n 0, 1) := by decide +kernel
theorem dd_In_takeToAll_23 : decode prog_4_method_6_code 23 = .ok (.invokevirtual 65, 3) := by decide +kernel
theorem dd_In_takeToAll_26 : decode prog_4_method_6_code 26 = .ok (.iconst 0, 1) := by decide +kernel
theorem dd_In_takeToAll_27 : decode prog_4_method_6_code 27 = .ok (.ireturn, 1) := by decide +kernel
theorem dd_In_takeToAll_28 : decode prog_4_method_6_code 28 = .ok (.aload_n 0, 1) := by decide +kernel
theorem dd_In_takeToAll_29 : decode prog_4_method_6_code 29 = .ok (.lload_n 1, 1) := by decide +kernel
theorem dd_In_takeToAll_30 : decode prog_4_method_6_code 30 = .ok (.invokevirtual 79, 3) := by decide +kernel
theorem dd_In_takeToAll_33 : decode prog_4_method_6_code 33 = .ok (.aload_n 0, 1) := by decide +kernel
theorem dd_In_takeToAll_34 : decode prog_4_method_6_code 34 = .ok (.invokevirtual 83, 3) := by decide +kernel
theorem dd_In_takeToAll_37 : decode prog_4_method_6_code 37 = .ok (.ifCond .eq 9, 3) := by decide +kernel
theorem dd_In_takeToAll_40 : decode prog_4_method_6_code 40 = .ok (.aload_n 0, 1) := by decide +kernel
theorem dd_In_takeToAll_41 : decode prog_4_method_6_code 41 = .ok (.invokevirtual 65, 3) := by decide +kernel
theorem dd_In_takeToAll_44 : decode prog_4_method_6_code 44 = .ok (.iconst 1, 1) := by decide +kernel
theorem dd_In_takeToAll_45 : decode prog_4_method_6_code 45 = .ok (.ireturn, 1) := by decide +kernel
theorem dd_In_takeToAll_46 : decode prog_4_method_6_code 46 = .ok (.aload_n 0, 1) := by decide +kernel
theorem dd_In_takeToAll_47 : decode prog_4_method_6_code 47 = .ok (.aload_n 0, 1) := by decide +kernel
theorem dd_In_takeToAll_48 : decode prog_4_method_6_code 48 = .ok (.getfield 24, 3) := by decide +kernel
theorem dd_In_takeToAll_51 : decode prog_4_method_6_code 51 = .ok (.getfield 55, 3) := by decide +kernel
theorem dd_In_takeToAll_54 : decode prog_4_method_6_code 54 = .ok (.ldc2_w 60, 3) := by decide +kernel
theorem dd_In_takeToAll_57 : decode prog_4_method_6_code 57 = .ok (.ladd, 1) := by decide +kernel
theorem dd_In_takeToAll_58 : decode prog_4_method_6_code 58 = .ok (.putfield 20, 3) := by decide +kernel
theorem dd_In_takeToAll_61 : decode prog_4_method_6_code 61 = .ok (.iconst 0, 1) := by decide +kernel
theorem dd_In_takeToAll_62 : decode prog_4_method_6_code 62 = .ok (.ireturn, 1) := by decide +kernel
theorem dd_In_takeDirected_0 : decode prog_4_method_7_code 0 = .ok (.lload_n 1, 1) := by decide +kernel
theorem dd_In_takeDirected_1 : decode prog_4_method_7_code 1 = .ok (.iconst 1, 1) := by decide +kernel
theorem dd_In_takeDirected_2 : decode prog_4_method_7_code 2 = .ok (.invokestatic 75, 3) := by decide +kernel
theorem dd_In_takeDirected_5 : decode prog_4_method_7_code 5 = .ok (.istore_n 3, 1) := by decide +kernel
theorem dd_In_takeDirected_6 : decode prog_4_method_7_code 6 = .ok (.iload_n 3, 1) := by decide +kernel
theorem dd_In_takeDirected_7 : decode prog_4_method_7_code 7 = .ok (.aload_n 0, 1) := by decide +kernel
theorem dd_In_takeDirected_8 : decode prog_4_method_7_code 8 = .ok (.getfield 49, 3) := by decide +kernel
theorem dd_In_takeDirected_11 : decode prog_4_method_7_code 11 = .ok (.if_icmp .ne 11, 3) := by decide +kernel
theorem dd_In_takeDirected_14 : decode prog_4_method_7_code 14 = .ok (.iload_n 3, 1) := by decide +kernel
theorem dd_In_takeDirected_15 : decode prog_4_method_7_code 15 = .ok (.aload_n 0, 1) := by decide +kernel
theorem dd_In_takeDirected_16 : decode prog_4_method_7_code 16 = .ok (.getfield 87, 3) := by decide +kernel
theorem dd_In_takeDirected_19 : decode prog_4_method_7_code 19 = .ok (.if_icmp .le 26, 3) := by decide +kernel
theorem dd_In_takeDirected_22 : decode prog_4_method_7_code 22 = .ok (.iload_n 3, 1) := by decide +kernel
theorem dd_In_takeDirected_23 : decode prog_4_method_7_code 23 = .ok (.aload_n 0, 1) := by decide +kernel
theorem dd_In_takeDirected_24 : decode prog_4_method_7_code 24 = .ok (.getfield 87, 3) := by decide +kernel
theorem dd_In_takeDirected_27 : decode prog_4_method_7_code 27 = .ok (.if_icmp .ne 16, 3) := by decide +kernel
theorem dd_In_takeDirected_30 : decode prog_4_method_7_code 30 = .ok (.iload_n 3, 1) := by decide +kernel
theorem dd_In_takeDirected_31 : decode prog_4_method_7_code 31 = .ok (.aload_n 0, 1) := by decide +kernel
theorem dd_In_takeDirected_32 : decode prog_4_method_7_code 32 = .ok (.getfield 49, 3) := by decide +kernel
theorem dd_In_takeDirected_35 : decode prog_4_method_7_code 35 = .ok (.if_icmp .le 8, 3) := by decide +kernel
theorem dd_In_takeDirected_38 : decode prog_4_method_7_code 38 = .ok (.aload_n 0, 1) := by decide +kernel
theorem dd_In_takeDirected_39 : decode prog_4_method_7_code 39 = .ok (.iconst 5, 1) := by decide +kernel
theorem dd_In_takeDirected_40 : decode prog_4_method_7_code 40 = .ok (.invokevirtual 71, 3) := by decide +kernel
theorem dd_In_takeDirected_43 : decode prog_4_method_7_code 43 = .ok (.iconst 0, 1) := by decide +kernel
theorem dd_In_takeDirected_44 : decode prog_4_method_7_code 44 = .ok (.ireturn, 1) := by decide +kernel
theorem dd_In_takeDirected_45 : decode prog_4_method_7_code 45 = .ok (.aload_n 0, 1) := by decide +kernel
theorem dd_In_takeDirected_46 : decode prog_4_method_7_code 46 = .ok (.lload_n 1, 1) := by decide +kernel
theorem dd_In_takeDirected_47 : decode prog_4_method_7_code 47 = .ok (.invokevirtual 79, 3) := by decide +kernel
theorem dd_In_takeDirected_50 : decode prog_4_method_7_code 50 = .ok (.aload_n 0, 1) := by decide +kernel
theorem dd_In_takeDirected_51 : decode prog_4_method_7_code 51 = .ok (.invokevirtual 83, 3) := by decide +kernel
theorem dd_In_takeDirected_54 : decode prog_4_method_7_code 54 = .ok (.ifCond .eq 48, 3) := by decide +kernel
theorem dd_In_takeDirected_57 : decode prog_4_method_7_code 57 = .ok (.aload_n 0, 1) := by decide +kernel
theorem dd_In_takeDirected_58 : decode prog_4_method_7_code 58 = .ok (.getfield 24, 3) := by decide +kernel
theorem dd_In_takeDirected_61 : decode prog_4_method_7_code 61 = .ok (.aload_n 0, 1) := by decide +kernel
theorem dd_In_takeDirected_62 : decode prog_4_method_7_code 62 = .ok (.getfield 28, 3) := by decide +kernel
theorem dd_In_takeDirected_65 : decode prog_4_method_7_code 65 = .ok (.ldc 90, 2) := by decide +kernel
theorem dd_In_takeDirected_67 : decode prog_4_method_7_code 67 = .ok (.aload_n 0, 1) := by decide +kernel
theorem dd_In_takeDirected_68 : decode prog_4_method_7_code 68 = .ok (.getfield 12, 3) := by decide +kernel
theorem dd_In_takeDirected_71 : decode prog_4_method_7_code 71 = .ok (.getfield 32, 3) := by decide +kernel
theorem dd_In_takeDirected_74 : decode prog_4_method_7_code 74 = .ok (.bipush 19, 2) := by decide +kernel
theorem dd_In_takeDirected_76 : decode prog_4_method_7_code 76 = .ok (.aload_n 0, 1) := by decide +kernel
theorem dd_In_takeDirected_77 : decode prog_4_method_7_code 77 = .ok (.getfield 12, 3) := by decide +kernel
theorem dd_In_takeDirected_80 : decode prog_4_method_7_code 80 = .ok (.getfield 39, 3) := by decide +kernel
theorem dd_In_takeDirected_83 : decode prog_4_method_7_code 83 = .ok (.aload_n 0, 1) := by decide +kernel
theorem dd_In_takeDirected_84 : decode prog_4_method_7_code 84 = .ok (.getfield 12, 3) := by decide +kernel
theorem dd_In_takeDirected_87 : decode prog_4_method_7_code 87 = .ok (.getfield 36, 3) := by decide +kernel
theorem dd_In_takeDirected_90 : decode prog_4_method_7_code 90 = .ok (.invokestatic 91, 3) := by decide +kernel
theorem dd_In_takeDirected_93 : decode prog_4_method_7_code 93 = .ok (.invokevirtual 95, 3) := by decide +kernel
theorem dd_In_takeDirected_96 : decode prog_4_method_7_code 96 = .ok (.aload_n 0, 1) := by decide +kernel
theorem dd_In_takeDirected_97 : decode prog_4_method_7_code 97 = .ok (.invokevirtual 65, 3) := by decide +kernel
theorem dd_In_takeDirected_100 : decode prog_4_method_7_code 100 = .ok (.iconst 1, 1) := by decide +kernel
theorem dd_In_takeDirected_101 : decode prog_4_method_7_code 101 = .ok (.ireturn, 1) := by decide +kernel
theorem dd_In_takeDirected_102 : decode prog_4_method_7_code 102 = .ok (.aload_n 0, 1) := by decide +kernel
theorem dd_In_takeDirected_103 : decode prog_4_method_7_code 103 = .ok (.getfield 49, 3) := by decide +kernel
theorem dd_In_takeDirected_106 : decode prog_4_method_7_code 106 = .ok (.aload_n 0, 1) := by decide +kernel
theorem dd_In_takeDirected_107 : decode prog_4_method_7_code 107 = .ok (.getfield 87, 3) := by decide +kernel
theorem dd_In_takeDirected_110 : decode prog_4_method_7_code 110 = .ok (.if_icmp .le 10, 3) := by decide +kernel
theorem dd_In_takeDirected_113 : decode prog_4_method_7_code 113 = .ok (.aload_n 0, 1) := by decide +kernel
theorem dd_In_takeDirected_114 : decode prog_4_method_7_code 114 = .ok (.invokevirtual 62, 3) := by decide +kernel
theorem dd_In_takeDirected_117 : decode prog_4_method_7_code 117 = .ok (.goto 18, 3) := by decide +kernel
theorem dd_In_takeDirected_120 : decode prog_4_method_7_code 120 = .ok (.aload_n 0, 1) := by decide +kernel
theorem dd_In_takeDirected_121 : decode prog_4_method_7_code 121 = .ok (.aload_n 0, 1) := by decide +kernel
theorem dd_In_takeDirected_122 : decode prog_4_method_7_code 122 = .ok (.getfield 24, 3) := by decide +kernel
theorem dd_In_takeDirected_125 : decode prog_4_method_7_code 125 = .ok (.getfield 55, 3) := by decide +kernel
theorem dd_In_takeDirected_128 : decode prog_4_method_7_code 128 = .ok (.ldc2_w 60, 3) := by decide +kernel
theorem dd_In_takeDirected_131 : decode prog_4_method_7_code 131 = .ok (.ladd, 1) := by decide +kernel
theorem dd_In_takeDirected_132 : decode prog_4_method_7_code 132 = .ok (.putfield 20, 3) := by decide +kernel
theorem dd_In_takeDirected_135 : decode prog_4_method_7_code 135 = .ok (.iconst 0, 1) := by decide +kernel
theorem dd_In_takeDirected_136 : decode prog_4_method_7_code 136 = .ok (.ireturn, 1) := by decide +kernel
theorem dd_In_keepExpected_0 : decode prog_4_method_8_code 0 = .ok (.aload_n 0, 1) := by decide +kernel
theorem dd_In_keepExpected_1 : decode prog_4_method_8_code 1 = .ok (.getfield 12, 3) := by decide +kernel
theorem dd_In_keepExpected_4 : decode prog_4_method_8_code 4 = .ok (.aload_n 0, 1) := by decide +kernel
theorem dd_In_keepExpected_5 : decode prog_4_method_8_code 5 = .ok (.getfield 49, 3) := by decide +kernel
theorem dd_In_keepExpected_8 : decode prog_4_method_8_code 8 = .ok (.lload_n 1, 1) := by decide +kernel
theorem dd_In_keepExpected_9 : decode prog_4_method_8_code 9 = .ok (.invokevirtual 99, 3) := by decide +kernel
theorem dd_In_keepExpected_12 : decode prog_4_method_8_code 12 = .ok (.aload_n 0, 1) := by decide +kernel
theorem dd_In_keepExpected_13 : decode prog_4_method_8_code 13 = .ok (.dup, 1) := by decide +kernel
theorem dd_In_keepExpected_14 : decode prog_4_method_8_code 14 = .ok (.getfield 49, 3) := by decide +kernel
theorem dd_In_keepExpected_17 : decode prog_4_method_8_code 17 = .ok (.iconst 1, 1) := by decide +kernel
theorem dd_In_keepExpected_18 : decode prog_4_method_8_code 18 = .ok (.iadd, 1) := by decide +kernel
theorem dd_In_keepExpected_19 : decode prog_4_method_8_code 19 = .ok (.putfield 49, 3) := by decide +kernel
theorem dd_In_keepExpected_22 : decode prog_4_method_8_code 22 = .ok (.return_, 1) := by decide +kernel
theorem dd_In_isWhole_0 : decode prog_4_method_9_code 0 = .ok (.aload_n 0, 1) := by decide +kernel
theorem dd_In_isWhole_1 : decode prog_4_method_9_code 1 = .ok (.getfield 49, 3) := by decide +kernel
theorem dd_In_isWhole_4 : decode prog_4_method_9_code 4 = .ok (.aload_n 0, 1) := by decide +kernel
theorem dd_In_isWhole_5 : decode prog_4_method_9_code 5 = .ok (.getfield 12, 3) := by decide +kernel
theorem dd_In_isWhole_8 : decode prog_4_method_9_code 8 = .ok (.getfield 39, 3) := by decide +kernel
theorem dd_In_isWhole_11 : decode prog_4_method_9_code 11 = .ok (.invokestatic 103, 3) := by decide +kernel
theorem dd_In_isWhole_14 : decode prog_4_method_9_code 14 = .ok (.if_icmp .le 7, 3) := by decide +kernel
theorem dd_In_isWhole_17 : decode prog_4_method_9_code 17 = .ok (.iconst 1, 1) := by decide +kernel
theorem dd_In_isWhole_18 : decode prog_4_method_9_code 18 = .ok (.goto 4, 3) := by decide +kernel
theorem dd_In_isWhole_21 : decode prog_4_method_9_code 21 = .ok (.iconst 0, 1) := by decide +kernel
theorem dd_In_isWhole_22 : decode prog_4_method_9_code 22 = .ok (.ireturn, 1) := by decide +kernel
theorem dd_In_askAgain_0 : decode prog_4_method_10_code 0 = .ok (.aload_n 0, 1) := by decide +kernel
theorem dd_In_askAgain_1 : decode prog_4_method_10_code 1 = .ok (.dup, 1) := by decide +kernel
theorem dd_In_askAgain_2 : decode prog_4_method_10_code 2 = .ok (.getfield 52, 3) := by decide +kernel
theorem dd_In_askAgain_5 : decode prog_4_method_10_code 5 = .ok (.iconst 1, 1) := by decide +kernel
theorem dd_In_askAgain_6 : decode prog_4_method_10_code 6 = .ok (.iadd, 1) := by decide +kernel
theorem dd_In_askAgain_7 : decode prog_4_method_10_code 7 = .ok (.putfield 52, 3) := by decide +kernel
theorem dd_In_askAgain_10 : decode prog_4_method_10_code 10 = .ok (.aload_n 0, 1) := by decide +kernel
theorem dd_In_askAgain_11 : decode prog_4_method_10_code 11 = .ok (.getfield 52, 3) := by decide +kernel
theorem dd_In_askAgain_14 : decode prog_4_method_10_code 14 = .ok (.iconst 3, 1) := by decide +kernel
theorem dd_In_askAgain_15 : decode prog_4_method_10_code 15 = .ok (.if_icmp .ge 10, 3) := by decide +kernel
theorem dd_In_askAgain_18 : decode prog_4_method_10_code 18 = .ok (.aload_n 0, 1) := by decide +kernel
theorem dd_In_askAgain_19 : decode prog_4_method_10_code 19 = .ok (.invokevirtual 62, 3) := by decide +kernel
theorem dd_In_askAgain_22 : decode prog_4_method_10_code 22 = .ok (.goto 38, 3) := by decide +kernel
theorem dd_In_askAgain_25 : decode prog_4_method_10_code 25 = .ok (.aload_n 0, 1) := by decide +kernel
theorem dd_In_askAgain_26 : decode prog_4_method_10_code 26 = .ok (.getfield 24, 3) := by decide +kernel
theorem dd_In_askAgain_29 : decode prog_4_method_10_code 29 = .ok (.aload_n 0, 1) := by decide +kernel
theorem dd_In_askAgain_30 : decode prog_4_method_10_code 30 = .ok (.getfield 28, 3) := by decide +kernel
theorem dd_In_askAgain_33 : decode prog_4_method_10_code 33 = .ok (.ldc 90, 2) := by decide +kernel
theorem dd_In_askAgain_35 : decode prog_4_method_10_code 35 = .ok (.aload_n 0, 1) := by decide +kernel
theorem dd_In_askAgain_36 : decode prog_4_method_10_code 36 = .ok (.getfield 12, 3) := by decide +kernel
theorem dd_In_askAgain_39 : decode prog_4_method_10_code 39 = .ok (.getfield 32, 3) := by decide +kernel
theorem dd_In_askAgain_42 : decode prog_4_method_10_code 42 = .ok (.iload_n 1, 1) := by decide +kernel
theorem dd_In_askAgain_43 : decode prog_4_method_10_code 43 = .ok (.aload_n 0, 1) := by decide +kernel
theorem dd_In_askAgain_44 : decode prog_4_method_10_code 44 = .ok (.getfield 12, 3) := by decide +kernel
theorem dd_In_askAgain_47 : decode prog_4_method_10_code 47 = .ok (.getfield 36, 3) := by decide +kernel
theorem dd_In_askAgain_50 : decode prog_4_method_10_code 50 = .ok (.invokestatic 107, 3) := by decide +kernel
theorem dd_In_askAgain_53 : decode prog_4_method_10_code 53 = .ok (.invokevirtual 95, 3) := by decide +kernel
theorem dd_In_askAgain_56 : decode prog_4_method_10_code 56 = .ok (.aload_n 0, 1) := by decide +kernel
theorem dd_In_askAgain_57 : decode prog_4_method_10_code 57 = .ok (.invokevirtual 65, 3) := by decide +kernel
theorem dd_In_askAgain_60 : decode prog_4_method_10_code 60 = .ok (.return_, 1) := by decide +kernel
theorem dd_In_grant_0 : decode prog_4_method_11_code 0 = .ok (.aload_n 0, 1) := by decide +kernel
theorem dd_In_grant_1 : decode prog_4_method_11_code 1 = .ok (.aload_n 0, 1) := by decide +kernel
theorem dd_In_grant_2 : decode prog_4_method_11_code 2 = .ok (.getfield 28, 3) := by decide +kernel
theorem dd_In_grant_5 : decode prog_4_method_11_code 5 = .ok (.getfield 111, 3) := by decide +kernel
theorem dd_In_grant_8 : decode prog_4_method_11_code 8 = .ok (.putfield 68, 3) := by decide +kernel
theorem dd_In_grant_11 : decode prog_4_method_11_code 11 = .ok (.aload_n 0, 1) := by decide +kernel
theorem dd_In_grant_12 : decode prog_4_method_11_code 12 = .ok (.getfield 12, 3) := by decide +kernel
theorem dd_In_grant_15 : decode prog_4_method_11_code 15 = .ok (.getfield 39, 3) := by decide +kernel
theorem dd_In_grant_18 : decode prog_4_method_11_code 18 = .ok (.invokestatic 103, 3) := by decide +kernel
theorem dd_In_grant_21 : decode prog_4_method_11_code 21 = .ok (.aload_n 0, 1) := by decide +kernel
theorem dd_In_grant_22 : decode prog_4_method_11_code 22 = .ok (.getfield 49, 3) := by decide +kernel
theorem dd_In_grant_25 : decode prog_4_method_11_code 25 = .ok (.isub, 1) := by decide +kernel
theorem dd_In_grant_26 : decode prog_4_method_11_code 26 = .ok (.iconst 1, 1) := by decide +kernel
theorem dd_In_grant_27 : decode prog_4_method_11_code 27 = .ok (.iadd, 1) := by decide +kernel
theorem dd_In_grant_28 : decode prog_4_method_11_code 28 = .ok (.istore_n 1, 1) := by decide +kernel
theorem dd_In_grant_29 : decode prog_4_method_11_code 29 = .ok (.aload_n 0, 1) := by decide +kernel
theorem dd_In_grant_30 : decode prog_4_method_11_code 30 = .ok (.getfield 68, 3) := by decide +kernel
theorem dd_In_grant_33 : decode prog_4_method_11_code 33 = .ok (.ifCond .eq 7, 3) := by decide +kernel
theorem dd_In_grant_36 : decode prog_4_method_11_code 36 = .ok (.iconst 0, 1) := by decide +kernel
theorem dd_In_grant_37 : decode prog_4_method_11_code 37 = .ok (.goto 8, 3) := by decide +kernel
theorem dd_In_grant_40 : decode prog_4_method_11_code 40 = .ok (.iconst 3, 1) := by decide +kernel
theorem dd_In_grant_41 : decode prog_4_method_11_code 41 = .ok (.iload_n 1, 1) := by decide +kernel
theorem dd_In_grant_42 : decode prog_4_method_11_code 42 = .ok (.invokestatic 116, 3) := by decide +kernel
theorem dd_In_grant_45 : decode prog_4_method_11_code 45 = .ok (.istore_n 2, 1) := by decide +kernel
theorem dd_In_grant_46 : decode prog_4_method_11_code 46 = .ok (.aload_n 0, 1) := by decide +kernel
theorem dd_In_grant_47 : decode prog_4_method_11_code 47 = .ok (.aload_n 0, 1) := by decide +kernel
theorem dd_In_grant_48 : decode prog_4_method_11_code 48 = .ok (.getfield 49, 3) := by decide +kernel
theorem dd_In_grant_51 : decode prog_4_method_11_code 51 = .ok (.iload_n 2, 1) := by decide +kernel
theorem dd_In_grant_52 : decode prog_4_method_11_code 52 = .ok (.iadd, 1) := by decide +kernel
theorem dd_In_grant_53 : decode prog_4_method_11_code 53 = .ok (.iconst 1, 1) := by decide +kernel
theorem dd_In_grant_54 : decode prog_4_method_11_code 54 = .ok (.isub, 1) := by decide +kernel
theorem dd_In_grant_55 : decode prog_4_method_11_code 55 = .ok (.putfield 87, 3) := by decide +kernel
theorem dd_In_grant_58 : decode prog_4_method_11_code 58 = .ok (.bipush 17, 2) := by decide +kernel
theorem dd_In_grant_60 : decode prog_4_method_11_code 60 = .ok (.iload_n 2, 1) := by decide +kernel
theorem dd_In_grant_61 : decode prog_4_method_11_code 61 = .ok (.aload_n 0, 1) := by decide +kernel
theorem dd_In_grant_62 : decode prog_4_method_11_code 62 = .ok (.getfield 49, 3) := by decide +kernel
theorem dd_In_grant_65 : decode prog_4_method_11_code 65 = .ok (.sipush 255, 3) := by decide +kernel
theorem dd_In_grant_68 : decode prog_4_method_11_code 68 = .ok (.aload_n 0, 1) := by decide +kernel
theorem dd_In_grant_69 : decode prog_4_method_11_code 69 = .ok (.getfield 12, 3) := by decide +kernel
theorem dd_In_grant_72 : decode prog_4_method_11_code 72 = .ok (.getfield 36, 3) := by decide +kernel
theorem dd_In_grant_75 : decode prog_4_method_11_code 75 = .ok (.invokestatic 122, 3) := by decide +kernel
theorem dd_In_grant_78 : decode prog_4_method_11_code 78 = .ok (.lstore_n 3, 1) := by decide +kernel
theorem dd_In_grant_79 : decode prog_4_method_11_code 79 = .ok (.aload_n 0, 1) := by decide +kernel
theorem dd_In_grant_80 : decode prog_4_method_11_code 80 = .ok (.getfield 24, 3) := by decide +kernel
theorem dd_In_grant_83 : decode prog_4_method_11_code 83 = .ok (.aload_n 0, 1) := by decide +kernel
theorem dd_In_grant_84 : decode prog_4_method_11_code 84 = .ok (.getfield 28, 3) := by decide +kernel
theorem dd_In_grant_87 : decode prog_4_method_11_code 87 = .ok (.ldc 90, 2) := by decide +kernel
theorem dd_In_grant_89 : decode prog_4_method_11_code 89 = .ok (.aload_n 0, 1) := by decide +kernel
theorem dd_In_grant_90 : decode prog_4_method_11_code 90 = .ok (.getfield 12, 3) := by decide +kernel
theorem dd_In_grant_93 : decode prog_4_method_11_code 93 = .ok (.getfield 32, 3) := by decide +kernel
theorem dd_In_grant_96 : decode prog_4_method_11_code 96 = .ok (.lload_n 3, 1) := by decide +kernel
theorem dd_In_grant_97 : decode prog_4_method_11_code 97 = .ok (.invokevirtual 95, 3) := by decide +kernel
theorem dd_In_grant_100 : decode prog_4_method_11_code 100 = .ok (.aload_n 0, 1) := by decide +kernel
theorem dd_In_grant_101 : decode prog_4_method_11_code 101 = .ok (.aload_n 0, 1) := by decide +kernel
theorem dd_In_grant_102 : decode prog_4_method_11_code 102 = .ok (.getfield 24, 3) := by decide +kernel
theorem dd_In_grant_105 : decode prog_4_method_11_code 105 = .ok (.getfield 55, 3) := by decide +kernel
theorem dd_In_grant_108 : decode prog_4_method_11_code 108 = .ok (.aload_n 0, 1) := by decide +kernel
theorem dd_In_grant_109 : decode prog_4_method_11_code 109 = .ok (.getfield 68, 3) := by decide +kernel
theorem dd_In_grant_112 : decode prog_4_method_11_code 112 = .ok (.ifCond .eq 9, 3) := by decide +kernel
theorem dd_In_grant_115 : decode prog_4_method_11_code 115 = .ok (.sipush 500, 3) := by decide +kernel
theorem dd_In_grant_118 : decode prog_4_method_11_code 118 = .ok (.goto 6, 3) := by decide +kernel
theorem dd_In_grant_121 : decode prog_4_method_11_code 121 = .ok (.sipush 1250, 3) := by decide +kernel
theorem dd_In_grant_124 : decode prog_4_method_11_code 124 = .ok (.i2l, 1) := by decide +kernel
theorem dd_In_grant_125 : decode prog_4_method_11_code 125 = .ok (.ladd, 1) := by decide +kernel
theorem dd_In_grant_126 : decode prog_4_method_11_code 126 = .ok (.putfield 20, 3) := by decide +kernel
theorem dd_In_grant_129 : decode prog_4_method_11_code 129 = .ok (.return_, 1) := by decide +kernel
