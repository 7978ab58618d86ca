theorem dd_Fu_init_0 : decode prog_3_method_1_code 0 = .ok (.aload_n 0, 1) := by decide +kernel
theorem dd_Fu_init_1 : decode prog_3_method_1_code 1 = .ok (.invokespecial 3, 3) := by decide +kernel
theorem dd_Fu_init_4 : decode prog_3_method_1_code 4 = .ok (.aload_n 0, 1) := by decide +kernel
theorem dd_Fu_init_5 : decode prog_3_method_1_code 5 = .ok (.iconst 5, 1) := by decide +kernel
theorem dd_Fu_init_6 : decode prog_3_method_1_code 6 = .ok (.newarray .int, 2) := by decide +kernel
theorem dd_Fu_init_8 : decode prog_3_method_1_code 8 = .ok (.putfield 9, 3) := by decide +kernel
theorem dd_Fu_init_11 : decode prog_3_method_1_code 11 = .ok (.aload_n 0, 1) := by decide +kernel
theorem dd_Fu_init_12 : decode prog_3_method_1_code 12 = .ok (.iconst 2, 1) := by decide +kernel
theorem dd_Fu_init_13 : decode prog_3_method_1_code 13 = .ok (.anewarray 15, 3) := by decide +kernel
theorem dd_Fu_init_16 : decode prog_3_method_1_code 16 = .ok (.putfield 17, 3) := by decide +kernel
theorem dd_Fu_init_19 : decode prog_3_method_1_code 19 = .ok (.aload_n 0, 1) := by decide +kernel
theorem dd_Fu_init_20 : decode prog_3_method_1_code 20 = .ok (.new 21, 3) := by decide +kernel
theorem dd_Fu_init_23 : decode prog_3_method_1_code 23 = .ok (.dup, 1) := by decide +kernel
theorem dd_Fu_init_24 : decode prog_3_method_1_code 24 = .ok (.invokespecial 23, 3) := by decide +kernel
theorem dd_Fu_init_27 : decode prog_3_method_1_code 27 = .ok (.putfield 24, 3) := by decide +kernel
theorem dd_Fu_init_30 : decode prog_3_method_1_code 30 = .ok (.aload_n 0, 1) := by decide +kernel
theorem dd_Fu_init_31 : decode prog_3_method_1_code 31 = .ok (.iconst 0, 1) := by decide +kernel
theorem dd_Fu_init_32 : decode prog_3_method_1_code 32 = .ok (.putfield 28, 3) := by decide +kernel
theorem dd_Fu_init_35 : decode prog_3_method_1_code 35 = .ok (.aload_n 0, 1) := by decide +kernel
theorem dd_Fu_init_36 : decode prog_3_method_1_code 36 = .ok (.ldc2_w 32, 3) := by decide +kernel
theorem dd_Fu_init_39 : decode prog_3_method_1_code 39 = .ok (.putfield 34, 3) := by decide +kernel
theorem dd_Fu_init_42 : decode prog_3_method_1_code 42 = .ok (.aload_n 0, 1) := by decide +kernel
theorem dd_Fu_init_43 : decode prog_3_method_1_code 43 = .ok (.aload_n 1, 1) := by decide +kernel
theorem dd_Fu_init_44 : decode prog_3_method_1_code 44 = .ok (.putfield 38, 3) := by decide +kernel
theorem dd_Fu_init_47 : decode prog_3_method_1_code 47 = .ok (.aload_n 0, 1) := by decide +kernel
theorem dd_Fu_init_48 : decode prog_3_method_1_code 48 = .ok (.aload_n 2, 1) := by decide +kernel
theorem dd_Fu_init_49 : decode prog_3_method_1_code 49 = .ok (.putfield 42, 3) := by decide +kernel
theorem dd_Fu_init_52 : decode prog_3_method_1_code 52 = .ok (.aload_n 0, 1) := by decide +kernel
theorem dd_Fu_init_53 : decode prog_3_method_1_code 53 = .ok (.new 46, 3) := by decide +kernel
theorem dd_Fu_init_56 : decode prog_3_method_1_code 56 = .ok (.dup, 1) := by decide +kernel
theorem dd_Fu_init_57 : decode prog_3_method_1_code 57 = .ok (.aload_n 1, 1) := by decide +kernel
theorem dd_Fu_init_58 : decode prog_3_method_1_code 58 = .ok (.aload_n 2, 1) := by decide +kernel
theorem dd_Fu_init_59 : decode prog_3_method_1_code 59 = .ok (.invokespecial 48, 3) := by decide +kernel
theorem dd_Fu_init_62 : decode prog_3_method_1_code 62 = .ok (.putfield 51, 3) := by decide +kernel
theorem dd_Fu_init_65 : decode prog_3_method_1_code 65 = .ok (.iconst 0, 1) := by decide +kernel
theorem dd_Fu_init_66 : decode prog_3_method_1_code 66 = .ok (.istore_n 3, 1) := by decide +kernel
theorem dd_Fu_init_67 : decode prog_3_method_1_code 67 = .ok (.iload_n 3, 1) := by decide +kernel
theorem dd_Fu_init_68 : decode prog_3_method_1_code 68 = .ok (.iconst 2, 1) := by decide +kernel
theorem dd_Fu_init_69 : decode prog_3_method_1_code 69 = .ok (.if_icmp .ge 24, 3) := by decide +kernel
theorem dd_Fu_init_72 : decode prog_3_method_1_code 72 = .ok (.aload_n 0, 1) := by decide +kernel
theorem dd_Fu_init_73 : decode prog_3_method_1_code 73 = .ok (.getfield 17, 3) := by decide +kernel
theorem dd_Fu_init_76 : decode prog_3_method_1_code 76 = .ok (.iload_n 3, 1) := by decide +kernel
theorem dd_Fu_init_77 : decode prog_3_method_1_code 77 = .ok (.new 15, 3) := by decide +kernel
theorem dd_Fu_init_80 : decode prog_3_method_1_code 80 = .ok (.dup, 1) := by decide +kernel
theorem dd_Fu_init_81 : decode prog_3_method_1_code 81 = .ok (.aload_n 1, 1) := by decide +kernel
theorem dd_Fu_init_82 : decode prog_3_method_1_code 82 = .ok (.aload_n 2, 1) := by decide +kernel
theorem dd_Fu_init_83 : decode prog_3_method_1_code 83 = .ok (.invokespecial 55, 3) := by decide +kernel
theorem dd_Fu_init_86 : decode prog_3_method_1_code 86 = .ok (.aastore, 1) := by decide +kernel
theorem dd_Fu_init_87 : decode prog_3_method_1_code 87 = .ok (.iinc 3 1, 3) := by decide +kernel
theorem dd_Fu_init_90 : decode prog_3_method_1_code 90 = .ok (.goto (-23), 3) := by decide +kernel
theorem dd_Fu_init_93 : decode prog_3_method_1_code 93 = .ok (.return_, 1) := by decide +kernel
theorem dd_Fu_switchOn_0 : decode prog_3_method_2_code 0 = .ok (.aload_n 0, 1) := by decide +kernel
theorem dd_Fu_switchOn_1 : decode prog_3_method_2_code 1 = .ok (.lload_n 1, 1) := by decide +kernel
theorem dd_Fu_switchOn_2 : decode prog_3_method_2_code 2 = .ok (.putfield 56, 3) := by decide +kernel
theorem dd_Fu_switchOn_5 : decode prog_3_method_2_code 5 = .ok (.aload_n 0, 1) := by decide +kernel
theorem dd_Fu_switchOn_6 : decode prog_3_method_2_code 6 = .ok (.getfield 51, 3) := by decide +kernel
theorem dd_Fu_switchOn_9 : decode prog_3_method_2_code 9 = .ok (.iconst 0, 1) := by decide +kernel
theorem dd_Fu_switchOn_10 : decode prog_3_method_2_code 10 = .ok (.putfield 59, 3) := by decide +kernel
theorem dd_Fu_switchOn_13 : decode prog_3_method_2_code 13 = .ok (.aload_n 0, 1) := by decide +kernel
theorem dd_Fu_switchOn_14 : decode prog_3_method_2_code 14 = .ok (.iconst 0, 1) := by decide +kernel
theorem dd_Fu_switchOn_15 : decode prog_3_method_2_code 15 = .ok (.putfield 62, 3) := by decide +kernel
theorem dd_Fu_switchOn_18 : decode prog_3_method_2_code 18 = .ok (.iconst 0, 1) := by decide +kernel
theorem dd_Fu_switchOn_19 : decode prog_3_method_2_code 19 = .ok (.istore 4, 2) := by decide +kernel
theorem dd_Fu_switchOn_21 : decode prog_3_method_2_code 21 = .ok (.iload 4, 2) := by decide +kernel
theorem dd_Fu_switchOn_23 : decode prog_3_method_2_code 23 = .ok (.iconst 5, 1) := by decide +kernel
theorem dd_Fu_switchOn_24 : decode prog_3_method_2_code 24 = .ok (.if_icmp .ge 17, 3) := by decide +kernel
theorem dd_Fu_switchOn_27 : decode prog_3_method_2_code 27 = .ok (.aload_n 0, 1) := by decide +kernel
theorem dd_Fu_switchOn_28 : decode prog_3_method_2_code 28 = .ok (.getfield 9, 3) := by decide +kernel
theorem dd_Fu_switchOn_31 : decode prog_3_method_2_code 31 = .ok (.iload 4, 2) := by decide +kernel
theorem dd_Fu_switchOn_33 : decode prog_3_method_2_code 33 = .ok (.iconst (-1), 1) := by decide +kernel
theorem dd_Fu_switchOn_34 : decode prog_3_method_2_code 34 = .ok (.iastore, 1) := by decide +kernel
theorem dd_Fu_switchOn_35 : decode prog_3_method_2_code 35 = .ok (.iinc 4 1, 3) := by decide +kernel
theorem dd_Fu_switchOn_38 : decode prog_3_method_2_code 38 = .ok (.goto (-17), 3) := by decide +kernel
theorem dd_Fu_switchOn_41 : decode prog_3_method_2_code 41 = .ok (.aload_n 0, 1) := by decide +kernel
theorem dd_Fu_switchOn_42 : decode prog_3_method_2_code 42 = .ok (.iload_n 3, 1) := by decide +kernel
theorem dd_Fu_switchOn_43 : decode prog_3_method_2_code 43 = .ok (.invokevirtual 65, 3) := by decide +kernel
theorem dd_Fu_switchOn_46 : decode prog_3_method_2_code 46 = .ok (.return_, 1) := by decide +kernel
theorem dd_Fu_switchOff_0 : decode prog_3_method_3_code 0 = .ok (.aload_n 0, 1) := by decide +kernel
theorem dd_Fu_switchOff_1 : decode prog_3_method_3_code 1 = .ok (.invokevirtual 69, 3) := by decide +kernel
theorem dd_Fu_switchOff_4 : decode prog_3_method_3_code 4 = .ok (.aload_n 0, 1) := by decide +kernel
theorem dd_Fu_switchOff_5 : decode prog_3_method_3_code 5 = .ok (.iconst 0, 1) := by decide +kernel
theorem dd_Fu_switchOff_6 : decode prog_3_method_3_code 6 = .ok (.putfield 28, 3) := by decide +kernel
theorem dd_Fu_switchOff_9 : decode prog_3_method_3_code 9 = .ok (.aload_n 0, 1) := by decide +kernel
theorem dd_Fu_switchOff_10 : decode prog_3_method_3_code 10 = .ok (.ldc2_w 32, 3) := by decide +kernel
theorem dd_Fu_switchOff_13 : decode prog_3_method_3_code 13 = .ok (.putfield 34, 3) := by decide +kernel
theorem dd_Fu_switchOff_16 : decode prog_3_method_3_code 16 = .ok (.aload_n 0, 1) := by decide +kernel
theorem dd_Fu_switchOff_17 : decode prog_3_method_3_code 17 = .ok (.getfield 38, 3) := by decide +kernel
theorem dd_Fu_switchOff_20 : decode prog_3_method_3_code 20 = .ok (.aload_n 0, 1) := by decide +kernel
theorem dd_Fu_switchOff_21 : decode prog_3_method_3_code 21 = .ok (.getfield 42, 3) := by decide +kernel
theorem dd_Fu_switchOff_24 : decode prog_3_method_3_code 24 = .ok (.getfield 72, 3) := by decide +kernel
theorem dd_Fu_switchOff_27 : decode prog_3_method_3_code 27 = .ok (.invokevirtual 77, 3) := by decide +kernel
theorem dd_Fu_switchOff_30 : decode prog_3_method_3_code 30 = .ok (.return_, 1) := by decide +kernel
theorem dd_Fu_canSendTo_0 : decode prog_3_method_4_code 0 = .ok (.iload_n 1, 1) := by decide +kernel
theorem dd_Fu_canSendTo_1 : decode prog_3_method_4_code 1 = .ok (.sipush 255, 3) := by decide +kernel
theorem dd_Fu_canSendTo_4 : decode prog_3_method_4_code 4 = .ok (.if_icmp .eq 14, 3) := by decide +kernel
theorem dd_Fu_canSendTo_7 : decode prog_3_method_4_code 7 = .ok (.iload_n 1, 1) := by decide +kernel
theorem dd_Fu_canSendTo_8 : decode prog_3_method_4_code 8 = .ok (.ifCond .lt 14, 3) := by decide +kernel
theorem dd_Fu_canSendTo_11 : decode prog_3_method_4_code 11 = .ok (.iload_n 1, 1) := by decide +kernel
theorem dd_Fu_canSendTo_12 : decode prog_3_method_4_code 12 = .ok (.sipush 253, 3) := by decide +kernel
theorem dd_Fu_canSendTo_15 : decode prog_3_method_4_code 15 = .ok (.if_icmp .gt 7, 3) := by decide +kernel
theorem dd_Fu_canSendTo_18 : decode prog_3_method_4_code 18 = .ok (.iconst 1, 1) := by decide +kernel
theorem dd_Fu_canSendTo_19 : decode prog_3_method_4_code 19 = .ok (.goto 4, 3) := by decide +kernel
theorem dd_Fu_canSendTo_22 : decode prog_3_method_4_code 22 = .ok (.iconst 0, 1) := by decide +kernel
theorem dd_Fu_canSendTo_23 : decode prog_3_method_4_code 23 = .ok (.istore_n 2, 1) := by decide +kernel
theorem dd_Fu_canSendTo_24 : decode prog_3_method_4_code 24 = .ok (.iload_n 2, 1) := by decide +kernel
theorem dd_Fu_canSendTo_25 : decode prog_3_method_4_code 25 = .ok (.ifCond .eq 36, 3) := by decide +kernel
theorem dd_Fu_canSendTo_28 : decode prog_3_method_4_code 28 = .ok (.aload_n 0, 1) := by decide +kernel
theorem dd_Fu_canSendTo_29 : decode prog_3_method_4_code 29 = .ok (.getfield 28, 3) := by decide +kernel
theorem dd_Fu_canSendTo_32 : decode prog_3_method_4_code 32 = .ok (.iconst 2, 1) := by decide +kernel
theorem dd_Fu_canSendTo_33 : decode prog_3_method_4_code 33 = .ok (.if_icmp .ne 28, 3) := by decide +kernel
theorem dd_Fu_canSendTo_36 : decode prog_3_method_4_code 36 = .ok (.iload_n 1, 1) := by decide +kernel
theorem dd_Fu_canSendTo_37 : decode prog_3_method_4_code 37 = .ok (.aload_n 0, 1) := by decide +kernel
theorem dd_Fu_canSendTo_38 : decode prog_3_method_4_code 38 = .ok (.getfield 42, 3) := by decide +kernel
theorem dd_Fu_canSendTo_41 : decode prog_3_method_4_code 41 = .ok (.getfield 82, 3) := by decide +kernel
theorem dd_Fu_canSendTo_44 : decode prog_3_method_4_code 44 = .ok (.if_icmp .eq 17, 3) := by decide +kernel
theorem dd_Fu_canSendTo_47 : decode prog_3_method_4_code 47 = .ok (.aload_n 0, 1) := by decide +kernel
theorem dd_Fu_canSendTo_48 : decode prog_3_method_4_code 48 = .ok (.getfield 51, 3) := by decide +kernel
theorem dd_Fu_canSendTo_51 : decode prog_3_method_4_code 51 = .ok (.getfield 85, 3) := by decide +kernel
theorem dd_Fu_canSendTo_54 : decode prog_3_method_4_code 54 = .ok (.ifCond .ne 7, 3) := by decide +kernel
theorem dd_Fu_canSendTo_57 : decode prog_3_method_4_code 57 = .ok (.iconst 1, 1) := by decide +kernel
theorem dd_Fu_canSendTo_58 : decode prog_3_method_4_code 58 = .ok (.goto 4, 3) := by decide +kernel
theorem dd_Fu_canSendTo_61 : decode prog_3_method_4_code 61 = .ok (.iconst 0, 1) := by decide +kernel
theorem dd_Fu_canSendTo_62 : decode prog_3_method_4_code 62 = .ok (.ireturn, 1) := by decide +kernel
theorem dd_Fu_countIncoming_0 : decode prog_3_method_5_code 0 = .ok (.iconst 0, 1) := by decide +kernel
theorem dd_Fu_countIncoming_1 : decode prog_3_method_5_code 1 = .ok (.istore_n 1, 1) := by decide +kernel
theorem dd_Fu_countIncoming_2 : decode prog_3_method_5_code 2 = .ok (.iconst 0, 1) := by decide +kernel
theorem dd_Fu_countIncoming_3 : decode prog_3_method_5_code 3 = .ok (.istore_n 2, 1) := by decide +kernel
theorem dd_Fu_countIncoming_4 : decode prog_3_method_5_code 4 = .ok (.iload_n 2, 1) := by decide +kernel
theorem dd_Fu_countIncoming_5 : decode prog_3_method_5_code 5 = .ok (.iconst 2, 1) := by decide +kernel
theorem dd_Fu_countIncoming_6 : decode prog_3_method_5_code 6 = .ok (.if_icmp .ge 24, 3) := by decide +kernel
theorem dd_Fu_countIncoming_9 : decode prog_3_method_5_code 9 = .ok (.aload_n 0, 1) := by decide +kernel
theorem dd_Fu_countIncoming_10 : decode prog_3_method_5_code 10 = .ok (.getfield 17, 3) := by decide +kernel
theorem dd_Fu_countIncoming_13 : decode prog_3_method_5_code 13 = .ok (.iload_n 2, 1) := by decide +kernel
theorem dd_Fu_countIncoming_14 : decode prog_3_method_5_code 14 = .ok (.aaload, 1) := by decide +kernel
theorem dd_Fu_countIncoming_15 : decode prog_3_method_5_code 15 = .ok (.getfield 88, 3) := by decide +kernel
theorem dd_Fu_countIncoming_18 : decode prog_3_method_5_code 18 = .ok (.ifCond .eq 6, 3) := by decide +kernel
theorem dd_Fu_countIncoming_21 : decode prog_3_method_5_code 21 = .ok (.iinc 1 1, 3) := by decide +kernel
theorem dd_Fu_countIncoming_24 : decode prog_3_method_5_code 24 = .ok (.iinc 2 1, 3) := by decide +kernel
theorem dd_Fu_countIncoming_27 : decode prog_3_method_5_code 27 = .ok (.goto (-23), 3) := by decide +kernel
theorem dd_Fu_countIncoming_30 : decode prog_3_method_5_code 30 = .ok (.iload_n 1, 1) := by decide +kernel
theorem dd_Fu_countIncoming_31 : decode prog_3_method_5_code 31 = .ok (.ireturn, 1) := by decide +kernel
theorem dd_Fu_reach_0 : decode prog_3_method_6_code 0 = .ok (.iload_n 2, 1) := by decide +kernel
theorem dd_Fu_reach_1 : decode prog_3_method_6_code 1 = .ok (.sipush 255, 3) := by decide +kernel
theorem dd_Fu_reach_4 : decode prog_3_method_6_code 4 = .ok (.iand, 1) := by decide +kernel
theorem dd_Fu_reach_5 : decode prog_3_method_6_code 5 = .ok (.istore 5, 2) := by decide +kernel
theorem dd_Fu_reach_7 : decode prog_3_method_6_code 7 = .ok (.iload_n 2, 1) := by decide +kernel
theorem dd_Fu_reach_8 : decode prog_3_method_6_code 8 = .ok (.bipush 8, 2) := by decide +kernel
theorem dd_Fu_reach_10 : decode prog_3_method_6_code 10 = .ok (.ishr, 1) := by decide +kernel
theorem dd_Fu_reach_11 : decode prog_3_method_6_code 11 = .ok (.sipush 255, 3) := by decide +kernel
theorem dd_Fu_reach_14 : decode prog_3_method_6_code 14 = .ok (.iand, 1) := by decide +kernel
theorem dd_Fu_reach_15 : decode prog_3_method_6_code 15 = .ok (.istore 6, 2) := by decide +kernel
theorem dd_Fu_reach_17 : decode prog_3_method_6_code 17 = .ok (.iload_n 2, 1) := by decide +kernel
theorem dd_Fu_reach_18 : decode prog_3_method_6_code 18 = .ok (.bipush 16, 2) := by decide +kernel
theorem dd_Fu_reach_20 : decode prog_3_method_6_code 20 = .ok (.ishr, 1) := by decide +kernel
theorem dd_Fu_reach_21 : decode prog_3_method_6_code 21 = .ok (.sipush 1023, 3) := by decide +kernel
theorem dd_Fu_reach_24 : decode prog_3_method_6_code 24 = .ok (.iand, 1) := by decide +kernel
theorem dd_Fu_reach_25 : decode prog_3_method_6_code 25 = .ok (.istore 7, 2) := by decide +kernel
theorem dd_Fu_reach_27 : decode prog_3_method_6_code 27 = .ok (.iload 7, 2) := by decide +kernel
theorem dd_Fu_reach_29 : decode prog_3_method_6_code 29 = .ok (.sipush 238, 3) := by decide +kernel
theorem dd_Fu_reach_32 : decode prog_3_method_6_code 32 = .ok (.if_icmp .eq 11, 3) := by decide +kernel
theorem dd_Fu_reach_35 : decode prog_3_method_6_code 35 = .ok (.iload 7, 2) := by decide +kernel
theorem dd_Fu_reach_37 : decode prog_3_method_6_code 37 = .ok (.sipush 234, 3) := by decide +kernel
theorem dd_Fu_reach_40 : decode prog_3_method_6_code 40 = .ok (.if_icmp .ne 37, 3) := by decide +kernel
theorem dd_Fu_reach_43 : decode prog_3_method_6_code 43 = .ok (.aload_n 0, 1) := by decide +kernel
theorem dd_Fu_reach_44 : decode prog_3_method_6_code 44 = .ok (.getfield 28, 3) := by decide +kernel
theorem dd_Fu_reach_47 : decode prog_3_method_6_code 47 = .ok (.ifCond .ne 4, 3) := by decide +kernel
theorem dd_Fu_reach_50 : decode prog_3_method_6_code 50 = .ok (.return_, 1) := by decide +kernel
theorem dd_Fu_reach_51 : decode prog_3_method_6_code 51 = .ok (.iload 7, 2) := by decide +kernel
theorem dd_Fu_reach_53 : decode prog_3_method_6_code 53 = .ok (.sipush 238, 3) := by decide +kernel
theorem dd_Fu_reach_56 : decode prog_3_method_6_code 56 = .ok (.if_icmp .ne 14, 3) := by decide +kernel
theorem dd_Fu_reach_59 : decode prog_3_method_6_code 59 = .ok (.aload_n 0, 1) := by decide +kernel
theorem dd_Fu_reach_60 : decode prog_3_method_6_code 60 = .ok (.iload_n 1, 1) := by decide +kernel
theorem dd_Fu_reach_61 : decode prog_3_method_6_code 61 = .ok (.iload 5, 2) := by decide +kernel
theorem dd_Fu_reach_63 : decode prog_3_method_6_code 63 = .ok (.lload_n 3, 1) := by decide +kernel
theorem dd_Fu_reach_64 : decode prog_3_method_6_code 64 = .ok (.invokevirtual 92, 3) := by decide +kernel
theorem dd_Fu_reach_67 : decode prog_3_method_6_code 67 = .ok (.goto 76, 3) := by decide +kernel
theorem dd_Fu_reach_70 : decode prog_3_method_6_code 70 = .ok (.aload_n 0, 1) := by decide +kernel
theorem dd_Fu_reach_71 : decode prog_3_method_6_code 71 = .ok (.invokevirtual 96, 3) := by decide +kernel
theorem dd_Fu_reach_74 : decode prog_3_method_6_code 74 = .ok (.goto 69, 3) := by decide +kernel
theorem dd_Fu_reach_77 : decode prog_3_method_6_code 77 = .ok (.aload_n 0, 1) := by decide +kernel
theorem dd_Fu_reach_78 : decode prog_3_method_6_code 78 = .ok (.getfield 28, 3) := by decide +kernel
theorem dd_Fu_reach_81 : decode prog_3_method_6_code 81 = .ok (.iconst 2, 1) := by decide +kernel
theorem dd_Fu_reach_82 : decode prog_3_method_6_code 82 = .ok (.if_icmp .ne 61, 3) := by decide +kernel
theorem dd_Fu_reach_85 : decode prog_3_method_6_code 85 = .ok (.iload 6, 2) := by decide +kernel
theorem dd_Fu_reach_87 : decode prog_3_method_6_code 87 = .ok (.sipush 255, 3) := by decide +kernel
theorem dd_Fu_reach_90 : decode prog_3_method_6_code 90 = .ok (.if_icmp .eq 15, 3) := by decide +kernel
theorem dd_Fu_reach_93 : decode prog_3_method_6_code 93 = .ok (.iload 6, 2) := by decide +kernel
theorem dd_Fu_reach_95 : decode prog_3_method_6_code 95 = .ok (.aload_n 0, 1) := by decide +kernel
theorem dd_Fu_reach_96 : decode prog_3_method_6_code 96 = .ok (.getfield 42, 3) := by decide +kernel
theorem dd_Fu_reach_99 : decode prog_3_method_6_code 99 = .ok (.getfield 82, 3) := by decide +kernel
theorem dd_Fu_reach_102 : decode prog_3_method_6_code 102 = .ok (.if_icmp .ne 41, 3) := by decide +kernel
theorem dd_Fu_reach_105 : decode prog_3_method_6_code 105 = .ok (.iload 7, 2) := by decide +kernel
theorem dd_Fu_reach_107 : decode prog_3_method_6_code 107 = .ok (.sipush 236, 3) := by decide +kernel
theorem dd_Fu_reach_110 : decode prog_3_method_6_code 110 = .ok (.if_icmp .ne 13, 3) := by decide +kernel
theorem dd_Fu_reach_113 : decode prog_3_method_6_code 113 = .ok (.aload_n 0, 1) := by decide +kernel
theorem dd_Fu_reach_114 : decode prog_3_method_6_code 114 = .ok (.iload 5, 2) := by decide +kernel
theorem dd_Fu_reach_116 : decode prog_3_method_6_code 116 = .ok (.lload_n 3, 1) := by decide +kernel
theorem dd_Fu_reach_117 : decode prog_3_method_6_code 117 = .ok (.invokevirtual 99, 3) := by decide +kernel
theorem dd_Fu_reach_120 : decode prog_3_method_6_code 120 = .ok (.goto 23, 3) := by decide +kernel
theorem dd_Fu_reach_123 : decode prog_3_method_6_code 123 = .ok (.aload_n 0, 1) := by decide +kernel
theorem dd_Fu_reach_124 : decode prog_3_method_6_code 124 = .ok (.iload 5, 2) := by decide +kernel
theorem dd_Fu_reach_126 : decode prog_3_method_6_code 126 = .ok (.iload 6, 2) := by decide +kernel
theorem dd_Fu_reach_128 : decode prog_3_method_6_code 128 = .ok (.sipush 255, 3) := by decide +kernel
theorem dd_Fu_reach_131 : decode prog_3_method_6_code 131 = .ok (.if_icmp .ne 7, 3) := by decide +kernel
theorem dd_Fu_reach_134 : decode prog_3_method_6_code 134 = .ok (.iconst 1, 1) := by decide +kernel
theorem dd_Fu_reach_135 : decode prog_3_method_6_code 135 = .ok (.goto 4, 3) := by decide +kernel
theorem dd_Fu_reach_138 : decode prog_3_method_6_code 138 = .ok (.iconst 0, 1) := by decide +kernel
theorem dd_Fu_reach_139 : decode prog_3_method_6_code 139 = .ok (.lload_n 3, 1) := by decide +kernel
theorem dd_Fu_reach_140 : decode prog_3_method_6_code 140 = .ok (.invokevirtual 103, 3) := by decide +kernel
theorem dd_Fu_reach_143 : decode prog_3_method_6_code 143 = .ok (.return_, 1) := by decide +kernel
theorem dd_Fu_nextDue_0 : decode prog_3_method_7_code 0 = .ok (.aload_n 0, 1) := by decide +kernel
theorem dd_Fu_nextDue_1 : decode prog_3_method_7_code 1 = .ok (.getfield 34, 3) := by decide +kernel
theorem dd_Fu_nextDue_4 : decode prog_3_method_7_code 4 = .ok (.aload_n 0, 1) := by decide +kernel
theorem dd_Fu_nextDue_5 : decode prog_3_method_7_code 5 = .ok (.getfield 51, 3) := by decide +kernel
theorem dd_Fu_nextDue_8 : decode prog_3_method_7_code 8 = .ok (.getfield 107, 3) := by decide +kernel
theorem dd_Fu_nextDue_11 : decode prog_3_method_7_code 11 = .ok (.invokestatic 110, 3) := by decide +kernel
theorem dd_Fu_nextDue_14 : decode prog_3_method_7_code 14 = .ok (.lstore_n 1, 1) := by decide +kernel
theorem dd_Fu_nextDue_15 : decode prog_3_method_7_code 15 = .ok (.iconst 0, 1) := by decide +kernel
theorem dd_Fu_nextDue_16 : decode prog_3_method_7_code 16 = .ok (.istore_n 3, 1) := by decide +kernel
theorem dd_Fu_nextDue_17 : decode prog_3_method_7_code 17 = .ok (.iload_n 3, 1) := by decide +kernel
theorem dd_Fu_nextDue_18 : decode prog_3_method_7_code 18 = .ok (.iconst 2, 1) := by decide +kernel
theorem dd_Fu_nextDue_19 : decode prog_3_method_7_code 19 = .ok (.if_icmp .ge 23, 3) := by decide +kernel
theorem dd_Fu_nextDue_22 : decode prog_3_method_7_code 22 = .ok (.lload_n 1, 1) := by decide +kernel
theorem dd_Fu_nextDue_23 : decode prog_3_method_7_code 23 = .ok (.aload_n 0, 1) := by decide +kernel
theorem dd_Fu_nextDue_24 : decode prog_3_method_7_code 24 = .ok (.getfield 17, 3) := by decide +kernel
theorem dd_Fu_nextDue_27 : decode prog_3_method_7_code 27 = .ok (.iload_n 3, 1) := by decide +kernel
theorem dd_Fu_nextDue_28 : decode prog_3_method_7_code 28 = .ok (.aaload, 1) := by decide +kernel
theorem dd_Fu_nextDue_29 : decode prog_3_method_7_code 29 = .ok (.getfield 116, 3) := by decide +kernel
theorem dd_Fu_nextDue_32 : decode prog_3_method_7_code 32 = .ok (.invokestatic 110, 3) := by decide +kernel
theorem dd_Fu_nextDue_35 : decode prog_3_method_7_code 35 = .ok (.lstore_n 1, 1) := by decide +kernel
theorem dd_Fu_nextDue_36 : decode prog_3_method_7_code 36 = .ok (.iinc 3 1, 3) := by decide +kernel
theorem dd_Fu_nextDue_39 : decode prog_3_method_7_code 39 = .ok (.goto (-22), 3) := by decide +kernel
theorem dd_Fu_nextDue_42 : decode prog_3_method_7_code 42 = .ok (.lload_n 1, 1) := by decide +kernel
theorem dd_Fu_nextDue_43 : decode prog_3_method_7_code 43 = .ok (.lreturn, 1) := by decide +kernel
theorem dd_Fu_goOff_0 : decode prog_3_method_8_code 0 = .ok (.aload_n 0, 1) := by decide +kernel
theorem dd_Fu_goOff_1 : decode prog_3_method_8_code 1 = .ok (.getfield 38, 3) := by decide +kernel
theorem dd_Fu_goOff_4 : decode prog_3_method_8_code 4 = .ok (.getfield 117, 3) := by decide +kernel
theorem dd_Fu_goOff_7 : decode prog_3_method_8_code 7 = .ok (.lstore_n 1, 1) := by decide +kernel
theorem dd_Fu_goOff_8 : decode prog_3_method_8_code 8 = .ok (.aload_n 0, 1) := by decide +kernel
theorem dd_Fu_goOff_9 : decode prog_3_method_8_code 9 = .ok (.getfield 34, 3) := by decide +kernel
theorem dd_Fu_goOff_12 : decode prog_3_method_8_code 12 = .ok (.lload_n 1, 1) := by decide +kernel
theorem dd_Fu_goOff_13 : decode prog_3_method_8_code 13 = .ok (.lcmp, 1) := by decide +kernel
theorem dd_Fu_goOff_14 : decode prog_3_method_8_code 14 = .ok (.ifCond .ne 18, 3) := by decide +kernel
theorem dd_Fu_goOff_17 : decode prog_3_method_8_code 17 = .ok (.aload_n 0, 1) := by decide +kernel
theorem dd_Fu_goOff_18 : decode prog_3_method_8_code 18 = .ok (.iconst 2, 1) := by decide +kernel
theorem dd_Fu_goOff_19 : decode prog_3_method_8_code 19 = .ok (.putfield 28, 3) := by decide +kernel
theorem dd_Fu_goOff_22 : decode prog_3_method_8_code 22 = .ok (.aload_n 0, 1) := by decide +kernel
theorem dd_Fu_goOff_23 : decode prog_3_method_8_code 23 = .ok (.ldc2_w 32, 3) := by decide +kernel
theorem dd_Fu_goOff_26 : decode prog_3_method_8_code 26 = .ok (.putfield 34, 3) := by decide +kernel
theorem dd_Fu_goOff_29 : decode prog_3_method_8_code 29 = .ok (.goto 74, 3) := by decide +kernel
theorem dd_Fu_goOff_32 : decode prog_3_method_8_code 32 = .ok (.aload_n 0, 1) := by decide +kernel
theorem dd_Fu_goOff_33 : decode prog_3_method_8_code 33 = .ok (.getfield 51, 3) := by decide +kernel
theorem dd_Fu_goOff_36 : decode prog_3_method_8_code 36 = .ok (.getfield 107, 3) := by decide +kernel
theorem dd_Fu_goOff_39 : decode prog_3_method_8_code 39 = .ok (.lload_n 1, 1) := by decide +kernel
theorem dd_Fu_goOff_40 : decode prog_3_method_8_code 40 = .ok (.lcmp, 1) := by decide +kernel
theorem dd_Fu_goOff_41 : decode prog_3_method_8_code 41 = .ok (.ifCond .ne 13, 3) := by decide +kernel
theorem dd_Fu_goOff_44 : decode prog_3_method_8_code 44 = .ok (.aload_n 0, 1) := by decide +kernel
theorem dd_Fu_goOff_45 : decode prog_3_method_8_code 45 = .ok (.getfield 51, 3) := by decide +kernel
theorem dd_Fu_goOff_48 : decode prog_3_method_8_code 48 = .ok (.invokevirtual 120, 3) := by decide +kernel
theorem dd_Fu_goOff_51 : decode prog_3_method_8_code 51 = .ok (.goto 52, 3) := by decide +kernel
theorem dd_Fu_goOff_54 : decode prog_3_method_8_code 54 = .ok (.aload_n 0, 1) := by decide +kernel
theorem dd_Fu_goOff_55 : decode prog_3_method_8_code 55 = .ok (.getfield 17, 3) := by decide +kernel
theorem dd_Fu_goOff_58 : decode prog_3_method_8_code 58 = .ok (.iconst 0, 1) := by decide +kernel
theorem dd_Fu_goOff_59 : decode prog_3_method_8_code 59 = .ok (.aaload, 1) := by decide +kernel
theorem dd_Fu_goOff_60 : decode prog_3_method_8_code 60 = .ok (.getfield 116, 3) := by decide +kernel
theorem dd_Fu_goOff_63 : decode prog_3_method_8_code 63 = .ok (.lload_n 1, 1) := by decide +kernel
theorem dd_Fu_goOff_64 : decode prog_3_method_8_code 64 = .ok (.lcmp, 1) := by decide +kernel
theorem dd_Fu_goOff_65 : decode prog_3_method_8_code 65 = .ok (.ifCond .ne 15, 3) := by decide +kernel
theorem dd_Fu_goOff_68 : decode prog_3_method_8_code 68 = .ok (.aload_n 0, 1) := by decide +kernel
theorem dd_Fu_goOff_69 : decode prog_3_method_8_code 69 = .ok (.getfield 17, 3) := by decide +kernel
theorem dd_Fu_goOff_72 : decode prog_3_method_8_code 72 = .ok (.iconst 0, 1) := by decide +kernel
theorem dd_Fu_goOff_73 : decode prog_3_method_8_code 73 = .ok (.aaload, 1) := by decide +kernel
theorem dd_Fu_goOff_74 : decode prog_3_method_8_code 74 = .ok (.invokevirtual 123, 3) := by decide +kernel
theorem dd_Fu_goOff_77 : decode prog_3_method_8_code 77 = .ok (.goto 26, 3) := by decide +kernel
theorem dd_Fu_goOff_80 : decode prog_3_method_8_code 80 = .ok (.aload_n 0, 1) := by decide +kernel
theorem dd_Fu_goOff_81 : decode prog_3_method_8_code 81 = .ok (.getfield 17, 3) := by decide +kernel
theorem dd_Fu_goOff_84 : decode prog_3_method_8_code 84 = .ok (.iconst 1, 1) := by decide +kernel
theorem dd_Fu_goOff_85 : decode prog_3_method_8_code 85 = .ok (.aaload, 1) := by decide +kernel
theorem dd_Fu_goOff_86 : decode prog_3_method_8_code 86 = .ok (.getfield 116, 3) := by decide +kernel
theorem dd_Fu_goOff_89 : decode prog_3_method_8_code 89 = .ok (.lload_n 1, 1) := by decide +kernel
theorem dd_Fu_goOff_90 : decode prog_3_method_8_code 90 = .ok (.lcmp, 1) := by decide +kernel
theorem dd_Fu_goOff_91 : decode prog_3_method_8_code 91 = .ok (.ifCond .ne 12, 3) := by decide +kernel
theorem dd_Fu_goOff_94 : decode prog_3_method_8_code 94 = .ok (.aload_n 0, 1) := by decide +kernel
theorem dd_Fu_goOff_95 : decode prog_3_method_8_code 95 = .ok (.getfield 17, 3) := by decide +kernel
theorem dd_Fu_goOff_98 : decode prog_3_method_8_code 98 = .ok (.iconst 1, 1) := by decide +kernel
theorem dd_Fu_goOff_99 : decode prog_3_method_8_code 99 = .ok (.aaload, 1) := by decide +kernel
theorem dd_Fu_goOff_100 : decode prog_3_method_8_code 100 = .ok (.invokevirtual 123, 3) := by decide +kernel
theorem dd_Fu_goOff_103 : decode prog_3_method_8_code 103 = .ok (.return_, 1) := by decide +kernel
theorem dd_Fu_claim_0 : decode prog_3_method_9_code 0 = .ok (.aload_n 0, 1) := by decide +kernel
theorem dd_Fu_claim_1 : decode prog_3_method_9_code 1 = .ok (.iconst 1, 1) := by decide +kernel
theorem dd_Fu_claim_2 : decode prog_3_method_9_code 2 = .ok (.putfield 28, 3) := by decide +kernel
theorem dd_Fu_claim_5 : decode prog_3_method_9_code 5 = .ok (.aload_n 0, 1) := by decide +kernel
theorem dd_Fu_claim_6 : decode prog_3_method_9_code 6 = .ok (.getfield 42, 3) := by decide +kernel
theorem dd_Fu_claim_9 : decode prog_3_method_9_code 9 = .ok (.iload_n 1, 1) := by decide +kernel
theorem dd_Fu_claim_10 : decode prog_3_method_9_code 10 = .ok (.putfield 82, 3) := by decide +kernel
theorem dd_Fu_claim_13 : decode prog_3_method_9_code 13 = .ok (.aload_n 0, 1) := by decide +kernel
theorem dd_Fu_claim_14 : decode prog_3_method_9_code 14 = .ok (.aload_n 0, 1) := by decide +kernel
theorem dd_Fu_claim_15 : decode prog_3_method_9_code 15 = .ok (.getfield 38, 3) := by decide +kernel
theorem dd_Fu_claim_18 : decode prog_3_method_9_code 18 = .ok (.getfield 117, 3) := by decide +kernel
theorem dd_Fu_claim_21 : decode prog_3_method_9_code 21 = .ok (.ldc2_w 124, 3) := by decide +kernel
theorem dd_Fu_claim_24 : decode prog_3_method_9_code 24 = .ok (.ladd, 1) := by decide +kernel
theorem dd_Fu_claim_25 : decode prog_3_method_9_code 25 = .ok (.putfield 34, 3) := by decide +kernel
theorem dd_Fu_claim_28 : decode prog_3_method_9_code 28 = .ok (.aload_n 0, 1) := by decide +kernel
theorem dd_Fu_claim_29 : decode prog_3_method_9_code 29 = .ok (.invokevirtual 96, 3) := by decide +kernel
theorem dd_Fu_claim_32 : decode prog_3_method_9_code 32 = .ok (.return_, 1) := by decide +kernel
theorem dd_Fu_sendClaim_0 : decode prog_3_method_10_code 0 = .ok (.aload_n 0, 1) := by decide +kernel
theorem dd_Fu_sendClaim_1 : decode prog_3_method_10_code 1 = .ok (.getfield 38, 3) := by decide +kernel
theorem dd_Fu_sendClaim_4 : decode prog_3_method_10_code 4 = .ok (.aload_n 0, 1) := by decide +kernel
theorem dd_Fu_sendClaim_5 : decode prog_3_method_10_code 5 = .ok (.getfield 42, 3) := by decide +kernel
theorem dd_Fu_sendClaim_8 : decode prog_3_method_10_code 8 = .ok (.ldc 126, 2) := by decide +kernel
theorem dd_Fu_sendClaim_10 : decode prog_3_method_10_code 10 = .ok (.sipush 255, 3) := by decide +kernel
theorem dd_Fu_sendClaim_13 : decode prog_3_method_10_code 13 = .ok (.aload_n 0, 1) := by decide +kernel
theorem dd_Fu_sendClaim_14 : decode prog_3_method_10_code 14 = .ok (.getfield 56, 3) := by decide +kernel
theorem dd_Fu_sendClaim_17 : decode prog_3_method_10_code 17 = .ok (.invokevirtual 127, 3) := by decide +kernel
theorem dd_Fu_sendClaim_20 : decode prog_3_method_10_code 20 = .ok (.return_, 1) := by decide +kernel
theorem dd_Fu_takeClaim_0 : decode prog_3_method_11_code 0 = .ok (.aload_n 0, 1) := by decide +kernel
theorem dd_Fu_takeClaim_1 : decode prog_3_method_11_code 1 = .ok (.getfield 9, 3) := by decide +kernel
theorem dd_Fu_takeClaim_4 : decode prog_3_method_11_code 4 = .ok (.iload_n 1, 1) := by decide +kernel
theorem dd_Fu_takeClaim_5 : decode prog_3_method_11_code 5 = .ok (.iload_n 2, 1) := by decide +kernel
theorem dd_Fu_takeClaim_6 : decode prog_3_method_11_code 6 = .ok (.iastore, 1) := by decide +kernel
theorem dd_Fu_takeClaim_7 : decode prog_3_method_11_code 7 = .ok (.aload_n 0, 1) := by decide +kernel
theorem dd_Fu_takeClaim_8 : decode prog_3_method_11_code 8 = .ok (.getfield 28, 3) := by decide +kernel
theorem dd_Fu_takeClaim_11 : decode prog_3_method_11_code 11 = .ok (.iconst 3, 1) := by decide +kernel
theorem dd_Fu_takeClaim_12 : decode prog_3_method_11_code 12 = .ok (.if_icmp .eq 14, 3) := by decide +kernel
theorem dd_Fu_takeClaim_15 : decode prog_3_method_11_code 15 = .ok (.iload_n 2, 1) := by decide +kernel
theorem dd_Fu_takeClaim_16 : decode prog_3_method_11_code 16 = .ok (.aload_n 0, 1) := by decide +kernel
theorem dd_Fu_takeClaim_17 : decode prog_3_method_11_code 17 = .ok (.getfield 42, 3) := by decide +kernel
theorem dd_Fu_takeClaim_20 : decode prog_3_method_11_code 20 = .ok (.getfield 82, 3) := by decide +kernel
theorem dd_Fu_takeClaim_23 : decode prog_3_method_11_code 23 = .ok (.if_icmp .eq 4, 3) := by decide +kernel
theorem dd_Fu_takeClaim_26 : decode prog_3_method_11_code 26 = .ok (.return_, 1) := by decide +kernel
theorem dd_Fu_takeClaim_27 : decode prog_3_method_11_code 27 = .ok (.aload_n 0, 1) := by decide +kernel
theorem dd_Fu_takeClaim_28 : decode prog_3_method_11_code 28 = .ok (.lload_n 3, 1) := by decide +kernel
theorem dd_Fu_takeClaim_29 : decode prog_3_method_11_code 29 = .ok (.invokevirtual 131, 3) := by decide +kernel
theorem dd_Fu_takeClaim_32 : decode prog_3_method_11_code 32 = .ok (.ifCond .ne 8, 3) := by decide +kernel
theorem dd_Fu_takeClaim_35 : decode prog_3_method_11_code 35 = .ok (.aload_n 0, 1) := by decide +kernel
theorem dd_Fu_takeClaim_36 : decode prog_3_method_11_code 36 = .ok (.invokevirtual 135, 3) := by decide +kernel
theorem dd_Fu_takeClaim_39 : decode prog_3_method_11_code 39 = .ok (.return_, 1) := by decide +kernel
theorem dd_Fu_takeClaim_40 : decode prog_3_method_11_code 40 = .ok (.aload_n 0, 1) := by decide +kernel
theorem dd_Fu_takeClaim_41 : decode prog_3_method_11_code 41 = .ok (.invokevirtual 96, 3) := by decide +kernel
theorem dd_Fu_takeClaim_44 : decode prog_3_method_11_code 44 = .ok (.aload_n 0, 1) := by decide +kernel
theorem dd_Fu_takeClaim_45 : decode prog_3_method_11_code 45 = .ok (.getfield 28, 3) := by decide +kernel
theorem dd_Fu_takeClaim_48 : decode prog_3_method_11_code 48 = .ok (.iconst 1, 1) := by decide +kernel
theorem dd_Fu_takeClaim_49 : decode prog_3_method_11_code 49 = .ok (.if_icmp .ne 18, 3) := by decide +kernel
theorem dd_Fu_takeClaim_52 : decode prog_3_method_11_code 52 = .ok (.aload_n 0, 1) := by decide +kernel
theorem dd_Fu_takeClaim_53 : decode prog_3_method_11_code 53 = .ok (.aload_n 0, 1) := by decide +kernel
theorem dd_Fu_takeClaim_54 : decode prog_3_method_11_code 54 = .ok (.getfield 38, 3) := by decide +kernel
theorem dd_Fu_takeClaim_57 : decode prog_3_method_11_code 57 = .ok (.getfield 117, 3) := by decide +kernel
theorem dd_Fu_takeClaim_60 : decode prog_3_method_11_code 60 = .ok (.ldc2_w 124, 3) := by decide +kernel
theorem dd_Fu_takeClaim_63 : decode prog_3_method_11_code 63 = .ok (.ladd, 1) := by decide +kernel
theorem dd_Fu_takeClaim_64 : decode prog_3_method_11_code 64 = .ok (.putfield 34, 3) := by decide +kernel
theorem dd_Fu_takeClaim_67 : decode prog_3_method_11_code 67 = .ok (.return_, 1) := by decide +kernel
theorem dd_Fu_isNameLessThan_0 : decode prog_3_method_12_code 0 = .ok (.aload_n 0, 1) := by decide +kernel
theorem dd_Fu_isNameLessThan_1 : decode prog_3_method_12_code 1 = .ok (.getfield 56, 3) := by decide +kernel
theorem dd_Fu_isNameLessThan_4 : decode prog_3_method_12_code 4 = .ok (.ldc2_w 138, 3) := by decide +kernel
theorem dd_Fu_isNameLessThan_7 : decode prog_3_method_12_code 7 = .ok (.lxor, 1) := by decide +kernel
theorem dd_Fu_isNameLessThan_8 : decode prog_3_method_12_code 8 = .ok (.lload_n 1, 1) := by decide +kernel
theorem dd_Fu_isNameLessThan_9 : decode prog_3_method_12_code 9 = .ok (.ldc2_w 138, 3) := by decide +kernel
theorem dd_Fu_isNameLessThan_12 : decode prog_3_method_12_code 12 = .ok (.lxor, 1) := by decide +kernel
theorem dd_Fu_isNameLessThan_13 : decode prog_3_method_12_code 13 = .ok (.lcmp, 1) := by decide +kernel
theorem dd_Fu_isNameLessThan_14 : decode prog_3_method_12_code 14 = .ok (.ifCond .ge 7, 3) := by decide +kernel
theorem dd_Fu_isNameLessThan_17 : decode prog_3_method_12_code 17 = .ok (.iconst 1, 1) := by decide +kernel
theorem dd_Fu_isNameLessThan_18 : decode prog_3_method_12_code 18 = .ok (.goto 4, 3) := by decide +kernel
theorem dd_Fu_isNameLessThan_21 : decode prog_3_method_12_code 21 = .ok (.iconst 0, 1) := by decide +kernel
theorem dd_Fu_isNameLessThan_22 : decode prog_3_method_12_code 22 = .ok (.ireturn, 1) := by decide +kernel
theorem dd_Fu_loseAddress_0 : decode prog_3_method_13_code 0 = .ok (.aload_n 0, 1) := by decide +kernel
theorem dd_Fu_loseAddress_1 : decode prog_3_method_13_code 1 = .ok (.invokevirtual 69, 3) := by decide +kernel
theorem dd_Fu_loseAddress_4 : decode prog_3_method_13_code 4 = .ok (.aload_n 0, 1) := by decide +kernel
theorem dd_Fu_loseAddress_5 : decode prog_3_method_13_code 5 = .ok (.invokevirtual 140, 3) := by decide +kernel
theorem dd_Fu_loseAddress_8 : decode prog_3_method_13_code 8 = .ok (.istore_n 1, 1) := by decide +kernel
theorem dd_Fu_loseAddress_9 : decode prog_3_method_13_code 9 = .ok (.aload_n 0, 1) := by decide +kernel
theorem dd_Fu_loseAddress_10 : decode prog_3_method_13_code 10 = .ok (.getfield 56, 3) := by decide +kernel
theorem dd_Fu_loseAddress_13 : decode prog_3_method_13_code 13 = .ok (.lconst 0, 1) := by decide +kernel
theorem dd_Fu_loseAddress_14 : decode prog_3_method_13_code 14 = .ok (.lcmp, 1) := by decide +kernel
theorem dd_Fu_loseAddress_15 : decode prog_3_method_13_code 15 = .ok (.ifCond .ge 16, 3) := by decide +kernel
theorem dd_Fu_loseAddress_18 : decode prog_3_method_13_code 18 = .ok (.iload_n 1, 1) := by decide +kernel
theorem dd_Fu_loseAddress_19 : decode prog_3_method_13_code 19 = .ok (.sipush 131, 3) := by decide +kernel
theorem dd_Fu_loseAddress_22 : decode prog_3_method_13_code 22 = .ok (.if_icmp .gt 9, 3) := by decide +kernel
theorem dd_Fu_loseAddress_25 : decode prog_3_method_13_code 25 = .ok (.aload_n 0, 1) := by decide +kernel
theorem dd_Fu_loseAddress_26 : decode prog_3_method_13_code 26 = .ok (.iload_n 1, 1) := by decide +kernel
theorem dd_Fu_loseAddress_27 : decode prog_3_method_13_code 27 = .ok (.invokevirtual 65, 3) := by decide +kernel
theorem dd_Fu_loseAddress_30 : decode prog_3_method_13_code 30 = .ok (.return_, 1) := by decide +kernel
theorem dd_Fu_loseAddress_31 : decode prog_3_method_13_code 31 = .ok (.aload_n 0, 1) := by decide +kernel
theorem dd_Fu_loseAddress_32 : decode prog_3_method_13_code 32 = .ok (.iconst 3, 1) := by decide +kernel
theorem dd_Fu_loseAddress_33 : decode prog_3_method_13_code 33 = .ok (.putfield 28, 3) := by decide +kernel
theorem dd_Fu_loseAddress_36 : decode prog_3_method_13_code 36 = .ok (.aload_n 0, 1) := by decide +kernel
theorem dd_Fu_loseAddress_37 : decode prog_3_method_13_code 37 = .ok (.getfield 42, 3) := by decide +kernel
theorem dd_Fu_loseAddress_40 : decode prog_3_method_13_code 40 = .ok (.sipush 254, 3) := by decide +kernel
theorem dd_Fu_loseAddress_43 : decode prog_3_method_13_code 43 = .ok (.putfield 82, 3) := by decide +kernel
theorem dd_Fu_loseAddress_46 : decode prog_3_method_13_code 46 = .ok (.aload_n 0, 1) := by decide +kernel
theorem dd_Fu_loseAddress_47 : decode prog_3_method_13_code 47 = .ok (.ldc2_w 32, 3) := by decide +kernel
theorem dd_Fu_loseAddress_50 : decode prog_3_method_13_code 50 = .ok (.putfield 34, 3) := by decide +kernel
theorem dd_Fu_loseAddress_53 : decode prog_3_method_13_code 53 = .ok (.aload_n 0, 1) := by decide +kernel
theorem dd_Fu_loseAddress_54 : decode prog_3_method_13_code 54 = .ok (.invokevirtual 96, 3) := by decide +kernel
theorem dd_Fu_loseAddress_57 : decode prog_3_method_13_code 57 = .ok (.return_, 1) := by decide +kernel
theorem dd_Fu_spareAddress_0 : decode prog_3_method_14_code 0 = .ok (.sipush 128, 3) := by decide +kernel
theorem dd_Fu_spareAddress_3 : decode prog_3_method_14_code 3 = .ok (.istore_n 1, 1) := by decide +kernel
theorem dd_Fu_spareAddress_4 : decode prog_3_method_14_code 4 = .ok (.iload_n 1, 1) := by decide +kernel
theorem dd_Fu_spareAddress_5 : decode prog_3_method_14_code 5 = .ok (.sipush 131, 3) := by decide +kernel
theorem dd_Fu_spareAddress_8 : decode prog_3_method_14_code 8 = .ok (.if_icmp .gt 17, 3) := by decide +kernel
theorem dd_Fu_spareAddress_11 : decode prog_3_method_14_code 11 = .ok (.aload_n 0, 1) := by decide +kernel
theorem dd_Fu_spareAddress_12 : decode prog_3_method_14_code 12 = .ok (.iload_n 1, 1) := by decide +kernel
theorem dd_Fu_spareAddress_13 : decode prog_3_method_14_code 13 = .ok (.invokevirtual 144, 3) := by decide +kernel
theorem dd_Fu_spareAddress_16 : decode prog_3_method_14_code 16 = .ok (.ifCond .eq 9, 3) := by decide +kernel
theorem dd_Fu_spareAddress_19 : decode prog_3_method_14_code 19 = .ok (.iinc 1 1, 3) := by decide +kernel
theorem dd_Fu_spareAddress_22 : decode prog_3_method_14_code 22 = .ok (.goto (-18), 3) := by decide +kernel
theorem dd_Fu_spareAddress_25 : decode prog_3_method_14_code 25 = .ok (.iload_n 1, 1) := by decide +kernel
theorem dd_Fu_spareAddress_26 : decode prog_3_method_14_code 26 = .ok (.ireturn, 1) := by decide +kernel
theorem dd_Fu_isNoted_0 : decode prog_3_method_15_code 0 = .ok (.iconst 0, 1) := by decide +kernel
theorem dd_Fu_isNoted_1 : decode prog_3_method_15_code 1 = .ok (.istore_n 2, 1) := by decide +kernel
theorem dd_Fu_isNoted_2 : decode prog_3_method_15_code 2 = .ok (.iload_n 2, 1) := by decide +kernel
theorem dd_Fu_isNoted_3 : decode prog_3_method_15_code 3 = .ok (.iconst 5, 1) := by decide +kernel
theorem dd_Fu_isNoted_4 : decode prog_3_method_15_code 4 = .ok (.if_icmp .ge 21, 3) := by decide +kernel
theorem dd_Fu_isNoted_7 : decode prog_3_method_15_code 7 = .ok (.aload_n 0, 1) := by decide +kernel
theorem dd_Fu_isNoted_8 : decode prog_3_method_15_code 8 = .ok (.getfield 9, 3) := by decide +kernel
theorem dd_Fu_isNoted_11 : decode prog_3_method_15_code 11 = .ok (.iload_n 2, 1) := by decide +kernel
theorem dd_Fu_isNoted_12 : decode prog_3_method_15_code 12 = .ok (.iaload, 1) := by decide +kernel
theorem dd_Fu_isNoted_13 : decode prog_3_method_15_code 13 = .ok (.iload_n 1, 1) := by decide +kernel
theorem dd_Fu_isNoted_14 : decode prog_3_method_15_code 14 = .ok (.if_icmp .ne 5, 3) := by decide +kernel
theorem dd_Fu_isNoted_17 : decode prog_3_method_15_code 17 = .ok (.iconst 1, 1) := by decide +kernel
theorem dd_Fu_isNoted_18 : decode prog_3_method_15_code 18 = .ok (.ireturn, 1) := by decide +kernel
theorem dd_Fu_isNoted_19 : decode prog_3_method_15_code 19 = .ok (.iinc 2 1, 3) := by decide +kernel
theorem dd_Fu_isNoted_22 : decode prog_3_method_15_code 22 = .ok (.goto (-20), 3) := by decide +kernel
theorem dd_Fu_isNoted_25 : decode prog_3_method_15_code 25 = .ok (.iconst 0, 1) := by decide +kernel
theorem dd_Fu_isNoted_26 : decode prog_3_method_15_code 26 = .ok (.ireturn, 1) := by decide +kernel
theorem dd_Fu_endSessions_0 : decode prog_3_method_16_code 0 = .ok (.aload_n 0, 1) := by decide +kernel
theorem dd_Fu_endSessions_1 : decode prog_3_method_16_code 1 = .ok (.getfield 51, 3) := by decide +kernel
theorem dd_Fu_endSessions_4 : decode prog_3_method_16_code 4 = .ok (.getfield 85, 3) := by decide +kernel
theorem dd_Fu_endSessions_7 : decode prog_3_method_16_code 7 = .ok (.ifCond .eq 12, 3) := by decide +kernel
theorem dd_Fu_endSessions_10 : decode prog_3_method_16_code 10 = .ok (.aload_n 0, 1) := by decide +kernel
theorem dd_Fu_endSessions_11 : decode prog_3_method_16_code 11 = .ok (.getfield 51, 3) := by decide +kernel
theorem dd_Fu_endSessions_14 : decode prog_3_method_16_code 14 = .ok (.bipush 13, 2) := by decide +kernel
theorem dd_Fu_endSessions_16 : decode prog_3_method_16_code 16 = .ok (.invokevirtual 148, 3) := by decide +kernel
theorem dd_Fu_endSessions_19 : decode prog_3_method_16_code 19 = .ok (.iconst 0, 1) := by decide +kernel
theorem dd_Fu_endSessions_20 : decode prog_3_method_16_code 20 = .ok (.istore_n 1, 1) := by decide +kernel
theorem dd_Fu_endSessions_21 : decode prog_3_method_16_code 21 = .ok (.iload_n 1, 1) := by decide +kernel
theorem dd_Fu_endSessions_22 : decode prog_3_method_16_code 22 = .ok (.iconst 2, 1) := by decide +kernel
theorem dd_Fu_endSessions_23 : decode prog_3_method_16_code 23 = .ok (.if_icmp .ge 18, 3) := by decide +kernel
theorem dd_Fu_endSessions_26 : decode prog_3_method_16_code 26 = .ok (.aload_n 0, 1) := by decide +kernel
theorem dd_Fu_endSessions_27 : decode prog_3_method_16_code 27 = .ok (.getfield 17, 3) := by decide +kernel
theorem dd_Fu_endSessions_30 : decode prog_3_method_16_code 30 = .ok (.iload_n 1, 1) := by decide +kernel
theorem dd_Fu_endSessions_31 : decode prog_3_method_16_code 31 = .ok (.aaload, 1) := by decide +kernel
theorem dd_Fu_endSessions_32 : decode prog_3_method_16_code 32 = .ok (.invokevirtual 151, 3) := by decide +kernel
theorem dd_Fu_endSessions_35 : decode prog_3_method_16_code 35 = .ok (.iinc 1 1, 3) := by decide +kernel
theorem dd_Fu_endSessions_38 : decode prog_3_method_16_code 38 = .ok (.goto (-17), 3) := by decide +kernel
theorem dd_Fu_endSessions_41 : decode prog_3_method_16_code 41 = .ok (.return_, 1) := by decide +kernel
theorem dd_Fu_takeControl_0 : decode prog_3_method_17_code 0 = .ok (.lload_n 2, 1) := by decide +kernel
theorem dd_Fu_takeControl_1 : decode prog_3_method_17_code 1 = .ok (.iconst 1, 1) := by decide +kernel
theorem dd_Fu_takeControl_2 : decode prog_3_method_17_code 2 = .ok (.invokestatic 153, 3) := by decide +kernel
theorem dd_Fu_takeControl_5 : decode prog_3_method_17_code 5 = .ok (.istore 4, 2) := by decide +kernel
theorem dd_Fu_takeControl_7 : decode prog_3_method_17_code 7 = .ok (.lload_n 2, 1) := by decide +kernel
theorem dd_Fu_takeControl_8 : decode prog_3_method_17_code 8 = .ok (.bipush 40, 2) := by decide +kernel
theorem dd_Fu_takeControl_10 : decode prog_3_method_17_code 10 = .ok (.lushr, 1) := by decide +kernel
theorem dd_Fu_takeControl_11 : decode prog_3_method_17_code 11 = .ok (.l2i, 1) := by decide +kernel
theorem dd_Fu_takeControl_12 : decode prog_3_method_17_code 12 = .ok (.istore 5, 2) := by decide +kernel
theorem dd_Fu_takeControl_14 : decode prog_3_method_17_code 14 = .ok (.aload_n 0, 1) := by decide +kernel
theorem dd_Fu_takeControl_15 : decode prog_3_method_17_code 15 = .ok (.getfield 51, 3) := by decide +kernel
theorem dd_Fu_takeControl_18 : decode prog_3_method_17_code 18 = .ok (.iload_n 1, 1) := by decide +kernel
theorem dd_Fu_takeControl_19 : decode prog_3_method_17_code 19 = .ok (.iload 5, 2) := by decide +kernel
theorem dd_Fu_takeControl_21 : decode prog_3_method_17_code 21 = .ok (.invokevirtual 157, 3) := by decide +kernel
theorem dd_Fu_takeControl_24 : decode prog_3_method_17_code 24 = .ok (.istore 6, 2) := by decide +kernel
theorem dd_Fu_takeControl_26 : decode prog_3_method_17_code 26 = .ok (.iload 4, 2) := by decide +kernel
theorem dd_Fu_takeControl_28 : decode prog_3_method_17_code 28 = .ok (.bipush 16, 2) := by decide +kernel
theorem dd_Fu_takeControl_30 : decode prog_3_method_17_code 30 = .ok (.if_icmp .eq 10, 3) := by decide +kernel
theorem dd_Fu_takeControl_33 : decode prog_3_method_17_code 33 = .ok (.iload 4, 2) := by decide +kernel
theorem dd_Fu_takeControl_35 : decode prog_3_method_17_code 35 = .ok (.bipush 32, 2) := by decide +kernel
theorem dd_Fu_takeControl_37 : decode prog_3_method_17_code 37 = .ok (.if_icmp .ne 26, 3) := by decide +kernel
theorem dd_Fu_takeControl_40 : decode prog_3_method_17_code 40 = .ok (.aload_n 0, 1) := by decide +kernel
theorem dd_Fu_takeControl_41 : decode prog_3_method_17_code 41 = .ok (.iload_n 1, 1) := by decide +kernel
theorem dd_Fu_takeControl_42 : decode prog_3_method_17_code 42 = .ok (.iload 5, 2) := by decide +kernel
theorem dd_Fu_takeControl_44 : decode prog_3_method_17_code 44 = .ok (.lload_n 2, 1) := by decide +kernel
theorem dd_Fu_takeControl_45 : decode prog_3_method_17_code 45 = .ok (.iload 4, 2) := by decide +kernel
theorem dd_Fu_takeControl_47 : decode prog_3_method_17_code 47 = .ok (.bipush 32, 2) := by decide +kernel
theorem dd_Fu_takeControl_49 : decode prog_3_method_17_code 49 = .ok (.if_icmp .ne 7, 3) := by decide +kernel
theorem dd_Fu_takeControl_52 : decode prog_3_method_17_code 52 = .ok (.iconst 1, 1) := by decide +kernel
theorem dd_Fu_takeControl_53 : decode prog_3_method_17_code 53 = .ok (.goto 4, 3) := by decide +kernel
theorem dd_Fu_takeControl_56 : decode prog_3_method_17_code 56 = .ok (.iconst 0, 1) := by decide +kernel
theorem dd_Fu_takeControl_57 : decode prog_3_method_17_code 57 = .ok (.invokevirtual 161, 3) := by decide +kernel
theorem dd_Fu_takeControl_60 : decode prog_3_method_17_code 60 = .ok (.goto 94, 3) := by decide +kernel
theorem dd_Fu_takeControl_63 : decode prog_3_method_17_code 63 = .ok (.iload 4, 2) := by decide +kernel
theorem dd_Fu_takeControl_65 : decode prog_3_method_17_code 65 = .ok (.bipush 17, 2) := by decide +kernel
theorem dd_Fu_takeControl_67 : decode prog_3_method_17_code 67 = .ok (.if_icmp .ne 28, 3) := by decide +kernel
theorem dd_Fu_takeControl_70 : decode prog_3_method_17_code 70 = .ok (.iload 6, 2) := by decide +kernel
theorem dd_Fu_takeControl_72 : decode prog_3_method_17_code 72 = .ok (.ifCond .eq 23, 3) := by decide +kernel
theorem dd_Fu_takeControl_75 : decode prog_3_method_17_code 75 = .ok (.aload_n 0, 1) := by decide +kernel
theorem dd_Fu_takeControl_76 : decode prog_3_method_17_code 76 = .ok (.getfield 51, 3) := by decide +kernel
theorem dd_Fu_takeControl_79 : decode prog_3_method_17_code 79 = .ok (.lload_n 2, 1) := by decide +kernel
theorem dd_Fu_takeControl_80 : decode prog_3_method_17_code 80 = .ok (.iconst 2, 1) := by decide +kernel
theorem dd_Fu_takeControl_81 : decode prog_3_method_17_code 81 = .ok (.invokestatic 153, 3) := by decide +kernel
theorem dd_Fu_takeControl_84 : decode prog_3_method_17_code 84 = .ok (.lload_n 2, 1) := by decide +kernel
theorem dd_Fu_takeControl_85 : decode prog_3_method_17_code 85 = .ok (.iconst 3, 1) := by decide +kernel
theorem dd_Fu_takeControl_86 : decode prog_3_method_17_code 86 = .ok (.invokestatic 153, 3) := by decide +kernel
theorem dd_Fu_takeControl_89 : decode prog_3_method_17_code 89 = .ok (.invokevirtual 165, 3) := by decide +kernel
theorem dd_Fu_takeControl_92 : decode prog_3_method_17_code 92 = .ok (.goto 62, 3) := by decide +kernel
theorem dd_Fu_takeControl_95 : decode prog_3_method_17_code 95 = .ok (.iload 4, 2) := by decide +kernel
theorem dd_Fu_takeControl_97 : decode prog_3_method_17_code 97 = .ok (.bipush 19, 2) := by decide +kernel
theorem dd_Fu_takeControl_99 : decode prog_3_method_17_code 99 = .ok (.if_icmp .ne 20, 3) := by decide +kernel
theorem dd_Fu_takeControl_102 : decode prog_3_method_17_code 102 = .ok (.iload 6, 2) := by decide +kernel
theorem dd_Fu_takeControl_104 : decode prog_3_method_17_code 104 = .ok (.ifCond .eq 15, 3) := by decide +kernel
theorem dd_Fu_takeControl_107 : decode prog_3_method_17_code 107 = .ok (.aload_n 0, 1) := by decide +kernel
theorem dd_Fu_takeControl_108 : decode prog_3_method_17_code 108 = .ok (.getfield 51, 3) := by decide +kernel
theorem dd_Fu_takeControl_111 : decode prog_3_method_17_code 111 = .ok (.bipush 10, 2) := by decide +kernel
theorem dd_Fu_takeControl_113 : decode prog_3_method_17_code 113 = .ok (.invokevirtual 148, 3) := by decide +kernel
theorem dd_Fu_takeControl_116 : decode prog_3_method_17_code 116 = .ok (.goto 38, 3) := by decide +kernel
theorem dd_Fu_takeControl_119 : decode prog_3_method_17_code 119 = .ok (.iload 4, 2) := by decide +kernel
theorem dd_Fu_takeControl_121 : decode prog_3_method_17_code 121 = .ok (.sipush 255, 3) := by decide +kernel
theorem dd_Fu_takeControl_124 : decode prog_3_method_17_code 124 = .ok (.if_icmp .ne 30, 3) := by decide +kernel
theorem dd_Fu_takeControl_127 : decode prog_3_method_17_code 127 = .ok (.iload 6, 2) := by decide +kernel
theorem dd_Fu_takeControl_129 : decode prog_3_method_17_code 129 = .ok (.ifCond .eq 18, 3) := by decide +kernel
theorem dd_Fu_takeControl_132 : decode prog_3_method_17_code 132 = .ok (.aload_n 0, 1) := by decide +kernel
theorem dd_Fu_takeControl_133 : decode prog_3_method_17_code 133 = .ok (.getfield 51, 3) := by decide +kernel
theorem dd_Fu_takeControl_136 : decode prog_3_method_17_code 136 = .ok (.bipush 20, 2) := by decide +kernel
theorem dd_Fu_takeControl_138 : decode prog_3_method_17_code 138 = .ok (.lload_n 2, 1) := by decide +kernel
theorem dd_Fu_takeControl_139 : decode prog_3_method_17_code 139 = .ok (.iconst 2, 1) := by decide +kernel
theorem dd_Fu_takeControl_140 : decode prog_3_method_17_code 140 = .ok (.invokestatic 153, 3) := by decide +kernel
theorem dd_Fu_takeControl_143 : decode prog_3_method_17_code 143 = .ok (.iadd, 1) := by decide +kernel
theorem dd_Fu_takeControl_144 : decode prog_3_method_17_code 144 = .ok (.invokevirtual 148, 3) := by decide +kernel
theorem dd_Fu_takeControl_147 : decode prog_3_method_17_code 147 = .ok (.aload_n 0, 1) := by decide +kernel
theorem dd_Fu_takeControl_148 : decode prog_3_method_17_code 148 = .ok (.iload_n 1, 1) := by decide +kernel
theorem dd_Fu_takeControl_149 : decode prog_3_method_17_code 149 = .ok (.iload 5, 2) := by decide +kernel
theorem dd_Fu_takeControl_151 : decode prog_3_method_17_code 151 = .ok (.invokevirtual 169, 3) := by decide +kernel
theorem dd_Fu_takeControl_154 : decode prog_3_method_17_code 154 = .ok (.return_, 1) := by decide +kernel
theorem dd_Fu_takeOpening_0 : decode prog_3_method_18_code 0 = .ok (.iconst 0, 1) := by decide +kernel
theorem dd_Fu_takeOpening_1 : decode prog_3_method_18_code 1 = .ok (.istore 6, 2) := by decide +kernel
theorem dd_Fu_takeOpening_3 : decode prog_3_method_18_code 3 = .ok (.iload 6, 2) := by decide +kernel
theorem dd_Fu_takeOpening_5 : decode prog_3_method_18_code 5 = .ok (.iconst 2, 1) := by decide +kernel
theorem dd_Fu_takeOpening_6 : decode prog_3_method_18_code 6 = .ok (.if_icmp .ge 35, 3) := by decide +kernel
theorem dd_Fu_takeOpening_9 : decode prog_3_method_18_code 9 = .ok (.aload_n 0, 1) := by decide +kernel
theorem dd_Fu_takeOpening_10 : decode prog_3_method_18_code 10 = .ok (.getfield 17, 3) := by decide +kernel
theorem dd_Fu_takeOpening_13 : decode prog_3_method_18_code 13 = .ok (.iload 6, 2) := by decide +kernel
theorem dd_Fu_takeOpening_15 : decode prog_3_method_18_code 15 = .ok (.aaload, 1) := by decide +kernel
theorem dd_Fu_takeOpening_16 : decode prog_3_method_18_code 16 = .ok (.iload_n 1, 1) := by decide +kernel
theorem dd_Fu_takeOpening_17 : decode prog_3_method_18_code 17 = .ok (.iload 5, 2) := by decide +kernel
theorem dd_Fu_takeOpening_19 : decode prog_3_method_18_code 19 = .ok (.invokevirtual 172, 3) := by decide +kernel
theorem dd_Fu_takeOpening_22 : decode prog_3_method_18_code 22 = .ok (.ifCond .eq 13, 3) := by decide +kernel
theorem dd_Fu_takeOpening_25 : decode prog_3_method_18_code 25 = .ok (.aload_n 0, 1) := by decide +kernel
theorem dd_Fu_takeOpening_26 : decode prog_3_method_18_code 26 = .ok (.getfield 17, 3) := by decide +kernel
theorem dd_Fu_takeOpening_29 : decode prog_3_method_18_code 29 = .ok (.iload 6, 2) := by decide +kernel
theorem dd_Fu_takeOpening_31 : decode prog_3_method_18_code 31 = .ok (.aaload, 1) := by decide +kernel
theorem dd_Fu_takeOpening_32 : decode prog_3_method_18_code 32 = .ok (.invokevirtual 151, 3) := by decide +kernel
theorem dd_Fu_takeOpening_35 : decode prog_3_method_18_code 35 = .ok (.iinc 6 1, 3) := by decide +kernel
theorem dd_Fu_takeOpening_38 : decode prog_3_method_18_code 38 = .ok (.goto (-35), 3) := by decide +kernel
theorem dd_Fu_takeOpening_41 : decode prog_3_method_18_code 41 = .ok (.aload_n 0, 1) := by decide +kernel
theorem dd_Fu_takeOpening_42 : decode prog_3_method_18_code 42 = .ok (.invokevirtual 176, 3) := by decide +kernel
theorem dd_Fu_takeOpening_45 : decode prog_3_method_18_code 45 = .ok (.iconst 2, 1) := by decide +kernel
theorem dd_Fu_takeOpening_46 : decode prog_3_method_18_code 46 = .ok (.if_icmp .ge 35, 3) := by decide +kernel
theorem dd_Fu_takeOpening_49 : decode prog_3_method_18_code 49 = .ok (.lload_n 3, 1) := by decide +kernel
theorem dd_Fu_takeOpening_50 : decode prog_3_method_18_code 50 = .ok (.iconst 2, 1) := by decide +kernel
theorem dd_Fu_takeOpening_51 : decode prog_3_method_18_code 51 = .ok (.invokestatic 153, 3) := by decide +kernel
theorem dd_Fu_takeOpening_54 : decode prog_3_method_18_code 54 = .ok (.lload_n 3, 1) := by decide +kernel
theorem dd_Fu_takeOpening_55 : decode prog_3_method_18_code 55 = .ok (.iconst 3, 1) := by decide +kernel
theorem dd_Fu_takeOpening_56 : decode prog_3_method_18_code 56 = .ok (.invokestatic 153, 3) := by decide +kernel
theorem dd_Fu_takeOpening_59 : decode prog_3_method_18_code 59 = .ok (.bipush 8, 2) := by decide +kernel
theorem dd_Fu_takeOpening_61 : decode prog_3_method_18_code 61 = .ok (.ishl, 1) := by decide +kernel
theorem dd_Fu_takeOpening_62 : decode prog_3_method_18_code 62 = .ok (.iadd, 1) := by decide +kernel
theorem dd_Fu_takeOpening_63 : decode prog_3_method_18_code 63 = .ok (.istore 6, 2) := by decide +kernel
theorem dd_Fu_takeOpening_65 : decode prog_3_method_18_code 65 = .ok (.aload_n 0, 1) := by decide +kernel
theorem dd_Fu_takeOpening_66 : decode prog_3_method_18_code 66 = .ok (.invokevirtual 179, 3) := by decide +kernel
theorem dd_Fu_takeOpening_69 : decode prog_3_method_18_code 69 = .ok (.iload_n 1, 1) := by decide +kernel
theorem dd_Fu_takeOpening_70 : decode prog_3_method_18_code 70 = .ok (.iload_n 2, 1) := by decide +kernel
theorem dd_Fu_takeOpening_71 : decode prog_3_method_18_code 71 = .ok (.iload 6, 2) := by decide +kernel
theorem dd_Fu_takeOpening_73 : decode prog_3_method_18_code 73 = .ok (.iload 5, 2) := by decide +kernel
theorem dd_Fu_takeOpening_75 : decode prog_3_method_18_code 75 = .ok (.invokevirtual 183, 3) := by decide +kernel
theorem dd_Fu_takeOpening_78 : decode prog_3_method_18_code 78 = .ok (.goto 27, 3) := by decide +kernel
theorem dd_Fu_takeOpening_81 : decode prog_3_method_18_code 81 = .ok (.iload 5, 2) := by decide +kernel
theorem dd_Fu_takeOpening_83 : decode prog_3_method_18_code 83 = .ok (.ifCond .ne 22, 3) := by decide +kernel
theorem dd_Fu_takeOpening_86 : decode prog_3_method_18_code 86 = .ok (.aload_n 0, 1) := by decide +kernel
theorem dd_Fu_takeOpening_87 : decode prog_3_method_18_code 87 = .ok (.getfield 38, 3) := by decide +kernel
theorem dd_Fu_takeOpening_90 : decode prog_3_method_18_code 90 = .ok (.aload_n 0, 1) := by decide +kernel
theorem dd_Fu_takeOpening_91 : decode prog_3_method_18_code 91 = .ok (.getfield 42, 3) := by decide +kernel
theorem dd_Fu_takeOpening_94 : decode prog_3_method_18_code 94 = .ok (.ldc 187, 2) := by decide +kernel
theorem dd_Fu_takeOpening_96 : decode prog_3_method_18_code 96 = .ok (.iload_n 1, 1) := by decide +kernel
theorem dd_Fu_takeOpening_97 : decode prog_3_method_18_code 97 = .ok (.iconst 2, 1) := by decide +kernel
theorem dd_Fu_takeOpening_98 : decode prog_3_method_18_code 98 = .ok (.iload_n 2, 1) := by decide +kernel
theorem dd_Fu_takeOpening_99 : decode prog_3_method_18_code 99 = .ok (.invokestatic 188, 3) := by decide +kernel
theorem dd_Fu_takeOpening_102 : decode prog_3_method_18_code 102 = .ok (.invokevirtual 127, 3) := by decide +kernel
theorem dd_Fu_takeOpening_105 : decode prog_3_method_18_code 105 = .ok (.return_, 1) := by decide +kernel
theorem dd_Fu_roomForIncoming_0 : decode prog_3_method_19_code 0 = .ok (.aload_n 0, 1) := by decide +kernel
theorem dd_Fu_roomForIncoming_1 : decode prog_3_method_19_code 1 = .ok (.getfield 17, 3) := by decide +kernel
theorem dd_Fu_roomForIncoming_4 : decode prog_3_method_19_code 4 = .ok (.iconst 1, 1) := by decide +kernel
theorem dd_Fu_roomForIncoming_5 : decode prog_3_method_19_code 5 = .ok (.aaload, 1) := by decide +kernel
theorem dd_Fu_roomForIncoming_6 : decode prog_3_method_19_code 6 = .ok (.getfield 88, 3) := by decide +kernel
theorem dd_Fu_roomForIncoming_9 : decode prog_3_method_19_code 9 = .ok (.ifCond .eq 29, 3) := by decide +kernel
theorem dd_Fu_roomForIncoming_12 : decode prog_3_method_19_code 12 = .ok (.aload_n 0, 1) := by decide +kernel
theorem dd_Fu_roomForIncoming_13 : decode prog_3_method_19_code 13 = .ok (.getfield 17, 3) := by decide +kernel
theorem dd_Fu_roomForIncoming_16 : decode prog_3_method_19_code 16 = .ok (.iconst 0, 1) := by decide +kernel
theorem dd_Fu_roomForIncoming_17 : decode prog_3_method_19_code 17 = .ok (.aaload, 1) := by decide +kernel
theorem dd_Fu_roomForIncoming_18 : decode prog_3_method_19_code 18 = .ok (.astore_n 1, 1) := by decide +kernel
theorem dd_Fu_roomForIncoming_19 : decode prog_3_method_19_code 19 = .ok (.aload_n 0, 1) := by decide +kernel
theorem dd_Fu_roomForIncoming_20 : decode prog_3_method_19_code 20 = .ok (.getfield 17, 3) := by decide +kernel
theorem dd_Fu_roomForIncoming_23 : decode prog_3_method_19_code 23 = .ok (.iconst 0, 1) := by decide +kernel
theorem dd_Fu_roomForIncoming_24 : decode prog_3_method_19_code 24 = .ok (.aload_n 0, 1) := by decide +kernel
theorem dd_Fu_roomForIncoming_25 : decode prog_3_method_19_code 25 = .ok (.getfield 17, 3) := by decide +kernel
theorem dd_Fu_roomForIncoming_28 : decode prog_3_method_19_code 28 = .ok (.iconst 1, 1) := by decide +kernel
theorem dd_Fu_roomForIncoming_29 : decode prog_3_method_19_code 29 = .ok (.aaload, 1) := by decide +kernel
theorem dd_Fu_roomForIncoming_30 : decode prog_3_method_19_code 30 = .ok (.aastore, 1) := by decide +kernel
theorem dd_Fu_roomForIncoming_31 : decode prog_3_method_19_code 31 = .ok (.aload_n 0, 1) := by decide +kernel
theorem dd_Fu_roomForIncoming_32 : decode prog_3_method_19_code 32 = .ok (.getfield 17, 3) := by decide +kernel
theorem dd_Fu_roomForIncoming_35 : decode prog_3_method_19_code 35 = .ok (.iconst 1, 1) := by decide +kernel
theorem dd_Fu_roomForIncoming_36 : decode prog_3_method_19_code 36 = .ok (.aload_n 1, 1) := by decide +kernel
theorem dd_Fu_roomForIncoming_37 : decode prog_3_method_19_code 37 = .ok (.aastore, 1) := by decide +kernel
theorem dd_Fu_roomForIncoming_38 : decode prog_3_method_19_code 38 = .ok (.aload_n 0, 1) := by decide +kernel
theorem dd_Fu_roomForIncoming_39 : decode prog_3_method_19_code 39 = .ok (.getfield 17, 3) := by decide +kernel
theorem dd_Fu_roomForIncoming_42 : decode prog_3_method_19_code 42 = .ok (.iconst 1, 1) := by decide +kernel
theorem dd_Fu_roomForIncoming_43 : decode prog_3_method_19_code 43 = .ok (.aaload, 1) := by decide +kernel
theorem dd_Fu_roomForIncoming_44 : decode prog_3_method_19_code 44 = .ok (.areturn, 1) := by decide +kernel
theorem dd_Fu_abortIncoming_0 : decode prog_3_method_20_code 0 = .ok (.iconst 0, 1) := by decide +kernel
theorem dd_Fu_abortIncoming_1 : decode prog_3_method_20_code 1 = .ok (.istore_n 3, 1) := by decide +kernel
theorem dd_Fu_abortIncoming_2 : decode prog_3_method_20_code 2 = .ok (.iload_n 3, 1) := by decide +kernel
theorem dd_Fu_abortIncoming_3 : decode prog_3_method_20_code 3 = .ok (.iconst 2, 1) := by decide +kernel
theorem dd_Fu_abortIncoming_4 : decode prog_3_method_20_code 4 = .ok (.if_icmp .ge 48, 3) := by decide +kernel
theorem dd_Fu_abortIncoming_7 : decode prog_3_method_20_code 7 = .ok (.aload_n 0, 1) := by decide +kernel
theorem dd_Fu_abortIncoming_8 : decode prog_3_method_20_code 8 = .ok (.getfield 17, 3) := by decide +kernel
theorem dd_Fu_abortIncoming_11 : decode prog_3_method_20_code 11 = .ok (.iload_n 3, 1) := by decide +kernel
theorem dd_Fu_abortIncoming_12 : decode prog_3_method_20_code 12 = .ok (.aaload, 1) := by decide +kernel
theorem dd_Fu_abortIncoming_13 : decode prog_3_method_20_code 13 = .ok (.iload_n 1, 1) := by decide +kernel
theorem dd_Fu_abortIncoming_14 : decode prog_3_method_20_code 14 = .ok (.iconst 0, 1) := by decide +kernel
theorem dd_Fu_abortIncoming_15 : decode prog_3_method_20_code 15 = .ok (.invokevirtual 172, 3) := by decide +kernel
theorem dd_Fu_abortIncoming_18 : decode prog_3_method_20_code 18 = .ok (.ifCond .eq 28, 3) := by decide +kernel
theorem dd_Fu_abortIncoming_21 : decode prog_3_method_20_code 21 = .ok (.aload_n 0, 1) := by decide +kernel
theorem dd_Fu_abortIncoming_22 : decode prog_3_method_20_code 22 = .ok (.getfield 17, 3) := by decide +kernel
theorem dd_Fu_abortIncoming_25 : decode prog_3_method_20_code 25 = .ok (.iload_n 3, 1) := by decide +kernel
theorem dd_Fu_abortIncoming_26 : decode prog_3_method_20_code 26 = .ok (.aaload, 1) := by decide +kernel
theorem dd_Fu_abortIncoming_27 : decode prog_3_method_20_code 27 = .ok (.getfield 192, 3) := by decide +kernel
theorem dd_Fu_abortIncoming_30 : decode prog_3_method_20_code 30 = .ok (.getfield 195, 3) := by decide +kernel
theorem dd_Fu_abortIncoming_33 : decode prog_3_method_20_code 33 = .ok (.iload_n 2, 1) := by decide +kernel
theorem dd_Fu_abortIncoming_34 : decode prog_3_method_20_code 34 = .ok (.if_icmp .ne 12, 3) := by decide +kernel
theorem dd_Fu_abortIncoming_37 : decode prog_3_method_20_code 37 = .ok (.aload_n 0, 1) := by decide +kernel
theorem dd_Fu_abortIncoming_38 : decode prog_3_method_20_code 38 = .ok (.getfield 17, 3) := by decide +kernel
theorem dd_Fu_abortIncoming_41 : decode prog_3_method_20_code 41 = .ok (.iload_n 3, 1) := by decide +kernel
theorem dd_Fu_abortIncoming_42 : decode prog_3_method_20_code 42 = .ok (.aaload, 1) := by decide +kernel
theorem dd_Fu_abortIncoming_43 : decode prog_3_method_20_code 43 = .ok (.invokevirtual 151, 3) := by decide +kernel
theorem dd_Fu_abortIncoming_46 : decode prog_3_method_20_code 46 = .ok (.iinc 3 1, 3) := by decide +kernel
theorem dd_Fu_abortIncoming_49 : decode prog_3_method_20_code 49 = .ok (.goto (-47), 3) := by decide +kernel
theorem dd_Fu_abortIncoming_52 : decode prog_3_method_20_code 52 = .ok (.return_, 1) := by decide +kernel
theorem dd_Fu_takePacket_0 : decode prog_3_method_21_code 0 = .ok (.iconst 0, 1) := by decide +kernel
theorem dd_Fu_takePacket_1 : decode prog_3_method_21_code 1 = .ok (.istore 5, 2) := by decide +kernel
theorem dd_Fu_takePacket_3 : decode prog_3_method_21_code 3 = .ok (.iload 5, 2) := by decide +kernel
theorem dd_Fu_takePacket_5 : decode prog_3_method_21_code 5 = .ok (.iconst 2, 1) := by decide +kernel
theorem dd_Fu_takePacket_6 : decode prog_3_method_21_code 6 = .ok (.if_icmp .ge 76, 3) := by decide +kernel
theorem dd_Fu_takePacket_9 : decode prog_3_method_21_code 9 = .ok (.aload_n 0, 1) := by decide +kernel
theorem dd_Fu_takePacket_10 : decode prog_3_method_21_code 10 = .ok (.getfield 17, 3) := by decide +kernel
theorem dd_Fu_takePacket_13 : decode prog_3_method_21_code 13 = .ok (.iload 5, 2) := by decide +kernel
theorem dd_Fu_takePacket_15 : decode prog_3_method_21_code 15 = .ok (.aaload, 1) := by decide +kernel
theorem dd_Fu_takePacket_16 : decode prog_3_method_21_code 16 = .ok (.astore 6, 2) := by decide +kernel
theorem dd_Fu_takePacket_18 : decode prog_3_method_21_code 18 = .ok (.aload 6, 2) := by decide +kernel
theorem dd_Fu_takePacket_20 : decode prog_3_method_21_code 20 = .ok (.iload_n 1, 1) := by decide +kernel
theorem dd_Fu_takePacket_21 : decode prog_3_method_21_code 21 = .ok (.iload_n 2, 1) := by decide +kernel
theorem dd_Fu_takePacket_22 : decode prog_3_method_21_code 22 = .ok (.invokevirtual 172, 3) := by decide +kernel
theorem dd_Fu_takePacket_25 : decode prog_3_method_21_code 25 = .ok (.ifCond .eq 51, 3) := by decide +kernel
theorem dd_Fu_takePacket_28 : decode prog_3_method_21_code 28 = .ok (.iload_n 2, 1) := by decide +kernel
theorem dd_Fu_takePacket_29 : decode prog_3_method_21_code 29 = .ok (.ifCond .eq 12, 3) := by decide +kernel
theorem dd_Fu_takePacket_32 : decode prog_3_method_21_code 32 = .ok (.aload 6, 2) := by decide +kernel
theorem dd_Fu_takePacket_34 : decode prog_3_method_21_code 34 = .ok (.lload_n 3, 1) := by decide +kernel
theorem dd_Fu_takePacket_35 : decode prog_3_method_21_code 35 = .ok (.invokevirtual 198, 3) := by decide +kernel
theorem dd_Fu_takePacket_38 : decode prog_3_method_21_code 38 = .ok (.goto 9, 3) := by decide +kernel
theorem dd_Fu_takePacket_41 : decode prog_3_method_21_code 41 = .ok (.aload 6, 2) := by decide +kernel
theorem dd_Fu_takePacket_43 : decode prog_3_method_21_code 43 = .ok (.lload_n 3, 1) := by decide +kernel
theorem dd_Fu_takePacket_44 : decode prog_3_method_21_code 44 = .ok (.invokevirtual 201, 3) := by decide +kernel
theorem dd_Fu_takePacket_47 : decode prog_3_method_21_code 47 = .ok (.istore 7, 2) := by decide +kernel
theorem dd_Fu_takePacket_49 : decode prog_3_method_21_code 49 = .ok (.iload 7, 2) := by decide +kernel
theorem dd_Fu_takePacket_51 : decode prog_3_method_21_code 51 = .ok (.ifCond .eq 25, 3) := by decide +kernel
theorem dd_Fu_takePacket_54 : decode prog_3_method_21_code 54 = .ok (.aload_n 0, 1) := by decide +kernel
theorem dd_Fu_takePacket_55 : decode prog_3_method_21_code 55 = .ok (.getfield 24, 3) := by decide +kernel
theorem dd_Fu_takePacket_58 : decode prog_3_method_21_code 58 = .ok (.aload 6, 2) := by decide +kernel
theorem dd_Fu_takePacket_60 : decode prog_3_method_21_code 60 = .ok (.getfield 192, 3) := by decide +kernel
theorem dd_Fu_takePacket_63 : decode prog_3_method_21_code 63 = .ok (.invokevirtual 204, 3) := by decide +kernel
theorem dd_Fu_takePacket_66 : decode prog_3_method_21_code 66 = .ok (.aload_n 0, 1) := by decide +kernel
theorem dd_Fu_takePacket_67 : decode prog_3_method_21_code 67 = .ok (.dup, 1) := by decide +kernel
theorem dd_Fu_takePacket_68 : decode prog_3_method_21_code 68 = .ok (.getfield 62, 3) := by decide +kernel
theorem dd_Fu_takePacket_71 : decode prog_3_method_21_code 71 = .ok (.iconst 1, 1) := by decide +kernel
theorem dd_Fu_takePacket_72 : decode prog_3_method_21_code 72 = .ok (.iadd, 1) := by decide +kernel
theorem dd_Fu_takePacket_73 : decode prog_3_method_21_code 73 = .ok (.putfield 62, 3) := by decide +kernel
theorem dd_Fu_takePacket_76 : decode prog_3_method_21_code 76 = .ok (.iinc 5 1, 3) := by decide +kernel
theorem dd_Fu_takePacket_79 : decode prog_3_method_21_code 79 = .ok (.goto (-76), 3) := by decide +kernel
theorem dd_Fu_takePacket_82 : decode prog_3_method_21_code 82 = .ok (.return_, 1) := by decide +kernel
theorem dd_Ab_init_0 : decode prog_1_method_1_code 0 = .ok (.aload_n 0, 1) := by decide +kernel
theorem dd_Ab_init_1 : decode prog_1_method_1_code 1 = .ok (.invokespecial 3, 3) := by decide +kernel
theorem dd_Ab_init_4 : decode prog_1_method_1_code 4 = .ok (.aload_n 0, 1) := by decide +kernel
theorem dd_Ab_init_5 : decode prog_1_method_1_code 5 = .ok (.new 9, 3) := by decide +kernel
theorem dd_Ab_init_8 : decode prog_1_method_1_code 8 = .ok (.dup, 1) := by decide +kernel
theorem dd_Ab_init_9 : decode prog_1_method_1_code 9 = .ok (.invokespecial 11, 3) := by decide +kernel
theorem dd_Ab_init_12 : decode prog_1_method_1_code 12 = .ok (.putfield 12, 3) := by decide +kernel
theorem dd_Ab_init_15 : decode prog_1_method_1_code 15 = .ok (.aload_n 0, 1) := by decide +kernel
theorem dd_Ab_init_16 : decode prog_1_method_1_code 16 = .ok (.iconst 5, 1) := by decide +kernel
theorem dd_Ab_init_17 : decode prog_1_method_1_code 17 = .ok (.anewarray 16, 3) := by decide +kernel
theorem dd_Ab_init_20 : decode prog_1_method_1_code 20 = .ok (.putfield 18, 3) := by decide +kernel
theorem dd_Ab_init_23 : decode prog_1_method_1_code 23 = .ok (.iconst 0, 1) := by decide +kernel
theorem dd_Ab_init_24 : decode prog_1_method_1_code 24 = .ok (.istore_n 1, 1) := by decide +kernel
theorem dd_Ab_init_25 : decode prog_1_method_1_code 25 = .ok (.iload_n 1, 1) := by decide +kernel
theorem dd_Ab_init_26 : decode prog_1_method_1_code 26 = .ok (.iconst 5, 1) := by decide +kernel
theorem dd_Ab_init_27 : decode prog_1_method_1_code 27 = .ok (.if_icmp .ge 34, 3) := by decide +kernel
theorem dd_Ab_init_30 : decode prog_1_method_1_code 30 = .ok (.aload_n 0, 1) := by decide +kernel
theorem dd_Ab_init_31 : decode prog_1_method_1_code 31 = .ok (.getfield 18, 3) := by decide +kernel
theorem dd_Ab_init_34 : decode prog_1_method_1_code 34 = .ok (.iload_n 1, 1) := by decide +kernel
theorem dd_Ab_init_35 : decode prog_1_method_1_code 35 = .ok (.new 16, 3) := by decide +kernel
theorem dd_Ab_init_38 : decode prog_1_method_1_code 38 = .ok (.dup, 1) := by decide +kernel
theorem dd_Ab_init_39 : decode prog_1_method_1_code 39 = .ok (.aload_n 0, 1) := by decide +kernel
theorem dd_Ab_init_40 : decode prog_1_method_1_code 40 = .ok (.getfield 12, 3) := by decide +kernel
theorem dd_Ab_init_43 : decode prog_1_method_1_code 43 = .ok (.new 22, 3) := by decide +kernel
theorem dd_Ab_init_46 : decode prog_1_method_1_code 46 = .ok (.dup, 1) := by decide +kernel
theorem dd_Ab_init_47 : decode prog_1_method_1_code 47 = .ok (.iload_n 1, 1) := by decide +kernel
theorem dd_Ab_init_48 : decode prog_1_method_1_code 48 = .ok (.invokespecial 24, 3) := by decide +kernel
theorem dd_Ab_init_51 : decode prog_1_method_1_code 51 = .ok (.invokespecial 27, 3) := by decide +kernel
theorem dd_Ab_init_54 : decode prog_1_method_1_code 54 = .ok (.aastore, 1) := by decide +kernel
theorem dd_Ab_init_55 : decode prog_1_method_1_code 55 = .ok (.iinc 1 1, 3) := by decide +kernel
theorem dd_Ab_init_58 : decode prog_1_method_1_code 58 = .ok (.goto (-33), 3) := by decide +kernel
theorem dd_Ab_init_61 : decode prog_1_method_1_code 61 = .ok (.return_, 1) := by decide +kernel
theorem dd_Ab_start_0 : decode prog_1_method_2_code 0 = .ok (.aload_n 0, 1) := by decide +kernel
theorem dd_Ab_start_1 : decode prog_1_method_2_code 1 = .ok (.iload_n 1, 1) := by decide +kernel
theorem dd_Ab_start_2 : decode prog_1_method_2_code 2 = .ok (.invokevirtual 30, 3) := by decide +kernel
theorem dd_Ab_start_5 : decode prog_1_method_2_code 5 = .ok (.ifCond .eq 32, 3) := by decide +kernel
theorem dd_Ab_start_8 : decode prog_1_method_2_code 8 = .ok (.aload_n 0, 1) := by decide +kernel
theorem dd_Ab_start_9 : decode prog_1_method_2_code 9 = .ok (.iload_n 1, 1) := by decide +kernel
theorem dd_Ab_start_10 : decode prog_1_method_2_code 10 = .ok (.invokevirtual 34, 3) := by decide +kernel
theorem dd_Ab_start_13 : decode prog_1_method_2_code 13 = .ok (.ifCond .ne 24, 3) := by decide +kernel
theorem dd_Ab_start_16 : decode prog_1_method_2_code 16 = .ok (.iload 4, 2) := by decide +kernel
theorem dd_Ab_start_18 : decode prog_1_method_2_code 18 = .ok (.ifCond .lt 19, 3) := by decide +kernel
theorem dd_Ab_start_21 : decode prog_1_method_2_code 21 = .ok (.iload 4, 2) := by decide +kernel
theorem dd_Ab_start_23 : decode prog_1_method_2_code 23 = .ok (.sipush 253, 3) := by decide +kernel
theorem dd_Ab_start_26 : decode prog_1_method_2_code 26 = .ok (.if_icmp .gt 11, 3) := by decide +kernel
theorem dd_Ab_start_29 : decode prog_1_method_2_code 29 = .ok (.aload_n 0, 1) := by decide +kernel
theorem dd_Ab_start_30 : decode prog_1_method_2_code 30 = .ok (.lload_n 2, 1) := by decide +kernel
theorem dd_Ab_start_31 : decode prog_1_method_2_code 31 = .ok (.invokevirtual 37, 3) := by decide +kernel
theorem dd_Ab_start_34 : decode prog_1_method_2_code 34 = .ok (.ifCond .eq 5, 3) := by decide +kernel
theorem dd_Ab_start_37 : decode prog_1_method_2_code 37 = .ok (.iconst 0, 1) := by decide +kernel
theorem dd_Ab_start_38 : decode prog_1_method_2_code 38 = .ok (.ireturn, 1) := by decide +kernel
theorem dd_Ab_start_39 : decode prog_1_method_2_code 39 = .ok (.aload_n 0, 1) := by decide +kernel
theorem dd_Ab_start_40 : decode prog_1_method_2_code 40 = .ok (.getfield 18, 3) := by decide +kernel
theorem dd_Ab_start_43 : decode prog_1_method_2_code 43 = .ok (.iload_n 1, 1) := by decide +kernel
theorem dd_Ab_start_44 : decode prog_1_method_2_code 44 = .ok (.aaload, 1) := by decide +kernel
theorem dd_Ab_start_45 : decode prog_1_method_2_code 45 = .ok (.lload_n 2, 1) := by decide +kernel
theorem dd_Ab_start_46 : decode prog_1_method_2_code 46 = .ok (.iload 4, 2) := by decide +kernel
theorem dd_Ab_start_48 : decode prog_1_method_2_code 48 = .ok (.invokevirtual 41, 3) := by decide +kernel
theorem dd_Ab_start_51 : decode prog_1_method_2_code 51 = .ok (.iconst 1, 1) := by decide +kernel
theorem dd_Ab_start_52 : decode prog_1_method_2_code 52 = .ok (.ireturn, 1) := by decide +kernel
theorem dd_Ab_stop_0 : decode prog_1_method_3_code 0 = .ok (.aload_n 0, 1) := by decide +kernel
theorem dd_Ab_stop_1 : decode prog_1_method_3_code 1 = .ok (.iload_n 1, 1) := by decide +kernel
theorem dd_Ab_stop_2 : decode prog_1_method_3_code 2 = .ok (.invokevirtual 34, 3) := by decide +kernel
theorem dd_Ab_stop_5 : decode prog_1_method_3_code 5 = .ok (.ifCond .ne 5, 3) := by decide +kernel
theorem dd_Ab_stop_8 : decode prog_1_method_3_code 8 = .ok (.iconst 0, 1) := by decide +kernel
theorem dd_Ab_stop_9 : decode prog_1_method_3_code 9 = .ok (.ireturn, 1) := by decide +kernel
theorem dd_Ab_stop_10 : decode prog_1_method_3_code 10 = .ok (.aload_n 0, 1) := by decide +kernel
theorem dd_Ab_stop_11 : decode prog_1_method_3_code 11 = .ok (.getfield 18, 3) := by decide +kernel
theorem dd_Ab_stop_14 : decode prog_1_method_3_code 14 = .ok (.iload_n 1, 1) := by decide +kernel
theorem dd_Ab_stop_15 : decode prog_1_method_3_code 15 = .ok (.aaload, 1) := by decide +kernel
theorem dd_Ab_stop_16 : decode prog_1_method_3_code 16 = .ok (.invokevirtual 45, 3) := by decide +kernel
theorem dd_Ab_stop_19 : decode prog_1_method_3_code 19 = .ok (.iconst 1, 1) := by decide +kernel
theorem dd_Ab_stop_20 : decode prog_1_method_3_code 20 = .ok (.ireturn, 1) := by decide +kernel
theorem dd_Ab_busy_0 : decode prog_1_method_4_code 0 = .ok (.aload_n 0, 1) := by decide +kernel
theorem dd_Ab_busy_1 : decode prog_1_method_4_code 1 = .ok (.iload_n 1, 1) := by decide +kernel
theorem dd_Ab_busy_2 : decode prog_1_method_4_code 2 = .ok (.invokevirtual 30, 3) := by decide +kernel
theorem dd_Ab_busy_5 : decode prog_1_method_4_code 5 = .ok (.ifCond .eq 19, 3) := by decide +kernel
theorem dd_Ab_busy_8 : decode prog_1_method_4_code 8 = .ok (.aload_n 0, 1) := by decide +kernel
theorem dd_Ab_busy_9 : decode prog_1_method_4_code 9 = .ok (.getfield 18, 3) := by decide +kernel
theorem dd_Ab_busy_12 : decode prog_1_method_4_code 12 = .ok (.iload_n 1, 1) := by decide +kernel
theorem dd_Ab_busy_13 : decode prog_1_method_4_code 13 = .ok (.aaload, 1) := by decide +kernel
theorem dd_Ab_busy_14 : decode prog_1_method_4_code 14 = .ok (.getfield 48, 3) := by decide +kernel
theorem dd_Ab_busy_17 : decode prog_1_method_4_code 17 = .ok (.getfield 52, 3) := by decide +kernel
theorem dd_Ab_busy_20 : decode prog_1_method_4_code 20 = .ok (.iload_n 2, 1) := by decide +kernel
theorem dd_Ab_busy_21 : decode prog_1_method_4_code 21 = .ok (.if_icmp .ne 5, 3) := by decide +kernel
theorem dd_Ab_busy_24 : decode prog_1_method_4_code 24 = .ok (.iconst 0, 1) := by decide +kernel
theorem dd_Ab_busy_25 : decode prog_1_method_4_code 25 = .ok (.ireturn, 1) := by decide +kernel
theorem dd_Ab_busy_26 : decode prog_1_method_4_code 26 = .ok (.aload_n 0, 1) := by decide +kernel
theorem dd_Ab_busy_27 : decode prog_1_method_4_code 27 = .ok (.getfield 18, 3) := by decide +kernel
theorem dd_Ab_busy_30 : decode prog_1_method_4_code 30 = .ok (.iload_n 1, 1) := by decide +kernel
theorem dd_Ab_busy_31 : decode prog_1_method_4_code 31 = .ok (.aaload, 1) := by decide +kernel
theorem dd_Ab_busy_32 : decode prog_1_method_4_code 32 = .ok (.getfield 48, 3) := by decide +kernel
theorem dd_Ab_busy_35 : decode prog_1_method_4_code 35 = .ok (.iload_n 2, 1) := by decide +kernel
theorem dd_Ab_busy_36 : decode prog_1_method_4_code 36 = .ok (.putfield 52, 3) := by decide +kernel
theorem dd_Ab_busy_39 : decode prog_1_method_4_code 39 = .ok (.iconst 1, 1) := by decide +kernel
theorem dd_Ab_busy_40 : decode prog_1_method_4_code 40 = .ok (.ireturn, 1) := by decide +kernel
theorem dd_Ab_state_0 : decode prog_1_method_5_code 0 = .ok (.aload_n 0, 1) := by decide +kernel
theorem dd_Ab_state_1 : decode prog_1_method_5_code 1 = .ok (.iload_n 1, 1) := by decide +kernel
theorem dd_Ab_state_2 : decode prog_1_method_5_code 2 = .ok (.invokevirtual 30, 3) := by decide +kernel
theorem dd_Ab_state_5 : decode prog_1_method_5_code 5 = .ok (.ifCond .eq 15, 3) := by decide +kernel
theorem dd_Ab_state_8 : decode prog_1_method_5_code 8 = .ok (.aload_n 0, 1) := by decide +kernel
theorem dd_Ab_state_9 : decode prog_1_method_5_code 9 = .ok (.getfield 18, 3) := by decide +kernel
theorem dd_Ab_state_12 : decode prog_1_method_5_code 12 = .ok (.iload_n 1, 1) := by decide +kernel
theorem dd_Ab_state_13 : decode prog_1_method_5_code 13 = .ok (.aaload, 1) := by decide +kernel
theorem dd_Ab_state_14 : decode prog_1_method_5_code 14 = .ok (.getfield 56, 3) := by decide +kernel
theorem dd_Ab_state_17 : decode prog_1_method_5_code 17 = .ok (.goto 4, 3) := by decide +kernel
theorem dd_Ab_state_20 : decode prog_1_method_5_code 20 = .ok (.iconst (-1), 1) := by decide +kernel
theorem dd_Ab_state_21 : decode prog_1_method_5_code 21 = .ok (.ireturn, 1) := by decide +kernel
theorem dd_Ab_address_0 : decode prog_1_method_6_code 0 = .ok (.aload_n 0, 1) := by decide +kernel
theorem dd_Ab_address_1 : decode prog_1_method_6_code 1 = .ok (.iload_n 1, 1) := by decide +kernel
theorem dd_Ab_address_2 : decode prog_1_method_6_code 2 = .ok (.invokevirtual 34, 3) := by decide +kernel
theorem dd_Ab_address_5 : decode prog_1_method_6_code 5 = .ok (.ifCond .eq 18, 3) := by decide +kernel
theorem dd_Ab_address_8 : decode prog_1_method_6_code 8 = .ok (.aload_n 0, 1) := by decide +kernel
theorem dd_Ab_address_9 : decode prog_1_method_6_code 9 = .ok (.getfield 18, 3) := by decide +kernel
theorem dd_Ab_address_12 : decode prog_1_method_6_code 12 = .ok (.iload_n 1, 1) := by decide +kernel
theorem dd_Ab_address_13 : decode prog_1_method_6_code 13 = .ok (.aaload, 1) := by decide +kernel
theorem dd_Ab_address_14 : decode prog_1_method_6_code 14 = .ok (.getfield 48, 3) := by decide +kernel
theorem dd_Ab_address_17 : decode prog_1_method_6_code 17 = .ok (.getfield 60, 3) := by decide +kernel
theorem dd_Ab_address_20 : decode prog_1_method_6_code 20 = .ok (.goto 4, 3) := by decide +kernel
theorem dd_Ab_address_23 : decode prog_1_method_6_code 23 = .ok (.iconst (-1), 1) := by decide +kernel
theorem dd_Ab_address_24 : decode prog_1_method_6_code 24 = .ok (.ireturn, 1) := by decide +kernel
theorem dd_Ab_noted_0 : decode prog_1_method_7_code 0 = .ok (.aload_n 0, 1) := by decide +kernel
theorem dd_Ab_noted_1 : decode prog_1_method_7_code 1 = .ok (.iload_n 1, 1) := by decide +kernel
theorem dd_Ab_noted_2 : decode prog_1_method_7_code 2 = .ok (.invokevirtual 34, 3) := by decide +kernel
theorem dd_Ab_noted_5 : decode prog_1_method_7_code 5 = .ok (.ifCond .eq 25, 3) := by decide +kernel
theorem dd_Ab_noted_8 : decode prog_1_method_7_code 8 = .ok (.aload_n 0, 1) := by decide +kernel
theorem dd_Ab_noted_9 : decode prog_1_method_7_code 9 = .ok (.iload_n 2, 1) := by decide +kernel
theorem dd_Ab_noted_10 : decode prog_1_method_7_code 10 = .ok (.invokevirtual 30, 3) := by decide +kernel
theorem dd_Ab_noted_13 : decode prog_1_method_7_code 13 = .ok (.ifCond .eq 17, 3) := by decide +kernel
theorem dd_Ab_noted_16 : decode prog_1_method_7_code 16 = .ok (.aload_n 0, 1) := by decide +kernel
theorem dd_Ab_noted_17 : decode prog_1_method_7_code 17 = .ok (.getfield 18, 3) := by decide +kernel
theorem dd_Ab_noted_20 : decode prog_1_method_7_code 20 = .ok (.iload_n 1, 1) := by decide +kernel
theorem dd_Ab_noted_21 : decode prog_1_method_7_code 21 = .ok (.aaload, 1) := by decide +kernel
theorem dd_Ab_noted_22 : decode prog_1_method_7_code 22 = .ok (.getfield 63, 3) := by decide +kernel
theorem dd_Ab_noted_25 : decode prog_1_method_7_code 25 = .ok (.iload_n 2, 1) := by decide +kernel
theorem dd_Ab_noted_26 : decode prog_1_method_7_code 26 = .ok (.iaload, 1) := by decide +kernel
theorem dd_Ab_noted_27 : decode prog_1_method_7_code 27 = .ok (.goto 4, 3) := by decide +kernel
theorem dd_Ab_noted_30 : decode prog_1_method_7_code 30 = .ok (.iconst (-1), 1) := by decide +kernel
theorem dd_Ab_noted_31 : decode prog_1_method_7_code 31 = .ok (.ireturn, 1) := by decide +kernel
theorem dd_Ab_request_0 : decode prog_1_method_8_code 0 = .ok (.aload_n 0, 1) := by decide +kernel
theorem dd_Ab_request_1 : decode prog_1_method_8_code 1 = .ok (.iload_n 1, 1) := by decide +kernel
theorem dd_Ab_request_2 : decode prog_1_method_8_code 2 = .ok (.invokevirtual 34, 3) := by decide +kernel
theorem dd_Ab_request_5 : decode prog_1_method_8_code 5 = .ok (.ifCond .ne 5, 3) := by decide +kernel
theorem dd_Ab_request_8 : decode prog_1_method_8_code 8 = .ok (.iconst 0, 1) := by decide +kernel
theorem dd_Ab_request_9 : decode prog_1_method_8_code 9 = .ok (.ireturn, 1) := by decide +kernel
theorem dd_Ab_request_10 : decode prog_1_method_8_code 10 = .ok (.aload_n 0, 1) := by decide +kernel
theorem dd_Ab_request_11 : decode prog_1_method_8_code 11 = .ok (.getfield 12, 3) := by decide +kernel
theorem dd_Ab_request_14 : decode prog_1_method_8_code 14 = .ok (.aload_n 0, 1) := by decide +kernel
theorem dd_Ab_request_15 : decode prog_1_method_8_code 15 = .ok (.getfield 18, 3) := by decide +kernel
theorem dd_Ab_request_18 : decode prog_1_method_8_code 18 = .ok (.iload_n 1, 1) := by decide +kernel
theorem dd_Ab_request_19 : decode prog_1_method_8_code 19 = .ok (.aaload, 1) := by decide +kernel
theorem dd_Ab_request_20 : decode prog_1_method_8_code 20 = .ok (.getfield 48, 3) := by decide +kernel
theorem dd_Ab_request_23 : decode prog_1_method_8_code 23 = .ok (.ldc 67, 2) := by decide +kernel
theorem dd_Ab_request_25 : decode prog_1_method_8_code 25 = .ok (.sipush 255, 3) := by decide +kernel
theorem dd_Ab_request_28 : decode prog_1_method_8_code 28 = .ok (.ldc2_w 68, 3) := by decide +kernel
theorem dd_Ab_request_31 : decode prog_1_method_8_code 31 = .ok (.invokevirtual 70, 3) := by decide +kernel
theorem dd_Ab_request_34 : decode prog_1_method_8_code 34 = .ok (.iconst 1, 1) := by decide +kernel
theorem dd_Ab_request_35 : decode prog_1_method_8_code 35 = .ok (.ireturn, 1) := by decide +kernel
theorem dd_Ab_send_0 : decode prog_1_method_9_code 0 = .ok (.aload_n 0, 1) := by decide +kernel
theorem dd_Ab_send_1 : decode prog_1_method_9_code 1 = .ok (.iload_n 1, 1) := by decide +kernel
theorem dd_Ab_send_2 : decode prog_1_method_9_code 2 = .ok (.invokevirtual 30, 3) := by decide +kernel
theorem dd_Ab_send_5 : decode prog_1_method_9_code 5 = .ok (.ifCond .eq 16, 3) := by decide +kernel
theorem dd_Ab_send_8 : decode prog_1_method_9_code 8 = .ok (.aload_n 0, 1) := by decide +kernel
theorem dd_Ab_send_9 : decode prog_1_method_9_code 9 = .ok (.getfield 18, 3) := by decide +kernel
theorem dd_Ab_send_12 : decode prog_1_method_9_code 12 = .ok (.iload_n 1, 1) := by decide +kernel
theorem dd_Ab_send_13 : decode prog_1_method_9_code 13 = .ok (.aaload, 1) := by decide +kernel
theorem dd_Ab_send_14 : decode prog_1_method_9_code 14 = .ok (.iload_n 2, 1) := by decide +kernel
theorem dd_Ab_send_15 : decode prog_1_method_9_code 15 = .ok (.invokevirtual 74, 3) := by decide +kernel
theorem dd_Ab_send_18 : decode prog_1_method_9_code 18 = .ok (.ifCond .ne 5, 3) := by decide +kernel
theorem dd_Ab_send_21 : decode prog_1_method_9_code 21 = .ok (.iconst 0, 1) := by decide +kernel
theorem dd_Ab_send_22 : decode prog_1_method_9_code 22 = .ok (.ireturn, 1) := by decide +kernel
theorem dd_Ab_send_23 : decode prog_1_method_9_code 23 = .ok (.iload_n 3, 1) := by decide +kernel
theorem dd_Ab_send_24 : decode prog_1_method_9_code 24 = .ok (.ifCond .lt 23, 3) := by decide +kernel
theorem dd_Ab_send_27 : decode prog_1_method_9_code 27 = .ok (.iload_n 3, 1) := by decide +kernel
theorem dd_Ab_send_28 : decode prog_1_method_9_code 28 = .ok (.ldc 77, 2) := by decide +kernel
theorem dd_Ab_send_30 : decode prog_1_method_9_code 30 = .ok (.if_icmp .gt 17, 3) := by decide +kernel
theorem dd_Ab_send_33 : decode prog_1_method_9_code 33 = .ok (.iload 4, 2) := by decide +kernel
theorem dd_Ab_send_35 : decode prog_1_method_9_code 35 = .ok (.bipush 9, 2) := by decide +kernel
theorem dd_Ab_send_37 : decode prog_1_method_9_code 37 = .ok (.if_icmp .lt 10, 3) := by decide +kernel
theorem dd_Ab_send_40 : decode prog_1_method_9_code 40 = .ok (.iload 4, 2) := by decide +kernel
theorem dd_Ab_send_42 : decode prog_1_method_9_code 42 = .ok (.bipush 49, 2) := by decide +kernel
theorem dd_Ab_send_44 : decode prog_1_method_9_code 44 = .ok (.if_icmp .le 5, 3) := by decide +kernel
theorem dd_Ab_send_47 : decode prog_1_method_9_code 47 = .ok (.iconst 0, 1) := by decide +kernel
theorem dd_Ab_send_48 : decode prog_1_method_9_code 48 = .ok (.ireturn, 1) := by decide +kernel
theorem dd_Ab_send_49 : decode prog_1_method_9_code 49 = .ok (.aload_n 0, 1) := by decide +kernel
theorem dd_Ab_send_50 : decode prog_1_method_9_code 50 = .ok (.getfield 18, 3) := by decide +kernel
theorem dd_Ab_send_53 : decode prog_1_method_9_code 53 = .ok (.iload_n 1, 1) := by decide +kernel
theorem dd_Ab_send_54 : decode prog_1_method_9_code 54 = .ok (.aaload, 1) := by decide +kernel
theorem dd_Ab_send_55 : decode prog_1_method_9_code 55 = .ok (.getfield 78, 3) := by decide +kernel
theorem dd_Ab_send_58 : decode prog_1_method_9_code 58 = .ok (.iload_n 2, 1) := by decide +kernel
theorem dd_Ab_send_59 : decode prog_1_method_9_code 59 = .ok (.iload_n 3, 1) := by decide +kernel
theorem dd_Ab_send_60 : decode prog_1_method_9_code 60 = .ok (.iload 4, 2) := by decide +kernel
theorem dd_Ab_send_62 : decode prog_1_method_9_code 62 = .ok (.lload 5, 2) := by decide +kernel
theorem dd_Ab_send_64 : decode prog_1_method_9_code 64 = .ok (.invokevirtual 82, 3) := by decide +kernel
theorem dd_Ab_send_67 : decode prog_1_method_9_code 67 = .ok (.iconst 1, 1) := by decide +kernel
theorem dd_Ab_send_68 : decode prog_1_method_9_code 68 = .ok (.ireturn, 1) := by decide +kernel
theorem dd_Ab_waiting_0 : decode prog_1_method_10_code 0 = .ok (.aload_n 0, 1) := by decide +kernel
theorem dd_Ab_waiting_1 : decode prog_1_method_10_code 1 = .ok (.getfield 12, 3) := by decide +kernel
theorem dd_Ab_waiting_4 : decode prog_1_method_10_code 4 = .ok (.getfield 88, 3) := by decide +kernel
theorem dd_Ab_waiting_7 : decode prog_1_method_10_code 7 = .ok (.ireturn, 1) := by decide +kernel
theorem dd_Ab_identifier_0 : decode prog_1_method_11_code 0 = .ok (.aload_n 0, 1) := by decide +kernel
theorem dd_Ab_identifier_1 : decode prog_1_method_11_code 1 = .ok (.getfield 12, 3) := by decide +kernel
theorem dd_Ab_identifier_4 : decode prog_1_method_11_code 4 = .ok (.invokevirtual 91, 3) := by decide +kernel
theorem dd_Ab_identifier_7 : decode prog_1_method_11_code 7 = .ok (.istore_n 1, 1) := by decide +kernel
theorem dd_Ab_identifier_8 : decode prog_1_method_11_code 8 = .ok (.iload_n 1, 1) := by decide +kernel
theorem dd_Ab_identifier_9 : decode prog_1_method_11_code 9 = .ok (.ifCond .ge 7, 3) := by decide +kernel
theorem dd_Ab_identifier_12 : decode prog_1_method_11_code 12 = .ok (.iconst (-1), 1) := by decide +kernel
theorem dd_Ab_identifier_13 : decode prog_1_method_11_code 13 = .ok (.goto 12, 3) := by decide +kernel
theorem dd_Ab_identifier_16 : decode prog_1_method_11_code 16 = .ok (.aload_n 0, 1) := by decide +kernel
theorem dd_Ab_identifier_17 : decode prog_1_method_11_code 17 = .ok (.getfield 12, 3) := by decide +kernel
theorem dd_Ab_identifier_20 : decode prog_1_method_11_code 20 = .ok (.getfield 95, 3) := by decide +kernel
theorem dd_Ab_identifier_23 : decode prog_1_method_11_code 23 = .ok (.iload_n 1, 1) := by decide +kernel
theorem dd_Ab_identifier_24 : decode prog_1_method_11_code 24 = .ok (.iaload, 1) := by decide +kernel
theorem dd_Ab_identifier_25 : decode prog_1_method_11_code 25 = .ok (.ireturn, 1) := by decide +kernel
theorem dd_Ab_data_0 : decode prog_1_method_12_code 0 = .ok (.aload_n 0, 1) := by decide +kernel
theorem dd_Ab_data_1 : decode prog_1_method_12_code 1 = .ok (.getfield 12, 3) := by decide +kernel
theorem dd_Ab_data_4 : decode prog_1_method_12_code 4 = .ok (.invokevirtual 91, 3) := by decide +kernel
theorem dd_Ab_data_7 : decode prog_1_method_12_code 7 = .ok (.istore_n 1, 1) := by decide +kernel
theorem dd_Ab_data_8 : decode prog_1_method_12_code 8 = .ok (.iload_n 1, 1) := by decide +kernel
theorem dd_Ab_data_9 : decode prog_1_method_12_code 9 = .ok (.ifCond .ge 7, 3) := by decide +kernel
theorem dd_Ab_data_12 : decode prog_1_method_12_code 12 = .ok (.lconst 0, 1) := by decide +kernel
theorem dd_Ab_data_13 : decode prog_1_method_12_code 13 = .ok (.goto 12, 3) := by decide +kernel
theorem dd_Ab_data_16 : decode prog_1_method_12_code 16 = .ok (.aload_n 0, 1) := by decide +kernel
theorem dd_Ab_data_17 : decode prog_1_method_12_code 17 = .ok (.getfield 12, 3) := by decide +kernel
theorem dd_Ab_data_20 : decode prog_1_method_12_code 20 = .ok (.getfield 98, 3) := by decide +kernel
theorem dd_Ab_data_23 : decode prog_1_method_12_code 23 = .ok (.iload_n 1, 1) := by decide +kernel
theorem dd_Ab_data_24 : decode prog_1_method_12_code 24 = .ok (.laload, 1) := by decide +kernel
theorem dd_Ab_data_25 : decode prog_1_method_12_code 25 = .ok (.lreturn, 1) := by decide +kernel
theorem dd_Ab_deliver_0 : decode prog_1_method_13_code 0 = .ok (.aload_n 0, 1) := by decide +kernel
theorem dd_Ab_deliver_1 : decode prog_1_method_13_code 1 = .ok (.getfield 12, 3) := by decide +kernel
theorem dd_Ab_deliver_4 : decode prog_1_method_13_code 4 = .ok (.invokevirtual 91, 3) := by decide +kernel
theorem dd_Ab_deliver_7 : decode prog_1_method_13_code 7 = .ok (.istore_n 2, 1) := by decide +kernel
theorem dd_Ab_deliver_8 : decode prog_1_method_13_code 8 = .ok (.iload_n 2, 1) := by decide +kernel
theorem dd_Ab_deliver_9 : decode prog_1_method_13_code 9 = .ok (.ifCond .ge 5, 3) := by decide +kernel
theorem dd_Ab_deliver_12 : decode prog_1_method_13_code 12 = .ok (.iconst 0, 1) := by decide +kernel
theorem dd_Ab_deliver_13 : decode prog_1_method_13_code 13 = .ok (.ireturn, 1) := by decide +kernel
theorem dd_Ab_deliver_14 : decode prog_1_method_13_code 14 = .ok (.aload_n 0, 1) := by decide +kernel
theorem dd_Ab_deliver_15 : decode prog_1_method_13_code 15 = .ok (.getfield 12, 3) := by decide +kernel
theorem dd_Ab_deliver_18 : decode prog_1_method_13_code 18 = .ok (.getfield 102, 3) := by decide +kernel
theorem dd_Ab_deliver_21 : decode prog_1_method_13_code 21 = .ok (.iload_n 2, 1) := by decide +kernel
theorem dd_Ab_deliver_22 : decode prog_1_method_13_code 22 = .ok (.iaload, 1) := by decide +kernel
theorem dd_Ab_deliver_23 : decode prog_1_method_13_code 23 = .ok (.istore_n 3, 1) := by decide +kernel
theorem dd_Ab_deliver_24 : decode prog_1_method_13_code 24 = .ok (.aload_n 0, 1) := by decide +kernel
theorem dd_Ab_deliver_25 : decode prog_1_method_13_code 25 = .ok (.getfield 12, 3) := by decide +kernel
theorem dd_Ab_deliver_28 : decode prog_1_method_13_code 28 = .ok (.getfield 95, 3) := by decide +kernel
theorem dd_Ab_deliver_31 : decode prog_1_method_13_code 31 = .ok (.iload_n 2, 1) := by decide +kernel
theorem dd_Ab_deliver_32 : decode prog_1_method_13_code 32 = .ok (.iaload, 1) := by decide +kernel
theorem dd_Ab_deliver_33 : decode prog_1_method_13_code 33 = .ok (.istore 4, 2) := by decide +kernel
theorem dd_Ab_deliver_35 : decode prog_1_method_13_code 35 = .ok (.aload_n 0, 1) := by decide +kernel
theorem dd_Ab_deliver_36 : decode prog_1_method_13_code 36 = .ok (.getfield 12, 3) := by decide +kernel
theorem dd_Ab_deliver_39 : decode prog_1_method_13_code 39 = .ok (.getfield 98, 3) := by decide +kernel
theorem dd_Ab_deliver_42 : decode prog_1_method_13_code 42 = .ok (.iload_n 2, 1) := by decide +kernel
theorem dd_Ab_deliver_43 : decode prog_1_method_13_code 43 = .ok (.laload, 1) := by decide +kernel
theorem dd_Ab_deliver_44 : decode prog_1_method_13_code 44 = .ok (.lstore 5, 2) := by decide +kernel
theorem dd_Ab_deliver_46 : decode prog_1_method_13_code 46 = .ok (.iload_n 1, 1) := by decide +kernel
theorem dd_Ab_deliver_47 : decode prog_1_method_13_code 47 = .ok (.ifCond .ne 11, 3) := by decide +kernel
theorem dd_Ab_deliver_50 : decode prog_1_method_13_code 50 = .ok (.aload_n 0, 1) := by decide +kernel
theorem dd_Ab_deliver_51 : decode prog_1_method_13_code 51 = .ok (.getfield 12, 3) := by decide +kernel
theorem dd_Ab_deliver_54 : decode prog_1_method_13_code 54 = .ok (.iload_n 2, 1) := by decide +kernel
theorem dd_Ab_deliver_55 : decode prog_1_method_13_code 55 = .ok (.invokevirtual 105, 3) := by decide +kernel
theorem dd_Ab_deliver_58 : decode prog_1_method_13_code 58 = .ok (.iconst 0, 1) := by decide +kernel
theorem dd_Ab_deliver_59 : decode prog_1_method_13_code 59 = .ok (.istore 7, 2) := by decide +kernel
theorem dd_Ab_deliver_61 : decode prog_1_method_13_code 61 = .ok (.iload 7, 2) := by decide +kernel
theorem dd_Ab_deliver_63 : decode prog_1_method_13_code 63 = .ok (.iconst 5, 1) := by decide +kernel
theorem dd_Ab_deliver_64 : decode prog_1_method_13_code 64 = .ok (.if_icmp .ge 30, 3) := by decide +kernel
theorem dd_Ab_deliver_67 : decode prog_1_method_13_code 67 = .ok (.iload 7, 2) := by decide +kernel
theorem dd_Ab_deliver_69 : decode prog_1_method_13_code 69 = .ok (.iload_n 3, 1) := by decide +kernel
theorem dd_Ab_deliver_70 : decode prog_1_method_13_code 70 = .ok (.if_icmp .eq 18, 3) := by decide +kernel
theorem dd_Ab_deliver_73 : decode prog_1_method_13_code 73 = .ok (.aload_n 0, 1) := by decide +kernel
theorem dd_Ab_deliver_74 : decode prog_1_method_13_code 74 = .ok (.getfield 18, 3) := by decide +kernel
theorem dd_Ab_deliver_77 : decode prog_1_method_13_code 77 = .ok (.iload 7, 2) := by decide +kernel
theorem dd_Ab_deliver_79 : decode prog_1_method_13_code 79 = .ok (.aaload, 1) := by decide +kernel
theorem dd_Ab_deliver_80 : decode prog_1_method_13_code 80 = .ok (.iload_n 3, 1) := by decide +kernel
theorem dd_Ab_deliver_81 : decode prog_1_method_13_code 81 = .ok (.iload 4, 2) := by decide +kernel
theorem dd_Ab_deliver_83 : decode prog_1_method_13_code 83 = .ok (.lload 5, 2) := by decide +kernel
theorem dd_Ab_deliver_85 : decode prog_1_method_13_code 85 = .ok (.invokevirtual 108, 3) := by decide +kernel
theorem dd_Ab_deliver_88 : decode prog_1_method_13_code 88 = .ok (.iinc 7 1, 3) := by decide +kernel
theorem dd_Ab_deliver_91 : decode prog_1_method_13_code 91 = .ok (.goto (-30), 3) := by decide +kernel
theorem dd_Ab_deliver_94 : decode prog_1_method_13_code 94 = .ok (.iconst 1, 1) := by decide +kernel
theorem dd_Ab_deliver_95 : decode prog_1_method_13_code 95 = .ok (.ireturn, 1) := by decide +kernel
theorem dd_Ab_lose_0 : decode prog_1_method_14_code 0 = .ok (.aload_n 0, 1) := by decide +kernel
theorem dd_Ab_lose_1 : decode prog_1_method_14_code 1 = .ok (.getfield 12, 3) := by decide +kernel
theorem dd_Ab_lose_4 : decode prog_1_method_14_code 4 = .ok (.invokevirtual 91, 3) := by decide +kernel
theorem dd_Ab_lose_7 : decode prog_1_method_14_code 7 = .ok (.istore_n 1, 1) := by decide +kernel
theorem dd_Ab_lose_8 : decode prog_1_method_14_code 8 = .ok (.iload_n 1, 1) := by decide +kernel
theorem dd_Ab_lose_9 : decode prog_1_method_14_code 9 = .ok (.ifCond .ge 5, 3) := by decide +kernel
theorem dd_Ab_lose_12 : decode prog_1_method_14_code 12 = .ok (.iconst 0, 1) := by decide +kernel
theorem dd_Ab_lose_13 : decode prog_1_method_14_code 13 = .ok (.ireturn, 1) := by decide +kernel
theorem dd_Ab_lose_14 : decode prog_1_method_14_code 14 = .ok (.aload_n 0, 1) := by decide +kernel
theorem dd_Ab_lose_15 : decode prog_1_method_14_code 15 = .ok (.getfield 12, 3) := by decide +kernel
theorem dd_Ab_lose_18 : decode prog_1_method_14_code 18 = .ok (.iload_n 1, 1) := by decide +kernel
theorem dd_Ab_lose_19 : decode prog_1_method_14_code 19 = .ok (.invokevirtual 105, 3) := by decide +kernel
theorem dd_Ab_lose_22 : decode prog_1_method_14_code 22 = .ok (.iconst 1, 1) := by decide +kernel
theorem dd_Ab_lose_23 : decode prog_1_method_14_code 23 = .ok (.ireturn, 1) := by decide +kernel
theorem dd_Ab_overflowed_0 : decode prog_1_method_15_code 0 = .ok (.aload_n 0, 1) := by decide +kernel
theorem dd_Ab_overflowed_1 : decode prog_1_method_15_code 1 = .ok (.getfield 12, 3) := by decide +kernel
theorem dd_Ab_overflowed_4 : decode prog_1_method_15_code 4 = .ok (.getfield 112, 3) := by decide +kernel
theorem dd_Ab_overflowed_7 : decode prog_1_method_15_code 7 = .ok (.ireturn, 1) := by decide +kernel
theorem dd_Ab_tick_0 : decode prog_1_method_16_code 0 = .ok (.iload_n 1, 1) := by decide +kernel
theorem dd_Ab_tick_1 : decode prog_1_method_16_code 1 = .ok (.iconst 1, 1) := by decide +kernel
theorem dd_Ab_tick_2 : decode prog_1_method_16_code 2 = .ok (.if_icmp .lt 10, 3) := by decide +kernel
theorem dd_Ab_tick_5 : decode prog_1_method_16_code 5 = .ok (.iload_n 1, 1) := by decide +kernel
theorem dd_Ab_tick_6 : decode prog_1_method_16_code 6 = .ok (.sipush 2000, 3) := by decide +kernel
theorem dd_Ab_tick_9 : decode prog_1_method_16_code 9 = .ok (.if_icmp .le 5, 3) := by decide +kernel
theorem dd_Ab_tick_12 : decode prog_1_method_16_code 12 = .ok (.iconst (-1), 1) := by decide +kernel
theorem dd_Ab_tick_13 : decode prog_1_method_16_code 13 = .ok (.ireturn, 1) := by decide +kernel
theorem dd_Ab_tick_14 : decode prog_1_method_16_code 14 = .ok (.aload_n 0, 1) := by decide +kernel
theorem dd_Ab_tick_15 : decode prog_1_method_16_code 15 = .ok (.getfield 12, 3) := by decide +kernel
theorem dd_Ab_tick_18 : decode prog_1_method_16_code 18 = .ok (.getfield 115, 3) := by decide +kernel
theorem dd_Ab_tick_21 : decode prog_1_method_16_code 21 = .ok (.iload_n 1, 1) := by decide +kernel
theorem dd_Ab_tick_22 : decode prog_1_method_16_code 22 = .ok (.i2l, 1) := by decide +kernel
theorem dd_Ab_tick_23 : decode prog_1_method_16_code 23 = .ok (.ladd, 1) := by decide +kernel
theorem dd_Ab_tick_24 : decode prog_1_method_16_code 24 = .ok (.lstore_n 2, 1) := by decide +kernel
theorem dd_Ab_tick_25 : decode prog_1_method_16_code 25 = .ok (.iconst 0, 1) := by decide +kernel
theorem dd_Ab_tick_26 : decode prog_1_method_16_code 26 = .ok (.istore 4, 2) := by decide +kernel
theorem dd_Ab_tick_28 : decode prog_1_method_16_code 28 = .ok (.iload 4, 2) := by decide +kernel
theorem dd_Ab_tick_30 : decode prog_1_method_16_code 30 = .ok (.sipush 1000, 3) := by decide +kernel
theorem dd_Ab_tick_33 : decode prog_1_method_16_code 33 = .ok (.if_icmp .ge 56, 3) := by decide +kernel
theorem dd_Ab_tick_36 : decode prog_1_method_16_code 36 = .ok (.aload_n 0, 1) := by decide +kernel
theorem dd_Ab_tick_37 : decode prog_1_method_16_code 37 = .ok (.invokevirtual 119, 3) := by decide +kernel
theorem dd_Ab_tick_40 : decode prog_1_method_16_code 40 = .ok (.istore 5, 2) := by decide +kernel
theorem dd_Ab_tick_42 : decode prog_1_method_16_code 42 = .ok (.aload_n 0, 1) := by decide +kernel
theorem dd_Ab_tick_43 : decode prog_1_method_16_code 43 = .ok (.getfield 18, 3) := by decide +kernel
theorem dd_Ab_tick_46 : decode prog_1_method_16_code 46 = .ok (.iload 5, 2) := by decide +kernel
theorem dd_Ab_tick_48 : decode prog_1_method_16_code 48 = .ok (.aaload, 1) := by decide +kernel
theorem dd_Ab_tick_49 : decode prog_1_method_16_code 49 = .ok (.invokevirtual 122, 3) := by decide +kernel
theorem dd_Ab_tick_52 : decode prog_1_method_16_code 52 = .ok (.lstore 6, 2) := by decide +kernel
theorem dd_Ab_tick_54 : decode prog_1_method_16_code 54 = .ok (.lload 6, 2) := by decide +kernel
theorem dd_Ab_tick_56 : decode prog_1_method_16_code 56 = .ok (.lload_n 2, 1) := by decide +kernel
theorem dd_Ab_tick_57 : decode prog_1_method_16_code 57 = .ok (.lcmp, 1) := by decide +kernel
theorem dd_Ab_tick_58 : decode prog_1_method_16_code 58 = .ok (.ifCond .le 6, 3) := by decide +kernel
theorem dd_Ab_tick_61 : decode prog_1_method_16_code 61 = .ok (.goto 28, 3) := by decide +kernel
theorem dd_Ab_tick_64 : decode prog_1_method_16_code 64 = .ok (.aload_n 0, 1) := by decide +kernel
theorem dd_Ab_tick_65 : decode prog_1_method_16_code 65 = .ok (.getfield 12, 3) := by decide +kernel
theorem dd_Ab_tick_68 : decode prog_1_method_16_code 68 = .ok (.lload 6, 2) := by decide +kernel
theorem dd_Ab_tick_70 : decode prog_1_method_16_code 70 = .ok (.putfield 115, 3) := by decide +kernel
theorem dd_Ab_tick_73 : decode prog_1_method_16_code 73 = .ok (.aload_n 0, 1) := by decide +kernel
theorem dd_Ab_tick_74 : decode prog_1_method_16_code 74 = .ok (.getfield 18, 3) := by decide +kernel
theorem dd_Ab_tick_77 : decode prog_1_method_16_code 77 = .ok (.iload 5, 2) := by decide +kernel
theorem dd_Ab_tick_79 : decode prog_1_method_16_code 79 = .ok (.aaload, 1) := by decide +kernel
theorem dd_Ab_tick_80 : decode prog_1_method_16_code 80 = .ok (.invokevirtual 126, 3) := by decide +kernel
theorem dd_Ab_tick_83 : decode prog_1_method_16_code 83 = .ok (.iinc 4 1, 3) := by decide +kernel
theorem dd_Ab_tick_86 : decode prog_1_method_16_code 86 = .ok (.goto (-58), 3) := by decide +kernel
theorem dd_Ab_tick_89 : decode prog_1_method_16_code 89 = .ok (.aload_n 0, 1) := by decide +kernel
theorem dd_Ab_tick_90 : decode prog_1_method_16_code 90 = .ok (.getfield 12, 3) := by decide +kernel
theorem dd_Ab_tick_93 : decode prog_1_method_16_code 93 = .ok (.lload_n 2, 1) := by decide +kernel
theorem dd_Ab_tick_94 : decode prog_1_method_16_code 94 = .ok (.putfield 115, 3) := by decide +kernel
theorem dd_Ab_tick_97 : decode prog_1_method_16_code 97 = .ok (.iload 4, 2) := by decide +kernel
theorem dd_Ab_tick_99 : decode prog_1_method_16_code 99 = .ok (.ireturn, 1) := by decide +kernel
theorem dd_Ab_outgoing_0 : decode prog_1_method_17_code 0 = .ok (.aload_n 0, 1) := by decide +kernel
theorem dd_Ab_outgoing_1 : decode prog_1_method_17_code 1 = .ok (.iload_n 1, 1) := by decide +kernel
theorem dd_Ab_outgoing_2 : decode prog_1_method_17_code 2 = .ok (.invokevirtual 34, 3) := by decide +kernel
theorem dd_Ab_outgoing_5 : decode prog_1_method_17_code 5 = .ok (.ifCond .ne 5, 3) := by decide +kernel
theorem dd_Ab_outgoing_8 : decode prog_1_method_17_code 8 = .ok (.iconst (-1), 1) := by decide +kernel
theorem dd_Ab_outgoing_9 : decode prog_1_method_17_code 9 = .ok (.ireturn, 1) := by decide +kernel
theorem dd_Ab_outgoing_10 : decode prog_1_method_17_code 10 = .ok (.aload_n 0, 1) := by decide +kernel
theorem dd_Ab_outgoing_11 : decode prog_1_method_17_code 11 = .ok (.getfield 18, 3) := by decide +kernel
theorem dd_Ab_outgoing_14 : decode prog_1_method_17_code 14 = .ok (.iload_n 1, 1) := by decide +kernel
theorem dd_Ab_outgoing_15 : decode prog_1_method_17_code 15 = .ok (.aaload, 1) := by decide +kernel
theorem dd_Ab_outgoing_16 : decode prog_1_method_17_code 16 = .ok (.getfield 78, 3) := by decide +kernel
theorem dd_Ab_outgoing_19 : decode prog_1_method_17_code 19 = .ok (.astore_n 2, 1) := by decide +kernel
theorem dd_Ab_outgoing_20 : decode prog_1_method_17_code 20 = .ok (.aload_n 2, 1) := by decide +kernel
theorem dd_Ab_outgoing_21 : decode prog_1_method_17_code 21 = .ok (.getfield 129, 3) := by decide +kernel
theorem dd_Ab_outgoing_24 : decode prog_1_method_17_code 24 = .ok (.ifCond .ne 10, 3) := by decide +kernel
theorem dd_Ab_outgoing_27 : decode prog_1_method_17_code 27 = .ok (.aload_n 2, 1) := by decide +kernel
theorem dd_Ab_outgoing_28 : decode prog_1_method_17_code 28 = .ok (.getfield 132, 3) := by decide +kernel
theorem dd_Ab_outgoing_31 : decode prog_1_method_17_code 31 = .ok (.goto 7, 3) := by decide +kernel
theorem dd_Ab_outgoing_34 : decode prog_1_method_17_code 34 = .ok (.aload_n 2, 1) := by decide +kernel
theorem dd_Ab_outgoing_35 : decode prog_1_method_17_code 35 = .ok (.getfield 129, 3) := by decide +kernel
theorem dd_Ab_outgoing_38 : decode prog_1_method_17_code 38 = .ok (.ireturn, 1) := by decide +kernel
theorem dd_Ab_incoming_0 : decode prog_1_method_18_code 0 = .ok (.aload_n 0, 1) := by decide +kernel
theorem dd_Ab_incoming_1 : decode prog_1_method_18_code 1 = .ok (.iload_n 1, 1) := by decide +kernel
theorem dd_Ab_incoming_2 : decode prog_1_method_18_code 2 = .ok (.invokevirtual 34, 3) := by decide +kernel
theorem dd_Ab_incoming_5 : decode prog_1_method_18_code 5 = .ok (.ifCond .eq 15, 3) := by decide +kernel
theorem dd_Ab_incoming_8 : decode prog_1_method_18_code 8 = .ok (.aload_n 0, 1) := by decide +kernel
theorem dd_Ab_incoming_9 : decode prog_1_method_18_code 9 = .ok (.getfield 18, 3) := by decide +kernel
theorem dd_Ab_incoming_12 : decode prog_1_method_18_code 12 = .ok (.iload_n 1, 1) := by decide +kernel
theorem dd_Ab_incoming_13 : decode prog_1_method_18_code 13 = .ok (.aaload, 1) := by decide +kernel
theorem dd_Ab_incoming_14 : decode prog_1_method_18_code 14 = .ok (.invokevirtual 135, 3) := by decide +kernel
theorem dd_Ab_incoming_17 : decode prog_1_method_18_code 17 = .ok (.goto 4, 3) := by decide +kernel
theorem dd_Ab_incoming_20 : decode prog_1_method_18_code 20 = .ok (.iconst (-1), 1) := by decide +kernel
theorem dd_Ab_incoming_21 : decode prog_1_method_18_code 21 = .ok (.ireturn, 1) := by decide +kernel
theorem dd_Ab_delivered_0 : decode prog_1_method_19_code 0 = .ok (.aload_n 0, 1) := by decide +kernel
theorem dd_Ab_delivered_1 : decode prog_1_method_19_code 1 = .ok (.iload_n 1, 1) := by decide +kernel
theorem dd_Ab_delivered_2 : decode prog_1_method_19_code 2 = .ok (.invokevirtual 34, 3) := by decide +kernel
theorem dd_Ab_delivered_5 : decode prog_1_method_19_code 5 = .ok (.ifCond .eq 15, 3) := by decide +kernel
theorem dd_Ab_delivered_8 : decode prog_1_method_19_code 8 = .ok (.aload_n 0, 1) := by decide +kernel
theorem dd_Ab_delivered_9 : decode prog_1_method_19_code 9 = .ok (.getfield 18, 3) := by decide +kernel
theorem dd_Ab_delivered_12 : decode prog_1_method_19_code 12 = .ok (.iload_n 1, 1) := by decide +kernel
theorem dd_Ab_delivered_13 : decode prog_1_method_19_code 13 = .ok (.aaload, 1) := by decide +kernel
theorem dd_Ab_delivered_14 : decode prog_1_method_19_code 14 = .ok (.getfield 138, 3) := by decide +kernel
theorem dd_Ab_delivered_17 : decode prog_1_method_19_code 17 = .ok (.goto 4, 3) := by decide +kernel
theorem dd_Ab_delivered_20 : decode prog_1_method_19_code 20 = .ok (.iconst (-1), 1) := by decide +kernel
theorem dd_Ab_delivered_21 : decode prog_1_method_19_code 21 = .ok (.ireturn, 1) := by decide +kernel
theorem dd_Ab_message_0 : decode prog_1_method_20_code 0 = .ok (.aload_n 0, 1) := by decide +kernel
theorem dd_Ab_message_1 : decode prog_1_method_20_code 1 = .ok (.iload_n 1, 1) := by decide +kernel
theorem dd_Ab_message_2 : decode prog_1_method_20_code 2 = .ok (.invokevirtual 141, 3) := by decide +kernel
theorem dd_Ab_message_5 : decode prog_1_method_20_code 5 = .ok (.ifCond .ne 5, 3) := by decide +kernel
theorem dd_Ab_message_8 : decode prog_1_method_20_code 8 = .ok (.iconst (-1), 1) := by decide +kernel
theorem dd_Ab_message_9 : decode prog_1_method_20_code 9 = .ok (.ireturn, 1) := by decide +kernel
theorem dd_Ab_message_10 : decode prog_1_method_20_code 10 = .ok (.aload_n 0, 1) := by decide +kernel
theorem dd_Ab_message_11 : decode prog_1_method_20_code 11 = .ok (.getfield 18, 3) := by decide +kernel
theorem dd_Ab_message_14 : decode prog_1_method_20_code 14 = .ok (.iload_n 1, 1) := by decide +kernel
theorem dd_Ab_message_15 : decode prog_1_method_20_code 15 = .ok (.aaload, 1) := by decide +kernel
theorem dd_Ab_message_16 : decode prog_1_method_20_code 16 = .ok (.getfield 144, 3) := by decide +kernel
theorem dd_Ab_message_19 : decode prog_1_method_20_code 19 = .ok (.astore_n 3, 1) := by decide +kernel
theorem dd_Ab_message_20 : decode prog_1_method_20_code 20 = .ok (.iload_n 2, 1) := by decide +kernel
theorem dd_Ab_message_21 : decode prog_1_method_20_code 21 = .ok (.tableswitch 59 0 3 #[31, 36, 41, 46], 31) := by decide +kernel
theorem dd_Ab_message_52 : decode prog_1_method_20_code 52 = .ok (.aload_n 3, 1) := by decide +kernel
theorem dd_Ab_message_53 : decode prog_1_method_20_code 53 = .ok (.getfield 148, 3) := by decide +kernel
theorem dd_Ab_message_56 : decode prog_1_method_20_code 56 = .ok (.ireturn, 1) := by decide +kernel
theorem dd_Ab_message_57 : decode prog_1_method_20_code 57 = .ok (.aload_n 3, 1) := by decide +kernel
theorem dd_Ab_message_58 : decode prog_1_method_20_code 58 = .ok (.getfield 153, 3) := by decide +kernel
theorem dd_Ab_message_61 : decode prog_1_method_20_code 61 = .ok (.ireturn, 1) := by decide +kernel
theorem dd_Ab_message_62 : decode prog_1_method_20_code 62 = .ok (.aload_n 3, 1) := by decide +kernel
theorem dd_Ab_message_63 : decode prog_1_method_20_code 63 = .ok (.getfield 156, 3) := by decide +kernel
theorem dd_Ab_message_66 : decode prog_1_method_20_code 66 = .ok (.ireturn, 1) := by decide +kernel
theorem dd_Ab_message_67 : decode prog_1_method_20_code 67 = .ok (.aload_n 3, 1) := by decide +kernel
theorem dd_Ab_message_68 : decode prog_1_method_20_code 68 = .ok (.getfield 159, 3) := by decide +kernel
theorem dd_Ab_message_71 : decode prog_1_method_20_code 71 = .ok (.ifCond .eq 7, 3) := by decide +kernel
theorem dd_Ab_message_74 : decode prog_1_method_20_code 74 = .ok (.iconst 1, 1) := by decide +kernel
theorem dd_Ab_message_75 : decode prog_1_method_20_code 75 = .ok (.goto 4, 3) := by decide +kernel
theorem dd_Ab_message_78 : decode prog_1_method_20_code 78 = .ok (.iconst 0, 1) := by decide +kernel
theorem dd_Ab_message_79 : decode prog_1_method_20_code 79 = .ok (.ireturn, 1) := by decide +kernel
theorem dd_Ab_message_80 : decode prog_1_method_20_code 80 = .ok (.iconst (-1), 1) := by decide +kernel
theorem dd_Ab_message_81 : decode prog_1_method_20_code 81 = .ok (.ireturn, 1) := by decide +kernel
theorem dd_Ab_byteOf_0 : decode prog_1_method_21_code 0 = .ok (.aload_n 0, 1) := by decide +kernel
theorem dd_Ab_byteOf_1 : decode prog_1_method_21_code 1 = .ok (.iload_n 1, 1) := by decide +kernel
theorem dd_Ab_byteOf_2 : decode prog_1_method_21_code 2 = .ok (.invokevirtual 141, 3) := by decide +kernel
theorem dd_Ab_byteOf_5 : decode prog_1_method_21_code 5 = .ok (.ifCond .eq 19, 3) := by decide +kernel
theorem dd_Ab_byteOf_8 : decode prog_1_method_21_code 8 = .ok (.aload_n 0, 1) := by decide +kernel
theorem dd_Ab_byteOf_9 : decode prog_1_method_21_code 9 = .ok (.getfield 18, 3) := by decide +kernel
theorem dd_Ab_byteOf_12 : decode prog_1_method_21_code 12 = .ok (.iload_n 1, 1) := by decide +kernel
theorem dd_Ab_byteOf_13 : decode prog_1_method_21_code 13 = .ok (.aaload, 1) := by decide +kernel
theorem dd_Ab_byteOf_14 : decode prog_1_method_21_code 14 = .ok (.getfield 144, 3) := by decide +kernel
theorem dd_Ab_byteOf_17 : decode prog_1_method_21_code 17 = .ok (.iload_n 2, 1) := by decide +kernel
theorem dd_Ab_byteOf_18 : decode prog_1_method_21_code 18 = .ok (.invokevirtual 162, 3) := by decide +kernel
theorem dd_Ab_byteOf_21 : decode prog_1_method_21_code 21 = .ok (.goto 4, 3) := by decide +kernel
theorem dd_Ab_byteOf_24 : decode prog_1_method_21_code 24 = .ok (.iconst (-1), 1) := by decide +kernel
theorem dd_Ab_byteOf_25 : decode prog_1_method_21_code 25 = .ok (.ireturn, 1) := by decide +kernel
theorem dd_Ab_isFunction_0 : decode prog_1_method_22_code 0 = .ok (.iload_n 1, 1) := by decide +kernel
theorem dd_Ab_isFunction_1 : decode prog_1_method_22_code 1 = .ok (.ifCond .lt 12, 3) := by decide +kernel
theorem dd_Ab_isFunction_4 : decode prog_1_method_22_code 4 = .ok (.iload_n 1, 1) := by decide +kernel
theorem dd_Ab_isFunction_5 : decode prog_1_method_22_code 5 = .ok (.iconst 5, 1) := by decide +kernel
theorem dd_Ab_isFunction_6 : decode prog_1_method_22_code 6 = .ok (.if_icmp .ge 7, 3) := by decide +kernel
theorem dd_Ab_isFunction_9 : decode prog_1_method_22_code 9 = .ok (.iconst 1, 1) := by decide +kernel
theorem dd_Ab_isFunction_10 : decode prog_1_method_22_code 10 = .ok (.goto 4, 3) := by decide +kernel
theorem dd_Ab_isFunction_13 : decode prog_1_method_22_code 13 = .ok (.iconst 0, 1) := by decide +kernel
theorem dd_Ab_isFunction_14 : decode prog_1_method_22_code 14 = .ok (.ireturn, 1) := by decide +kernel
theorem dd_Ab_isOn_0 : decode prog_1_method_23_code 0 = .ok (.aload_n 0, 1) := by decide +kernel
theorem dd_Ab_isOn_1 : decode prog_1_method_23_code 1 = .ok (.iload_n 1, 1) := by decide +kernel
theorem dd_Ab_isOn_2 : decode prog_1_method_23_code 2 = .ok (.invokevirtual 30, 3) := by decide +kernel
theorem dd_Ab_isOn_5 : decode prog_1_method_23_code 5 = .ok (.ifCond .eq 19, 3) := by decide +kernel
theorem dd_Ab_isOn_8 : decode prog_1_method_23_code 8 = .ok (.aload_n 0, 1) := by decide +kernel
theorem dd_Ab_isOn_9 : decode prog_1_method_23_code 9 = .ok (.getfield 18, 3) := by decide +kernel
theorem dd_Ab_isOn_12 : decode prog_1_method_23_code 12 = .ok (.iload_n 1, 1) := by decide +kernel
theorem dd_Ab_isOn_13 : decode prog_1_method_23_code 13 = .ok (.aaload, 1) := by decide +kernel
theorem dd_Ab_isOn_14 : decode prog_1_method_23_code 14 = .ok (.getfield 56, 3) := by decide +kernel
theorem dd_Ab_isOn_17 : decode prog_1_method_23_code 17 = .ok (.ifCond .eq 7, 3) := by decide +kernel
theorem dd_Ab_isOn_20 : decode prog_1_method_23_code 20 = .ok (.iconst 1, 1) := by decide +kernel
theorem dd_Ab_isOn_21 : decode prog_1_method_23_code 21 = .ok (.goto 4, 3) := by decide +kernel
theorem dd_Ab_isOn_24 : decode prog_1_method_23_code 24 = .ok (.iconst 0, 1) := by decide +kernel
theorem dd_Ab_isOn_25 : decode prog_1_method_23_code 25 = .ok (.ireturn, 1) := by decide +kernel
theorem dd_Ab_hasMessage_0 : decode prog_1_method_24_code 0 = .ok (.aload_n 0, 1) := by decide +kernel
theorem dd_Ab_hasMessage_1 : decode prog_1_method_24_code 1 = .ok (.iload_n 1, 1) := by decide +kernel
theorem dd_Ab_hasMessage_2 : decode prog_1_method_24_code 2 = .ok (.invokevirtual 34, 3) := by decide +kernel
theorem dd_Ab_hasMessage_5 : decode prog_1_method_24_code 5 = .ok (.ifCond .eq 19, 3) := by decide +kernel
theorem dd_Ab_hasMessage_8 : decode prog_1_method_24_code 8 = .ok (.aload_n 0, 1) := by decide +kernel
theorem dd_Ab_hasMessage_9 : decode prog_1_method_24_code 9 = .ok (.getfield 18, 3) := by decide +kernel
theorem dd_Ab_hasMessage_12 : decode prog_1_method_24_code 12 = .ok (.iload_n 1, 1) := by decide +kernel
theorem dd_Ab_hasMessage_13 : decode prog_1_method_24_code 13 = .ok (.aaload, 1) := by decide +kernel
theorem dd_Ab_hasMessage_14 : decode prog_1_method_24_code 14 = .ok (.getfield 138, 3) := by decide +kernel
theorem dd_Ab_hasMessage_17 : decode prog_1_method_24_code 17 = .ok (.ifCond .le 7, 3) := by decide +kernel
theorem dd_Ab_hasMessage_20 : decode prog_1_method_24_code 20 = .ok (.iconst 1, 1) := by decide +kernel
theorem dd_Ab_hasMessage_21 : decode prog_1_method_24_code 21 = .ok (.goto 4, 3) := by decide +kernel
theorem dd_Ab_hasMessage_24 : decode prog_1_method_24_code 24 = .ok (.iconst 0, 1) := by decide +kernel
theorem dd_Ab_hasMessage_25 : decode prog_1_method_24_code 25 = .ok (.ireturn, 1) := by decide +kernel
theorem dd_Ab_isNameTaken_0 : decode prog_1_method_25_code 0 = .ok (.iconst 0, 1) := by decide +kernel
theorem dd_Ab_isNameTaken_1 : decode prog_1_method_25_code 1 = .ok (.istore_n 3, 1) := by decide +kernel
theorem dd_Ab_isNameTaken_2 : decode prog_1_method_25_code 2 = .ok (.iload_n 3, 1) := by decide +kernel
theorem dd_Ab_isNameTaken_3 : decode prog_1_method_25_code 3 = .ok (.iconst 5, 1) := by decide +kernel
theorem dd_Ab_isNameTaken_4 : decode prog_1_method_25_code 4 = .ok (.if_icmp .ge 33, 3) := by decide +kernel
theorem dd_Ab_isNameTaken_7 : decode prog_1_method_25_code 7 = .ok (.aload_n 0, 1) := by decide +kernel
theorem dd_Ab_isNameTaken_8 : decode prog_1_method_25_code 8 = .ok (.iload_n 3, 1) := by decide +kernel
theorem dd_Ab_isNameTaken_9 : decode prog_1_method_25_code 9 = .ok (.invokevirtual 34, 3) := by decide +kernel
theorem dd_Ab_isNameTaken_12 : decode prog_1_method_25_code 12 = .ok (.ifCond .eq 19, 3) := by decide +kernel
theorem dd_Ab_isNameTaken_15 : decode prog_1_method_25_code 15 = .ok (.aload_n 0, 1) := by decide +kernel
theorem dd_Ab_isNameTaken_16 : decode prog_1_method_25_code 16 = .ok (.getfield 18, 3) := by decide +kernel
theorem dd_Ab_isNameTaken_19 : decode prog_1_method_25_code 19 = .ok (.iload_n 3, 1) := by decide +kernel
theorem dd_Ab_isNameTaken_20 : decode prog_1_method_25_code 20 = .ok (.aaload, 1) := by decide +kernel
theorem dd_Ab_isNameTaken_21 : decode prog_1_method_25_code 21 = .ok (.getfield 166, 3) := by decide +kernel
theorem dd_Ab_isNameTaken_24 : decode prog_1_method_25_code 24 = .ok (.lload_n 1, 1) := by decide +kernel
theorem dd_Ab_isNameTaken_25 : decode prog_1_method_25_code 25 = .ok (.lcmp, 1) := by decide +kernel
theorem dd_Ab_isNameTaken_26 : decode prog_1_method_25_code 26 = .ok (.ifCond .ne 5, 3) := by decide +kernel
theorem dd_Ab_isNameTaken_29 : decode prog_1_method_25_code 29 = .ok (.iconst 1, 1) := by decide +kernel
theorem dd_Ab_isNameTaken_30 : decode prog_1_method_25_code 30 = .ok (.ireturn, 1) := by decide +kernel
theorem dd_Ab_isNameTaken_31 : decode prog_1_method_25_code 31 = .ok (.iinc 3 1, 3) := by decide +kernel
theorem dd_Ab_isNameTaken_34 : decode prog_1_method_25_code 34 = .ok (.goto (-32), 3) := by decide +kernel
theorem dd_Ab_isNameTaken_37 : decode prog_1_method_25_code 37 = .ok (.iconst 0, 1) := by decide +kernel
theorem dd_Ab_isNameTaken_38 : decode prog_1_method_25_code 38 = .ok (.ireturn, 1) := by decide +kernel
theorem dd_Ab_firstDue_0 : decode prog_1_method_26_code 0 = .ok (.iconst 0, 1) := by decide +kernel
theorem dd_Ab_firstDue_1 : decode prog_1_method_26_code 1 = .ok (.istore_n 1, 1) := by decide +kernel
theorem dd_Ab_firstDue_2 : decode prog_1_method_26_code 2 = .ok (.iconst 1, 1) := by decide +kernel
theorem dd_Ab_firstDue_3 : decode prog_1_method_26_code 3 = .ok (.istore_n 2, 1) := by decide +kernel
theorem dd_Ab_firstDue_4 : decode prog_1_method_26_code 4 = .ok (.iload_n 2, 1) := by decide +kernel
theorem dd_Ab_firstDue_5 : decode prog_1_method_26_code 5 = .ok (.iconst 5, 1) := by decide +kernel
theorem dd_Ab_firstDue_6 : decode prog_1_method_26_code 6 = .ok (.if_icmp .ge 33, 3) := by decide +kernel
theorem dd_Ab_firstDue_9 : decode prog_1_method_26_code 9 = .ok (.aload_n 0, 1) := by decide +kernel
theorem dd_Ab_firstDue_10 : decode prog_1_method_26_code 10 = .ok (.getfield 18, 3) := by decide +kernel
theorem dd_Ab_firstDue_13 : decode prog_1_method_26_code 13 = .ok (.iload_n 2, 1) := by decide +kernel
theorem dd_Ab_firstDue_14 : decode prog_1_method_26_code 14 = .ok (.aaload, 1) := by decide +kernel
theorem dd_Ab_firstDue_15 : decode prog_1_method_26_code 15 = .ok (.invokevirtual 122, 3) := by decide +kernel
theorem dd_Ab_firstDue_18 : decode prog_1_method_26_code 18 = .ok (.aload_n 0, 1) := by decide +kernel
theorem dd_Ab_firstDue_19 : decode prog_1_method_26_code 19 = .ok (.getfield 18, 3) := by decide +kernel
theorem dd_Ab_firstDue_22 : decode prog_1_method_26_code 22 = .ok (.iload_n 1, 1) := by decide +kernel
theorem dd_Ab_firstDue_23 : decode prog_1_method_26_code 23 = .ok (.aaload, 1) := by decide +kernel
theorem dd_Ab_firstDue_24 : decode prog_1_method_26_code 24 = .ok (.invokevirtual 122, 3) := by decide +kernel
theorem dd_Ab_firstDue_27 : decode prog_1_method_26_code 27 = .ok (.lcmp, 1) := by decide +kernel
theorem dd_Ab_firstDue_28 : decode prog_1_method_26_code 28 = .ok (.ifCond .ge 5, 3) := by decide +kernel
theorem dd_Ab_firstDue_31 : decode prog_1_method_26_code 31 = .ok (.iload_n 2, 1) := by decide +kernel
theorem dd_Ab_firstDue_32 : decode prog_1_method_26_code 32 = .ok (.istore_n 1, 1) := by decide +kernel
theorem dd_Ab_firstDue_33 : decode prog_1_method_26_code 33 = .ok (.iinc 2 1, 3) := by decide +kernel
theorem dd_Ab_firstDue_36 : decode prog_1_method_26_code 36 = .ok (.goto (-32), 3) := by decide +kernel
theorem dd_Ab_firstDue_39 : decode prog_1_method_26_code 39 = .ok (.iload_n 1, 1) := by decide +kernel
theorem dd_Ab_firstDue_40 : decode prog_1_method_26_code 40 = .ok (.ireturn, 1) := by decide +kernel
theorem dd_Ab_packetsFor_0 : decode prog_1_method_27_code 0 = .ok (.iload_n 0, 1) := by decide +kernel
theorem dd_Ab_packetsFor_1 : decode prog_1_method_27_code 1 = .ok (.bipush 7, 2) := by decide +kernel
theorem dd_Ab_packetsFor_3 : decode prog_1_method_27_code 3 = .ok (.iadd, 1) := by decide +kernel
theorem dd_Ab_packetsFor_4 : decode prog_1_method_27_code 4 = .ok (.iconst 1, 1) := by decide +kernel
theorem dd_Ab_packetsFor_5 : decode prog_1_method_27_code 5 = .ok (.isub, 1) := by decide +kernel
theorem dd_Ab_packetsFor_6 : decode prog_1_method_27_code 6 = .ok (.bipush 7, 2) := by decide +kernel
theorem dd_Ab_packetsFor_8 : decode prog_1_method_27_code 8 = .ok (.idiv, 1) := by decide +kernel
theorem dd_Ab_packetsFor_9 : decode prog_1_method_27_code 9 = .ok (.ireturn, 1) := by decide +kernel
theorem dd_Ab_frameByte_0 : decode prog_1_method_28_code 0 = .ok (.lload_n 0, 1) := by decide +kernel
theorem dd_Ab_frameByte_1 : decode prog_1_method_28_code 1 = .ok (.bipush 8, 2) := by decide +kernel
theorem dd_Ab_frameByte_3 : decode prog_1_method_28_code 3 = .ok (.iload_n 2, 1) := by decide +kernel
theorem dd_Ab_frameByte_4 : decode prog_1_method_28_code 4 = .ok (.iconst 1, 1) := by decide +kernel
theorem dd_Ab_frameByte_5 : decode prog_1_method_28_code 5 = .ok (.isub, 1) := by decide +kernel
theorem dd_Ab_frameByte_6 : decode prog_1_method_28_code 6 = .ok (.imul, 1) := by decide +kernel
theorem dd_Ab_frameByte_7 : decode prog_1_method_28_code 7 = .ok (.lushr, 1) := by decide +kernel
theorem dd_Ab_frameByte_8 : decode prog_1_method_28_code 8 = .ok (.l2i, 1) := by decide +kernel
theorem dd_Ab_frameByte_9 : decode prog_1_method_28_code 9 = .ok (.sipush 255, 3) := by decide +kernel
theorem dd_Ab_frameByte_12 : decode prog_1_method_28_code 12 = .ok (.iand, 1) := by decide +kernel
theorem dd_Ab_frameByte_13 : decode prog_1_method_28_code 13 = .ok (.ireturn, 1) := by decide +kernel
theorem dd_Ab_controlData_0 : decode prog_1_method_29_code 0 = .ok (.iload 4, 2) := by decide +kernel
theorem dd_Ab_controlData_2 : decode prog_1_method_29_code 2 = .ok (.i2l, 1) := by decide +kernel
theorem dd_Ab_controlData_3 : decode prog_1_method_29_code 3 = .ok (.bipush 40, 2) := by decide +kernel
theorem dd_Ab_controlData_5 : decode prog_1_method_29_code 5 = .ok (.lshl, 1) := by decide +kernel
theorem dd_Ab_controlData_6 : decode prog_1_method_29_code 6 = .ok (.lstore 5, 2) := by decide +kernel
theorem dd_Ab_controlData_8 : decode prog_1_method_29_code 8 = .ok (.lload 5, 2) := by decide +kernel
theorem dd_Ab_controlData_10 : decode prog_1_method_29_code 10 = .ok (.ldc2_w 169, 3) := by decide +kernel
theorem dd_Ab_controlData_13 : decode prog_1_method_29_code 13 = .ok (.ladd, 1) := by decide +kernel
theorem dd_Ab_controlData_14 : decode prog_1_method_29_code 14 = .ok (.lstore 5, 2) := by decide +kernel
theorem dd_Ab_controlData_16 : decode prog_1_method_29_code 16 = .ok (.lload 5, 2) := by decide +kernel
theorem dd_Ab_controlData_18 : decode prog_1_method_29_code 18 = .ok (.iload_n 3, 1) := by decide +kernel
theorem dd_Ab_controlData_19 : decode prog_1_method_29_code 19 = .ok (.i2l, 1) := by decide +kernel
theorem dd_Ab_controlData_20 : decode prog_1_method_29_code 20 = .ok (.bipush 24, 2) := by decide +kernel
theorem dd_Ab_controlData_22 : decode prog_1_method_29_code 22 = .ok (.lshl, 1) := by decide +kernel
theorem dd_Ab_controlData_23 : decode prog_1_method_29_code 23 = .ok (.ladd, 1) := by decide +kernel
theorem dd_Ab_controlData_24 : decode prog_1_method_29_code 24 = .ok (.lstore 5, 2) := by decide +kernel
theorem dd_Ab_controlData_26 : decode prog_1_method_29_code 26 = .ok (.lload 5, 2) := by decide +kernel
theorem dd_Ab_controlData_28 : decode prog_1_method_29_code 28 = .ok (.iload_n 2, 1) := by decide +kernel
theorem dd_Ab_controlData_29 : decode prog_1_method_29_code 29 = .ok (.bipush 16, 2) := by decide +kernel
theorem dd_Ab_controlData_31 : decode prog_1_method_29_code 31 = .ok (.ishl, 1) := by decide +kernel
theorem dd_Ab_controlData_32 : decode prog_1_method_29_code 32 = .ok (.i2l, 1) := by decide +kernel
theorem dd_Ab_controlData_33 : decode prog_1_method_29_code 33 = .ok (.ladd, 1) := by decide +kernel
theorem dd_Ab_controlData_34 : decode prog_1_method_29_code 34 = .ok (.iload_n 1, 1) := by decide +kernel
theorem dd_Ab_controlData_35 : decode prog_1_method_29_code 35 = .ok (.bipush 8, 2) := by decide +kernel
theorem dd_Ab_controlData_37 : decode prog_1_method_29_code 37 = .ok (.ishl, 1) := by decide +kernel
theorem dd_Ab_controlData_38 : decode prog_1_method_29_code 38 = .ok (.i2l, 1) := by decide +kernel
theorem dd_Ab_controlData_39 : decode prog_1_method_29_code 39 = .ok (.ladd, 1) := by decide +kernel
theorem dd_Ab_controlData_40 : decode prog_1_method_29_code 40 = .ok (.iload_n 0, 1) := by decide +kernel
theorem dd_Ab_controlData_41 : decode prog_1_method_29_code 41 = .ok (.i2l, 1) := by decide +kernel
theorem dd_Ab_controlData_42 : decode prog_1_method_29_code 42 = .ok (.ladd, 1) := by decide +kernel
theorem dd_Ab_controlData_43 : decode prog_1_method_29_code 43 = .ok (.lreturn, 1) := by decide +kernel
theorem dd_Ab_extentData_0 : decode prog_1_method_30_code 0 = .ok (.iload_n 0, 1) := by decide +kernel
theorem dd_Ab_extentData_1 : decode prog_1_method_30_code 1 = .ok (.iload_n 1, 1) := by decide +kernel
theorem dd_Ab_extentData_2 : decode prog_1_method_30_code 2 = .ok (.sipush 255, 3) := by decide +kernel
theorem dd_Ab_extentData_5 : decode prog_1_method_30_code 5 = .ok (.iand, 1) := by decide +kernel
theorem dd_Ab_extentData_6 : decode prog_1_method_30_code 6 = .ok (.iload_n 1, 1) := by decide +kernel
theorem dd_Ab_extentData_7 : decode prog_1_method_30_code 7 = .ok (.bipush 8, 2) := by decide +kernel
theorem dd_Ab_extentData_9 : decode prog_1_method_30_code 9 = .ok (.ishr, 1) := by decide +kernel
theorem dd_Ab_extentData_10 : decode prog_1_method_30_code 10 = .ok (.iload_n 1, 1) := by decide +kernel
theorem dd_Ab_extentData_11 : decode prog_1_method_30_code 11 = .ok (.invokestatic 171, 3) := by decide +kernel
theorem dd_Ab_extentData_14 : decode prog_1_method_30_code 14 = .ok (.iload_n 2, 1) := by decide +kernel
theorem dd_Ab_extentData_15 : decode prog_1_method_30_code 15 = .ok (.invokestatic 174, 3) := by decide +kernel
theorem dd_Ab_extentData_18 : decode prog_1_method_30_code 18 = .ok (.lreturn, 1) := by decide +kernel
theorem dd_Ab_abortData_0 : decode prog_1_method_31_code 0 = .ok (.sipush 255, 3) := by decide +kernel
theorem dd_Ab_abortData_3 : decode prog_1_method_31_code 3 = .ok (.iload_n 0, 1) := by decide +kernel
theorem dd_Ab_abortData_4 : decode prog_1_method_31_code 4 = .ok (.sipush 255, 3) := by decide +kernel
theorem dd_Ab_abortData_7 : decode prog_1_method_31_code 7 = .ok (.sipush 255, 3) := by decide +kernel
theorem dd_Ab_abortData_10 : decode prog_1_method_31_code 10 = .ok (.iload_n 1, 1) := by decide +kernel
theorem dd_Ab_abortData_11 : decode prog_1_method_31_code 11 = .ok (.invokestatic 174, 3) := by decide +kernel
theorem dd_Ab_abortData_14 : decode prog_1_method_31_code 14 = .ok (.lreturn, 1) := by decide +kernel
