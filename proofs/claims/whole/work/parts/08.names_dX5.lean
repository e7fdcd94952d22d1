theorem dX5_init_0 : decode cX5_init 0 = .ok (.aload_n 0, 1) := by decide +kernel
theorem dX5_init_1 : decode cX5_init 1 = .ok (.invokespecial 1, 3) := by decide +kernel
theorem dX5_init_4 : decode cX5_init 4 = .ok (.aload_n 0, 1) := by decide +kernel
theorem dX5_init_5 : decode cX5_init 5 = .ok (.sipush 147, 3) := by decide +kernel
theorem dX5_init_8 : decode cX5_init 8 = .ok (.newarray .int, 2) := by decide +kernel
theorem dX5_init_10 : decode cX5_init 10 = .ok (.putfield 7, 3) := by decide +kernel
theorem dX5_init_13 : decode cX5_init 13 = .ok (.aload_n 0, 1) := by decide +kernel
theorem dX5_init_14 : decode cX5_init 14 = .ok (.bipush 21, 2) := by decide +kernel
theorem dX5_init_16 : decode cX5_init 16 = .ok (.newarray .int, 2) := by decide +kernel
theorem dX5_init_18 : decode cX5_init 18 = .ok (.putfield 13, 3) := by decide +kernel
theorem dX5_init_21 : decode cX5_init 21 = .ok (.aload_n 0, 1) := by decide +kernel
theorem dX5_init_22 : decode cX5_init 22 = .ok (.bipush 40, 2) := by decide +kernel
theorem dX5_init_24 : decode cX5_init 24 = .ok (.newarray .int, 2) := by decide +kernel
theorem dX5_init_26 : decode cX5_init 26 = .ok (.putfield 16, 3) := by decide +kernel
theorem dX5_init_29 : decode cX5_init 29 = .ok (.aload_n 0, 1) := by decide +kernel
theorem dX5_init_30 : decode cX5_init 30 = .ok (.bipush 20, 2) := by decide +kernel
theorem dX5_init_32 : decode cX5_init 32 = .ok (.newarray .boolean, 2) := by decide +kernel
theorem dX5_init_34 : decode cX5_init 34 = .ok (.putfield 19, 3) := by decide +kernel
theorem dX5_init_37 : decode cX5_init 37 = .ok (.aload_n 0, 1) := by decide +kernel
theorem dX5_init_38 : decode cX5_init 38 = .ok (.bipush 17, 2) := by decide +kernel
theorem dX5_init_40 : decode cX5_init 40 = .ok (.newarray .boolean, 2) := by decide +kernel
theorem dX5_init_42 : decode cX5_init 42 = .ok (.putfield 23, 3) := by decide +kernel
theorem dX5_init_45 : decode cX5_init 45 = .ok (.aload_n 0, 1) := by decide +kernel
theorem dX5_init_46 : decode cX5_init 46 = .ok (.bipush 6, 2) := by decide +kernel
theorem dX5_init_48 : decode cX5_init 48 = .ok (.newarray .int, 2) := by decide +kernel
theorem dX5_init_50 : decode cX5_init 50 = .ok (.putfield 26, 3) := by decide +kernel
theorem dX5_init_53 : decode cX5_init 53 = .ok (.aload_n 0, 1) := by decide +kernel
theorem dX5_init_54 : decode cX5_init 54 = .ok (.bipush 6, 2) := by decide +kernel
theorem dX5_init_56 : decode cX5_init 56 = .ok (.newarray .int, 2) := by decide +kernel
theorem dX5_init_58 : decode cX5_init 58 = .ok (.putfield 29, 3) := by decide +kernel
theorem dX5_init_61 : decode cX5_init 61 = .ok (.aload_n 0, 1) := by decide +kernel
theorem dX5_init_62 : decode cX5_init 62 = .ok (.bipush 8, 2) := by decide +kernel
theorem dX5_init_64 : decode cX5_init 64 = .ok (.newarray .int, 2) := by decide +kernel
theorem dX5_init_66 : decode cX5_init 66 = .ok (.putfield 32, 3) := by decide +kernel
theorem dX5_init_69 : decode cX5_init 69 = .ok (.aload_n 0, 1) := by decide +kernel
theorem dX5_init_70 : decode cX5_init 70 = .ok (.bipush 20, 2) := by decide +kernel
theorem dX5_init_72 : decode cX5_init 72 = .ok (.newarray .int, 2) := by decide +kernel
theorem dX5_init_74 : decode cX5_init 74 = .ok (.putfield 35, 3) := by decide +kernel
theorem dX5_init_77 : decode cX5_init 77 = .ok (.aload_n 0, 1) := by decide +kernel
theorem dX5_init_78 : decode cX5_init 78 = .ok (.bipush 20, 2) := by decide +kernel
theorem dX5_init_80 : decode cX5_init 80 = .ok (.newarray .boolean, 2) := by decide +kernel
theorem dX5_init_82 : decode cX5_init 82 = .ok (.putfield 38, 3) := by decide +kernel
theorem dX5_init_85 : decode cX5_init 85 = .ok (.return_, 1) := by decide +kernel
theorem dX5_thrown_0 : decode cX5_thrown 0 = .ok (.aload_n 0, 1) := by decide +kernel
theorem dX5_thrown_1 : decode cX5_thrown 1 = .ok (.getfield 41, 3) := by decide +kernel
theorem dX5_thrown_4 : decode cX5_thrown 4 = .ok (.ireturn, 1) := by decide +kernel
theorem dX5_goes_0 : decode cX5_goes 0 = .ok (.aload_n 0, 1) := by decide +kernel
theorem dX5_goes_1 : decode cX5_goes 1 = .ok (.iload_n 1, 1) := by decide +kernel
theorem dX5_goes_2 : decode cX5_goes 2 = .ok (.putfield 41, 3) := by decide +kernel
theorem dX5_goes_5 : decode cX5_goes 5 = .ok (.iload_n 1, 1) := by decide +kernel
theorem dX5_goes_6 : decode cX5_goes 6 = .ok (.ifCond .ne 7, 3) := by decide +kernel
theorem dX5_goes_9 : decode cX5_goes 9 = .ok (.iconst 1, 1) := by decide +kernel
theorem dX5_goes_10 : decode cX5_goes 10 = .ok (.goto 4, 3) := by decide +kernel
theorem dX5_goes_13 : decode cX5_goes 13 = .ok (.iconst 0, 1) := by decide +kernel
theorem dX5_goes_14 : decode cX5_goes 14 = .ok (.ireturn, 1) := by decide +kernel
theorem dX5_lies_0 : decode cX5_lies 0 = .ok (.iload_n 0, 1) := by decide +kernel
theorem dX5_lies_1 : decode cX5_lies 1 = .ok (.iload_n 1, 1) := by decide +kernel
theorem dX5_lies_2 : decode cX5_lies 2 = .ok (.if_icmp .lt 12, 3) := by decide +kernel
theorem dX5_lies_5 : decode cX5_lies 5 = .ok (.iload_n 0, 1) := by decide +kernel
theorem dX5_lies_6 : decode cX5_lies 6 = .ok (.iload_n 2, 1) := by decide +kernel
theorem dX5_lies_7 : decode cX5_lies 7 = .ok (.if_icmp .gt 7, 3) := by decide +kernel
theorem dX5_lies_10 : decode cX5_lies 10 = .ok (.iconst 1, 1) := by decide +kernel
theorem dX5_lies_11 : decode cX5_lies 11 = .ok (.goto 4, 3) := by decide +kernel
theorem dX5_lies_14 : decode cX5_lies 14 = .ok (.iconst 0, 1) := by decide +kernel
theorem dX5_lies_15 : decode cX5_lies 15 = .ok (.ireturn, 1) := by decide +kernel
theorem dX5_isStrategy_0 : decode cX5_isStrategy 0 = .ok (.iload_n 1, 1) := by decide +kernel
theorem dX5_isStrategy_1 : decode cX5_isStrategy 1 = .ok (.iconst 0, 1) := by decide +kernel
theorem dX5_isStrategy_2 : decode cX5_isStrategy 2 = .ok (.aload_n 0, 1) := by decide +kernel
theorem dX5_isStrategy_3 : decode cX5_isStrategy 3 = .ok (.getfield 45, 3) := by decide +kernel
theorem dX5_isStrategy_6 : decode cX5_isStrategy 6 = .ok (.iconst 1, 1) := by decide +kernel
theorem dX5_isStrategy_7 : decode cX5_isStrategy 7 = .ok (.isub, 1) := by decide +kernel
theorem dX5_isStrategy_8 : decode cX5_isStrategy 8 = .ok (.invokestatic 48, 3) := by decide +kernel
theorem dX5_isStrategy_11 : decode cX5_isStrategy 11 = .ok (.ireturn, 1) := by decide +kernel
theorem dX5_isStep_0 : decode cX5_isStep 0 = .ok (.iload_n 0, 1) := by decide +kernel
theorem dX5_isStep_1 : decode cX5_isStep 1 = .ok (.iconst 0, 1) := by decide +kernel
theorem dX5_isStep_2 : decode cX5_isStep 2 = .ok (.bipush 16, 2) := by decide +kernel
theorem dX5_isStep_4 : decode cX5_isStep 4 = .ok (.invokestatic 48, 3) := by decide +kernel
theorem dX5_isStep_7 : decode cX5_isStep 7 = .ok (.ireturn, 1) := by decide +kernel
theorem dX5_isValue_0 : decode cX5_isValue 0 = .ok (.iload_n 0, 1) := by decide +kernel
theorem dX5_isValue_1 : decode cX5_isValue 1 = .ok (.iconst 0, 1) := by decide +kernel
theorem dX5_isValue_2 : decode cX5_isValue 2 = .ok (.bipush 99, 2) := by decide +kernel
theorem dX5_isValue_4 : decode cX5_isValue 4 = .ok (.invokestatic 48, 3) := by decide +kernel
theorem dX5_isValue_7 : decode cX5_isValue 7 = .ok (.ireturn, 1) := by decide +kernel
theorem dX5_isAuction_0 : decode cX5_isAuction 0 = .ok (.iload_n 0, 1) := by decide +kernel
theorem dX5_isAuction_1 : decode cX5_isAuction 1 = .ok (.iconst 0, 1) := by decide +kernel
theorem dX5_isAuction_2 : decode cX5_isAuction 2 = .ok (.iconst 3, 1) := by decide +kernel
theorem dX5_isAuction_3 : decode cX5_isAuction 3 = .ok (.invokestatic 48, 3) := by decide +kernel
theorem dX5_isAuction_6 : decode cX5_isAuction 6 = .ok (.ireturn, 1) := by decide +kernel
theorem dX5_made_0 : decode cX5_made 0 = .ok (.iload_n 0, 1) := by decide +kernel
theorem dX5_made_1 : decode cX5_made 1 = .ok (.bipush 11, 2) := by decide +kernel
theorem dX5_made_3 : decode cX5_made 3 = .ok (.if_icmp .ne 11, 3) := by decide +kernel
theorem dX5_made_6 : decode cX5_made 6 = .ok (.iload_n 1, 1) := by decide +kernel
theorem dX5_made_7 : decode cX5_made 7 = .ok (.i2l, 1) := by decide +kernel
theorem dX5_made_8 : decode cX5_made 8 = .ok (.iload_n 2, 1) := by decide +kernel
theorem dX5_made_9 : decode cX5_made 9 = .ok (.i2l, 1) := by decide +kernel
theorem dX5_made_10 : decode cX5_made 10 = .ok (.ladd, 1) := by decide +kernel
theorem dX5_made_11 : decode cX5_made 11 = .ok (.goto 85, 3) := by decide +kernel
theorem dX5_made_14 : decode cX5_made 14 = .ok (.iload_n 0, 1) := by decide +kernel
theorem dX5_made_15 : decode cX5_made 15 = .ok (.bipush 12, 2) := by decide +kernel
theorem dX5_made_17 : decode cX5_made 17 = .ok (.if_icmp .ne 11, 3) := by decide +kernel
theorem dX5_made_20 : decode cX5_made 20 = .ok (.iload_n 1, 1) := by decide +kernel
theorem dX5_made_21 : decode cX5_made 21 = .ok (.i2l, 1) := by decide +kernel
theorem dX5_made_22 : decode cX5_made 22 = .ok (.iload_n 2, 1) := by decide +kernel
theorem dX5_made_23 : decode cX5_made 23 = .ok (.i2l, 1) := by decide +kernel
theorem dX5_made_24 : decode cX5_made 24 = .ok (.lsub, 1) := by decide +kernel
theorem dX5_made_25 : decode cX5_made 25 = .ok (.goto 71, 3) := by decide +kernel
theorem dX5_made_28 : decode cX5_made 28 = .ok (.iload_n 0, 1) := by decide +kernel
theorem dX5_made_29 : decode cX5_made 29 = .ok (.bipush 13, 2) := by decide +kernel
theorem dX5_made_31 : decode cX5_made 31 = .ok (.if_icmp .ne 11, 3) := by decide +kernel
theorem dX5_made_34 : decode cX5_made 34 = .ok (.iload_n 1, 1) := by decide +kernel
theorem dX5_made_35 : decode cX5_made 35 = .ok (.i2l, 1) := by decide +kernel
theorem dX5_made_36 : decode cX5_made 36 = .ok (.iload_n 2, 1) := by decide +kernel
theorem dX5_made_37 : decode cX5_made 37 = .ok (.i2l, 1) := by decide +kernel
theorem dX5_made_38 : decode cX5_made 38 = .ok (.lmul, 1) := by decide +kernel
theorem dX5_made_39 : decode cX5_made 39 = .ok (.goto 57, 3) := by decide +kernel
theorem dX5_made_42 : decode cX5_made 42 = .ok (.iload_n 0, 1) := by decide +kernel
theorem dX5_made_43 : decode cX5_made 43 = .ok (.bipush 14, 2) := by decide +kernel
theorem dX5_made_45 : decode cX5_made 45 = .ok (.if_icmp .ne 18, 3) := by decide +kernel
theorem dX5_made_48 : decode cX5_made 48 = .ok (.iload_n 2, 1) := by decide +kernel
theorem dX5_made_49 : decode cX5_made 49 = .ok (.ifCond .ne 7, 3) := by decide +kernel
theorem dX5_made_52 : decode cX5_made 52 = .ok (.lconst 0, 1) := by decide +kernel
theorem dX5_made_53 : decode cX5_made 53 = .ok (.goto 43, 3) := by decide +kernel
theorem dX5_made_56 : decode cX5_made 56 = .ok (.iload_n 1, 1) := by decide +kernel
theorem dX5_made_57 : decode cX5_made 57 = .ok (.iload_n 2, 1) := by decide +kernel
theorem dX5_made_58 : decode cX5_made 58 = .ok (.idiv, 1) := by decide +kernel
theorem dX5_made_59 : decode cX5_made 59 = .ok (.i2l, 1) := by decide +kernel
theorem dX5_made_60 : decode cX5_made 60 = .ok (.goto 36, 3) := by decide +kernel
theorem dX5_made_63 : decode cX5_made 63 = .ok (.iload_n 0, 1) := by decide +kernel
theorem dX5_made_64 : decode cX5_made 64 = .ok (.bipush 15, 2) := by decide +kernel
theorem dX5_made_66 : decode cX5_made 66 = .ok (.if_icmp .ne 18, 3) := by decide +kernel
theorem dX5_made_69 : decode cX5_made 69 = .ok (.iload_n 1, 1) := by decide +kernel
theorem dX5_made_70 : decode cX5_made 70 = .ok (.iload_n 2, 1) := by decide +kernel
theorem dX5_made_71 : decode cX5_made 71 = .ok (.if_icmp .ge 8, 3) := by decide +kernel
theorem dX5_made_74 : decode cX5_made 74 = .ok (.iload_n 1, 1) := by decide +kernel
theorem dX5_made_75 : decode cX5_made 75 = .ok (.i2l, 1) := by decide +kernel
theorem dX5_made_76 : decode cX5_made 76 = .ok (.goto 20, 3) := by decide +kernel
theorem dX5_made_79 : decode cX5_made 79 = .ok (.iload_n 2, 1) := by decide +kernel
theorem dX5_made_80 : decode cX5_made 80 = .ok (.i2l, 1) := by decide +kernel
theorem dX5_made_81 : decode cX5_made 81 = .ok (.goto 15, 3) := by decide +kernel
theorem dX5_made_84 : decode cX5_made 84 = .ok (.iload_n 1, 1) := by decide +kernel
theorem dX5_made_85 : decode cX5_made 85 = .ok (.iload_n 2, 1) := by decide +kernel
theorem dX5_made_86 : decode cX5_made 86 = .ok (.if_icmp .le 8, 3) := by decide +kernel
theorem dX5_made_89 : decode cX5_made 89 = .ok (.iload_n 1, 1) := by decide +kernel
theorem dX5_made_90 : decode cX5_made 90 = .ok (.i2l, 1) := by decide +kernel
theorem dX5_made_91 : decode cX5_made 91 = .ok (.goto 5, 3) := by decide +kernel
theorem dX5_made_94 : decode cX5_made 94 = .ok (.iload_n 2, 1) := by decide +kernel
theorem dX5_made_95 : decode cX5_made 95 = .ok (.i2l, 1) := by decide +kernel
theorem dX5_made_96 : decode cX5_made 96 = .ok (.lstore_n 3, 1) := by decide +kernel
theorem dX5_made_97 : decode cX5_made 97 = .ok (.lload_n 3, 1) := by decide +kernel
theorem dX5_made_98 : decode cX5_made 98 = .ok (.ldc2_w 52, 3) := by decide +kernel
theorem dX5_made_101 : decode cX5_made 101 = .ok (.lcmp, 1) := by decide +kernel
theorem dX5_made_102 : decode cX5_made 102 = .ok (.ifCond .le 9, 3) := by decide +kernel
theorem dX5_made_105 : decode cX5_made 105 = .ok (.ldc2_w 52, 3) := by decide +kernel
theorem dX5_made_108 : decode cX5_made 108 = .ok (.goto 18, 3) := by decide +kernel
theorem dX5_made_111 : decode cX5_made 111 = .ok (.lload_n 3, 1) := by decide +kernel
theorem dX5_made_112 : decode cX5_made 112 = .ok (.ldc2_w 54, 3) := by decide +kernel
theorem dX5_made_115 : decode cX5_made 115 = .ok (.lcmp, 1) := by decide +kernel
theorem dX5_made_116 : decode cX5_made 116 = .ok (.ifCond .ge 9, 3) := by decide +kernel
theorem dX5_made_119 : decode cX5_made 119 = .ok (.ldc2_w 54, 3) := by decide +kernel
theorem dX5_made_122 : decode cX5_made 122 = .ok (.goto 4, 3) := by decide +kernel
theorem dX5_made_125 : decode cX5_made 125 = .ok (.lload_n 3, 1) := by decide +kernel
theorem dX5_made_126 : decode cX5_made 126 = .ok (.l2i, 1) := by decide +kernel
theorem dX5_made_127 : decode cX5_made 127 = .ok (.ireturn, 1) := by decide +kernel
theorem dX5_runs_0 : decode cX5_runs 0 = .ok (.aload_n 0, 1) := by decide +kernel
theorem dX5_runs_1 : decode cX5_runs 1 = .ok (.iconst 0, 1) := by decide +kernel
theorem dX5_runs_2 : decode cX5_runs 2 = .ok (.putfield 56, 3) := by decide +kernel
theorem dX5_runs_5 : decode cX5_runs 5 = .ok (.bipush 7, 2) := by decide +kernel
theorem dX5_runs_7 : decode cX5_runs 7 = .ok (.iload_n 1, 1) := by decide +kernel
theorem dX5_runs_8 : decode cX5_runs 8 = .ok (.imul, 1) := by decide +kernel
theorem dX5_runs_9 : decode cX5_runs 9 = .ok (.istore_n 3, 1) := by decide +kernel
theorem dX5_runs_10 : decode cX5_runs 10 = .ok (.iload_n 3, 1) := by decide +kernel
theorem dX5_runs_11 : decode cX5_runs 11 = .ok (.bipush 7, 2) := by decide +kernel
theorem dX5_runs_13 : decode cX5_runs 13 = .ok (.iload_n 1, 1) := by decide +kernel
theorem dX5_runs_14 : decode cX5_runs 14 = .ok (.imul, 1) := by decide +kernel
theorem dX5_runs_15 : decode cX5_runs 15 = .ok (.aload_n 0, 1) := by decide +kernel
theorem dX5_runs_16 : decode cX5_runs 16 = .ok (.getfield 13, 3) := by decide +kernel
theorem dX5_runs_19 : decode cX5_runs 19 = .ok (.iload_n 1, 1) := by decide +kernel
theorem dX5_runs_20 : decode cX5_runs 20 = .ok (.iaload, 1) := by decide +kernel
theorem dX5_runs_21 : decode cX5_runs 21 = .ok (.iadd, 1) := by decide +kernel
theorem dX5_runs_22 : decode cX5_runs 22 = .ok (.if_icmp .ge 123, 3) := by decide +kernel
theorem dX5_runs_25 : decode cX5_runs 25 = .ok (.aload_n 0, 1) := by decide +kernel
theorem dX5_runs_26 : decode cX5_runs 26 = .ok (.getfield 7, 3) := by decide +kernel
theorem dX5_runs_29 : decode cX5_runs 29 = .ok (.iload_n 3, 1) := by decide +kernel
theorem dX5_runs_30 : decode cX5_runs 30 = .ok (.iaload, 1) := by decide +kernel
theorem dX5_runs_31 : decode cX5_runs 31 = .ok (.bipush 10, 2) := by decide +kernel
theorem dX5_runs_33 : decode cX5_runs 33 = .ok (.if_icmp .gt 46, 3) := by decide +kernel
theorem dX5_runs_36 : decode cX5_runs 36 = .ok (.aload_n 0, 1) := by decide +kernel
theorem dX5_runs_37 : decode cX5_runs 37 = .ok (.getfield 32, 3) := by decide +kernel
theorem dX5_runs_40 : decode cX5_runs 40 = .ok (.aload_n 0, 1) := by decide +kernel
theorem dX5_runs_41 : decode cX5_runs 41 = .ok (.getfield 56, 3) := by decide +kernel
theorem dX5_runs_44 : decode cX5_runs 44 = .ok (.aload_n 0, 1) := by decide +kernel
theorem dX5_runs_45 : decode cX5_runs 45 = .ok (.getfield 7, 3) := by decide +kernel
theorem dX5_runs_48 : decode cX5_runs 48 = .ok (.iload_n 3, 1) := by decide +kernel
theorem dX5_runs_49 : decode cX5_runs 49 = .ok (.iaload, 1) := by decide +kernel
theorem dX5_runs_50 : decode cX5_runs 50 = .ok (.bipush 10, 2) := by decide +kernel
theorem dX5_runs_52 : decode cX5_runs 52 = .ok (.if_icmp .ne 7, 3) := by decide +kernel
theorem dX5_runs_55 : decode cX5_runs 55 = .ok (.iload_n 2, 1) := by decide +kernel
theorem dX5_runs_56 : decode cX5_runs 56 = .ok (.goto 9, 3) := by decide +kernel
theorem dX5_runs_59 : decode cX5_runs 59 = .ok (.aload_n 0, 1) := by decide +kernel
theorem dX5_runs_60 : decode cX5_runs 60 = .ok (.getfield 7, 3) := by decide +kernel
theorem dX5_runs_63 : decode cX5_runs 63 = .ok (.iload_n 3, 1) := by decide +kernel
theorem dX5_runs_64 : decode cX5_runs 64 = .ok (.iaload, 1) := by decide +kernel
theorem dX5_runs_65 : decode cX5_runs 65 = .ok (.iastore, 1) := by decide +kernel
theorem dX5_runs_66 : decode cX5_runs 66 = .ok (.aload_n 0, 1) := by decide +kernel
theorem dX5_runs_67 : decode cX5_runs 67 = .ok (.dup, 1) := by decide +kernel
theorem dX5_runs_68 : decode cX5_runs 68 = .ok (.getfield 56, 3) := by decide +kernel
theorem dX5_runs_71 : decode cX5_runs 71 = .ok (.iconst 1, 1) := by decide +kernel
theorem dX5_runs_72 : decode cX5_runs 72 = .ok (.iadd, 1) := by decide +kernel
theorem dX5_runs_73 : decode cX5_runs 73 = .ok (.putfield 56, 3) := by decide +kernel
theorem dX5_runs_76 : decode cX5_runs 76 = .ok (.goto 63, 3) := by decide +kernel
theorem dX5_runs_79 : decode cX5_runs 79 = .ok (.aload_n 0, 1) := by decide +kernel
theorem dX5_runs_80 : decode cX5_runs 80 = .ok (.getfield 56, 3) := by decide +kernel
theorem dX5_runs_83 : decode cX5_runs 83 = .ok (.iconst 2, 1) := by decide +kernel
theorem dX5_runs_84 : decode cX5_runs 84 = .ok (.if_icmp .ge 5, 3) := by decide +kernel
theorem dX5_runs_87 : decode cX5_runs 87 = .ok (.iconst 0, 1) := by decide +kernel
theorem dX5_runs_88 : decode cX5_runs 88 = .ok (.ireturn, 1) := by decide +kernel
theorem dX5_runs_89 : decode cX5_runs 89 = .ok (.aload_n 0, 1) := by decide +kernel
theorem dX5_runs_90 : decode cX5_runs 90 = .ok (.dup, 1) := by decide +kernel
theorem dX5_runs_91 : decode cX5_runs 91 = .ok (.getfield 56, 3) := by decide +kernel
theorem dX5_runs_94 : decode cX5_runs 94 = .ok (.iconst 1, 1) := by decide +kernel
theorem dX5_runs_95 : decode cX5_runs 95 = .ok (.isub, 1) := by decide +kernel
theorem dX5_runs_96 : decode cX5_runs 96 = .ok (.putfield 56, 3) := by decide +kernel
theorem dX5_runs_99 : decode cX5_runs 99 = .ok (.aload_n 0, 1) := by decide +kernel
theorem dX5_runs_100 : decode cX5_runs 100 = .ok (.getfield 32, 3) := by decide +kernel
theorem dX5_runs_103 : decode cX5_runs 103 = .ok (.aload_n 0, 1) := by decide +kernel
theorem dX5_runs_104 : decode cX5_runs 104 = .ok (.getfield 56, 3) := by decide +kernel
theorem dX5_runs_107 : decode cX5_runs 107 = .ok (.iconst 1, 1) := by decide +kernel
theorem dX5_runs_108 : decode cX5_runs 108 = .ok (.isub, 1) := by decide +kernel
theorem dX5_runs_109 : decode cX5_runs 109 = .ok (.aload_n 0, 1) := by decide +kernel
theorem dX5_runs_110 : decode cX5_runs 110 = .ok (.getfield 7, 3) := by decide +kernel
theorem dX5_runs_113 : decode cX5_runs 113 = .ok (.iload_n 3, 1) := by decide +kernel
theorem dX5_runs_114 : decode cX5_runs 114 = .ok (.iaload, 1) := by decide +kernel
theorem dX5_runs_115 : decode cX5_runs 115 = .ok (.aload_n 0, 1) := by decide +kernel
theorem dX5_runs_116 : decode cX5_runs 116 = .ok (.getfield 32, 3) := by decide +kernel
theorem dX5_runs_119 : decode cX5_runs 119 = .ok (.aload_n 0, 1) := by decide +kernel
theorem dX5_runs_120 : decode cX5_runs 120 = .ok (.getfield 56, 3) := by decide +kernel
theorem dX5_runs_123 : decode cX5_runs 123 = .ok (.iconst 1, 1) := by decide +kernel
theorem dX5_runs_124 : decode cX5_runs 124 = .ok (.isub, 1) := by decide +kernel
theorem dX5_runs_125 : decode cX5_runs 125 = .ok (.iaload, 1) := by decide +kernel
theorem dX5_runs_126 : decode cX5_runs 126 = .ok (.aload_n 0, 1) := by decide +kernel
theorem dX5_runs_127 : decode cX5_runs 127 = .ok (.getfield 32, 3) := by decide +kernel
theorem dX5_runs_130 : decode cX5_runs 130 = .ok (.aload_n 0, 1) := by decide +kernel
theorem dX5_runs_131 : decode cX5_runs 131 = .ok (.getfield 56, 3) := by decide +kernel
theorem dX5_runs_134 : decode cX5_runs 134 = .ok (.iaload, 1) := by decide +kernel
theorem dX5_runs_135 : decode cX5_runs 135 = .ok (.invokestatic 59, 3) := by decide +kernel
theorem dX5_runs_138 : decode cX5_runs 138 = .ok (.iastore, 1) := by decide +kernel
theorem dX5_runs_139 : decode cX5_runs 139 = .ok (.iinc 3 1, 3) := by decide +kernel
theorem dX5_runs_142 : decode cX5_runs 142 = .ok (.goto (-132), 3) := by decide +kernel
theorem dX5_runs_145 : decode cX5_runs 145 = .ok (.aload_n 0, 1) := by decide +kernel
theorem dX5_runs_146 : decode cX5_runs 146 = .ok (.getfield 56, 3) := by decide +kernel
theorem dX5_runs_149 : decode cX5_runs 149 = .ok (.iconst 1, 1) := by decide +kernel
theorem dX5_runs_150 : decode cX5_runs 150 = .ok (.if_icmp .ne 7, 3) := by decide +kernel
theorem dX5_runs_153 : decode cX5_runs 153 = .ok (.iconst 1, 1) := by decide +kernel
theorem dX5_runs_154 : decode cX5_runs 154 = .ok (.goto 4, 3) := by decide +kernel
theorem dX5_runs_157 : decode cX5_runs 157 = .ok (.iconst 0, 1) := by decide +kernel
theorem dX5_runs_158 : decode cX5_runs 158 = .ok (.ireturn, 1) := by decide +kernel
theorem dX5_bidOf_0 : decode cX5_bidOf 0 = .ok (.aload_n 0, 1) := by decide +kernel
theorem dX5_bidOf_1 : decode cX5_bidOf 1 = .ok (.iload_n 1, 1) := by decide +kernel
theorem dX5_bidOf_2 : decode cX5_bidOf 2 = .ok (.iload_n 2, 1) := by decide +kernel
theorem dX5_bidOf_3 : decode cX5_bidOf 3 = .ok (.invokevirtual 63, 3) := by decide +kernel
theorem dX5_bidOf_6 : decode cX5_bidOf 6 = .ok (.pop, 1) := by decide +kernel
theorem dX5_bidOf_7 : decode cX5_bidOf 7 = .ok (.aload_n 0, 1) := by decide +kernel
theorem dX5_bidOf_8 : decode cX5_bidOf 8 = .ok (.getfield 32, 3) := by decide +kernel
theorem dX5_bidOf_11 : decode cX5_bidOf 11 = .ok (.iconst 0, 1) := by decide +kernel
theorem dX5_bidOf_12 : decode cX5_bidOf 12 = .ok (.iaload, 1) := by decide +kernel
theorem dX5_bidOf_13 : decode cX5_bidOf 13 = .ok (.ifCond .ge 7, 3) := by decide +kernel
theorem dX5_bidOf_16 : decode cX5_bidOf 16 = .ok (.iconst 0, 1) := by decide +kernel
theorem dX5_bidOf_17 : decode cX5_bidOf 17 = .ok (.goto 27, 3) := by decide +kernel
theorem dX5_bidOf_20 : decode cX5_bidOf 20 = .ok (.aload_n 0, 1) := by decide +kernel
theorem dX5_bidOf_21 : decode cX5_bidOf 21 = .ok (.getfield 32, 3) := by decide +kernel
theorem dX5_bidOf_24 : decode cX5_bidOf 24 = .ok (.iconst 0, 1) := by decide +kernel
theorem dX5_bidOf_25 : decode cX5_bidOf 25 = .ok (.iaload, 1) := by decide +kernel
theorem dX5_bidOf_26 : decode cX5_bidOf 26 = .ok (.sipush 999, 3) := by decide +kernel
theorem dX5_bidOf_29 : decode cX5_bidOf 29 = .ok (.if_icmp .le 9, 3) := by decide +kernel
theorem dX5_bidOf_32 : decode cX5_bidOf 32 = .ok (.sipush 999, 3) := by decide +kernel
theorem dX5_bidOf_35 : decode cX5_bidOf 35 = .ok (.goto 9, 3) := by decide +kernel
theorem dX5_bidOf_38 : decode cX5_bidOf 38 = .ok (.aload_n 0, 1) := by decide +kernel
theorem dX5_bidOf_39 : decode cX5_bidOf 39 = .ok (.getfield 32, 3) := by decide +kernel
theorem dX5_bidOf_42 : decode cX5_bidOf 42 = .ok (.iconst 0, 1) := by decide +kernel
theorem dX5_bidOf_43 : decode cX5_bidOf 43 = .ok (.iaload, 1) := by decide +kernel
theorem dX5_bidOf_44 : decode cX5_bidOf 44 = .ok (.ireturn, 1) := by decide +kernel
theorem dX5_hasStep_0 : decode cX5_hasStep 0 = .ok (.iconst 0, 1) := by decide +kernel
theorem dX5_hasStep_1 : decode cX5_hasStep 1 = .ok (.istore_n 3, 1) := by decide +kernel
theorem dX5_hasStep_2 : decode cX5_hasStep 2 = .ok (.bipush 7, 2) := by decide +kernel
theorem dX5_hasStep_4 : decode cX5_hasStep 4 = .ok (.iload_n 1, 1) := by decide +kernel
theorem dX5_hasStep_5 : decode cX5_hasStep 5 = .ok (.imul, 1) := by decide +kernel
theorem dX5_hasStep_6 : decode cX5_hasStep 6 = .ok (.istore 4, 2) := by decide +kernel
theorem dX5_hasStep_8 : decode cX5_hasStep 8 = .ok (.iload 4, 2) := by decide +kernel
theorem dX5_hasStep_10 : decode cX5_hasStep 10 = .ok (.bipush 7, 2) := by decide +kernel
theorem dX5_hasStep_12 : decode cX5_hasStep 12 = .ok (.iload_n 1, 1) := by decide +kernel
theorem dX5_hasStep_13 : decode cX5_hasStep 13 = .ok (.imul, 1) := by decide +kernel
theorem dX5_hasStep_14 : decode cX5_hasStep 14 = .ok (.aload_n 0, 1) := by decide +kernel
theorem dX5_hasStep_15 : decode cX5_hasStep 15 = .ok (.getfield 13, 3) := by decide +kernel
theorem dX5_hasStep_18 : decode cX5_hasStep 18 = .ok (.iload_n 1, 1) := by decide +kernel
theorem dX5_hasStep_19 : decode cX5_hasStep 19 = .ok (.iaload, 1) := by decide +kernel
theorem dX5_hasStep_20 : decode cX5_hasStep 20 = .ok (.iadd, 1) := by decide +kernel
theorem dX5_hasStep_21 : decode cX5_hasStep 21 = .ok (.if_icmp .ge 30, 3) := by decide +kernel
theorem dX5_hasStep_24 : decode cX5_hasStep 24 = .ok (.iload_n 3, 1) := by decide +kernel
theorem dX5_hasStep_25 : decode cX5_hasStep 25 = .ok (.ifCond .ne 14, 3) := by decide +kernel
theorem dX5_hasStep_28 : decode cX5_hasStep 28 = .ok (.aload_n 0, 1) := by decide +kernel
theorem dX5_hasStep_29 : decode cX5_hasStep 29 = .ok (.getfield 7, 3) := by decide +kernel
theorem dX5_hasStep_32 : decode cX5_hasStep 32 = .ok (.iload 4, 2) := by decide +kernel
theorem dX5_hasStep_34 : decode cX5_hasStep 34 = .ok (.iaload, 1) := by decide +kernel
theorem dX5_hasStep_35 : decode cX5_hasStep 35 = .ok (.iload_n 2, 1) := by decide +kernel
theorem dX5_hasStep_36 : decode cX5_hasStep 36 = .ok (.if_icmp .ne 7, 3) := by decide +kernel
theorem dX5_hasStep_39 : decode cX5_hasStep 39 = .ok (.iconst 1, 1) := by decide +kernel
theorem dX5_hasStep_40 : decode cX5_hasStep 40 = .ok (.goto 4, 3) := by decide +kernel
theorem dX5_hasStep_43 : decode cX5_hasStep 43 = .ok (.iconst 0, 1) := by decide +kernel
theorem dX5_hasStep_44 : decode cX5_hasStep 44 = .ok (.istore_n 3, 1) := by decide +kernel
theorem dX5_hasStep_45 : decode cX5_hasStep 45 = .ok (.iinc 4 1, 3) := by decide +kernel
theorem dX5_hasStep_48 : decode cX5_hasStep 48 = .ok (.goto (-40), 3) := by decide +kernel
theorem dX5_hasStep_51 : decode cX5_hasStep 51 = .ok (.iload_n 3, 1) := by decide +kernel
theorem dX5_hasStep_52 : decode cX5_hasStep 52 = .ok (.ireturn, 1) := by decide +kernel
theorem dX5_hasForbidden_0 : decode cX5_hasForbidden 0 = .ok (.iconst 0, 1) := by decide +kernel
theorem dX5_hasForbidden_1 : decode cX5_hasForbidden 1 = .ok (.istore_n 2, 1) := by decide +kernel
theorem dX5_hasForbidden_2 : decode cX5_hasForbidden 2 = .ok (.iconst 0, 1) := by decide +kernel
theorem dX5_hasForbidden_3 : decode cX5_hasForbidden 3 = .ok (.istore_n 3, 1) := by decide +kernel
theorem dX5_hasForbidden_4 : decode cX5_hasForbidden 4 = .ok (.iload_n 3, 1) := by decide +kernel
theorem dX5_hasForbidden_5 : decode cX5_hasForbidden 5 = .ok (.bipush 16, 2) := by decide +kernel
theorem dX5_hasForbidden_7 : decode cX5_hasForbidden 7 = .ok (.if_icmp .gt 37, 3) := by decide +kernel
theorem dX5_hasForbidden_10 : decode cX5_hasForbidden 10 = .ok (.iload_n 2, 1) := by decide +kernel
theorem dX5_hasForbidden_11 : decode cX5_hasForbidden 11 = .ok (.ifCond .ne 21, 3) := by decide +kernel
theorem dX5_hasForbidden_14 : decode cX5_hasForbidden 14 = .ok (.aload_n 0, 1) := by decide +kernel
theorem dX5_hasForbidden_15 : decode cX5_hasForbidden 15 = .ok (.getfield 23, 3) := by decide +kernel
theorem dX5_hasForbidden_18 : decode cX5_hasForbidden 18 = .ok (.iload_n 3, 1) := by decide +kernel
theorem dX5_hasForbidden_19 : decode cX5_hasForbidden 19 = .ok (.baload, 1) := by decide +kernel
theorem dX5_hasForbidden_20 : decode cX5_hasForbidden 20 = .ok (.ifCond .eq 16, 3) := by decide +kernel
theorem dX5_hasForbidden_23 : decode cX5_hasForbidden 23 = .ok (.aload_n 0, 1) := by decide +kernel
theorem dX5_hasForbidden_24 : decode cX5_hasForbidden 24 = .ok (.iload_n 1, 1) := by decide +kernel
theorem dX5_hasForbidden_25 : decode cX5_hasForbidden 25 = .ok (.iload_n 3, 1) := by decide +kernel
theorem dX5_hasForbidden_26 : decode cX5_hasForbidden 26 = .ok (.invokevirtual 67, 3) := by decide +kernel
theorem dX5_hasForbidden_29 : decode cX5_hasForbidden 29 = .ok (.ifCond .eq 7, 3) := by decide +kernel
theorem dX5_hasForbidden_32 : decode cX5_hasForbidden 32 = .ok (.iconst 1, 1) := by decide +kernel
theorem dX5_hasForbidden_33 : decode cX5_hasForbidden 33 = .ok (.goto 4, 3) := by decide +kernel
theorem dX5_hasForbidden_36 : decode cX5_hasForbidden 36 = .ok (.iconst 0, 1) := by decide +kernel
theorem dX5_hasForbidden_37 : decode cX5_hasForbidden 37 = .ok (.istore_n 2, 1) := by decide +kernel
theorem dX5_hasForbidden_38 : decode cX5_hasForbidden 38 = .ok (.iinc 3 1, 3) := by decide +kernel
theorem dX5_hasForbidden_41 : decode cX5_hasForbidden 41 = .ok (.goto (-37), 3) := by decide +kernel
theorem dX5_hasForbidden_44 : decode cX5_hasForbidden 44 = .ok (.iload_n 2, 1) := by decide +kernel
theorem dX5_hasForbidden_45 : decode cX5_hasForbidden 45 = .ok (.ireturn, 1) := by decide +kernel
theorem dX5_areSame_0 : decode cX5_areSame 0 = .ok (.aload_n 0, 1) := by decide +kernel
theorem dX5_areSame_1 : decode cX5_areSame 1 = .ok (.getfield 13, 3) := by decide +kernel
theorem dX5_areSame_4 : decode cX5_areSame 4 = .ok (.iload_n 1, 1) := by decide +kernel
theorem dX5_areSame_5 : decode cX5_areSame 5 = .ok (.iaload, 1) := by decide +kernel
theorem dX5_areSame_6 : decode cX5_areSame 6 = .ok (.aload_n 0, 1) := by decide +kernel
theorem dX5_areSame_7 : decode cX5_areSame 7 = .ok (.getfield 13, 3) := by decide +kernel
theorem dX5_areSame_10 : decode cX5_areSame 10 = .ok (.iload_n 2, 1) := by decide +kernel
theorem dX5_areSame_11 : decode cX5_areSame 11 = .ok (.iaload, 1) := by decide +kernel
theorem dX5_areSame_12 : decode cX5_areSame 12 = .ok (.if_icmp .ne 7, 3) := by decide +kernel
theorem dX5_areSame_15 : decode cX5_areSame 15 = .ok (.iconst 1, 1) := by decide +kernel
theorem dX5_areSame_16 : decode cX5_areSame 16 = .ok (.goto 4, 3) := by decide +kernel
theorem dX5_areSame_19 : decode cX5_areSame 19 = .ok (.iconst 0, 1) := by decide +kernel
theorem dX5_areSame_20 : decode cX5_areSame 20 = .ok (.istore_n 3, 1) := by decide +kernel
theorem dX5_areSame_21 : decode cX5_areSame 21 = .ok (.iconst 0, 1) := by decide +kernel
theorem dX5_areSame_22 : decode cX5_areSame 22 = .ok (.istore 4, 2) := by decide +kernel
theorem dX5_areSame_24 : decode cX5_areSame 24 = .ok (.iload 4, 2) := by decide +kernel
theorem dX5_areSame_26 : decode cX5_areSame 26 = .ok (.aload_n 0, 1) := by decide +kernel
theorem dX5_areSame_27 : decode cX5_areSame 27 = .ok (.getfield 13, 3) := by decide +kernel
theorem dX5_areSame_30 : decode cX5_areSame 30 = .ok (.iload_n 1, 1) := by decide +kernel
theorem dX5_areSame_31 : decode cX5_areSame 31 = .ok (.iaload, 1) := by decide +kernel
theorem dX5_areSame_32 : decode cX5_areSame 32 = .ok (.if_icmp .ge 46, 3) := by decide +kernel
theorem dX5_areSame_35 : decode cX5_areSame 35 = .ok (.iload_n 3, 1) := by decide +kernel
theorem dX5_areSame_36 : decode cX5_areSame 36 = .ok (.ifCond .eq 42, 3) := by decide +kernel
theorem dX5_areSame_39 : decode cX5_areSame 39 = .ok (.aload_n 0, 1) := by decide +kernel
theorem dX5_areSame_40 : decode cX5_areSame 40 = .ok (.getfield 7, 3) := by decide +kernel
theorem dX5_areSame_43 : decode cX5_areSame 43 = .ok (.bipush 7, 2) := by decide +kernel
theorem dX5_areSame_45 : decode cX5_areSame 45 = .ok (.iload_n 1, 1) := by decide +kernel
theorem dX5_areSame_46 : decode cX5_areSame 46 = .ok (.imul, 1) := by decide +kernel
theorem dX5_areSame_47 : decode cX5_areSame 47 = .ok (.iload 4, 2) := by decide +kernel
theorem dX5_areSame_49 : decode cX5_areSame 49 = .ok (.iadd, 1) := by decide +kernel
theorem dX5_areSame_50 : decode cX5_areSame 50 = .ok (.iaload, 1) := by decide +kernel
theorem dX5_areSame_51 : decode cX5_areSame 51 = .ok (.aload_n 0, 1) := by decide +kernel
theorem dX5_areSame_52 : decode cX5_areSame 52 = .ok (.getfield 7, 3) := by decide +kernel
theorem dX5_areSame_55 : decode cX5_areSame 55 = .ok (.bipush 7, 2) := by decide +kernel
theorem dX5_areSame_57 : decode cX5_areSame 57 = .ok (.iload_n 2, 1) := by decide +kernel
theorem dX5_areSame_58 : decode cX5_areSame 58 = .ok (.imul, 1) := by decide +kernel
theorem dX5_areSame_59 : decode cX5_areSame 59 = .ok (.iload 4, 2) := by decide +kernel
theorem dX5_areSame_61 : decode cX5_areSame 61 = .ok (.iadd, 1) := by decide +kernel
theorem dX5_areSame_62 : decode cX5_areSame 62 = .ok (.iaload, 1) := by decide +kernel
theorem dX5_areSame_63 : decode cX5_areSame 63 = .ok (.if_icmp .ne 7, 3) := by decide +kernel
theorem dX5_areSame_66 : decode cX5_areSame 66 = .ok (.iconst 1, 1) := by decide +kernel
theorem dX5_areSame_67 : decode cX5_areSame 67 = .ok (.goto 4, 3) := by decide +kernel
theorem dX5_areSame_70 : decode cX5_areSame 70 = .ok (.iconst 0, 1) := by decide +kernel
theorem dX5_areSame_71 : decode cX5_areSame 71 = .ok (.istore_n 3, 1) := by decide +kernel
theorem dX5_areSame_72 : decode cX5_areSame 72 = .ok (.iinc 4 1, 3) := by decide +kernel
theorem dX5_areSame_75 : decode cX5_areSame 75 = .ok (.goto (-51), 3) := by decide +kernel
theorem dX5_areSame_78 : decode cX5_areSame 78 = .ok (.iload_n 3, 1) := by decide +kernel
theorem dX5_areSame_79 : decode cX5_areSame 79 = .ok (.ireturn, 1) := by decide +kernel
theorem dX5_found_0 : decode cX5_found 0 = .ok (.iconst (-1), 1) := by decide +kernel
theorem dX5_found_1 : decode cX5_found 1 = .ok (.istore_n 2, 1) := by decide +kernel
theorem dX5_found_2 : decode cX5_found 2 = .ok (.iconst 0, 1) := by decide +kernel
theorem dX5_found_3 : decode cX5_found 3 = .ok (.istore_n 3, 1) := by decide +kernel
theorem dX5_found_4 : decode cX5_found 4 = .ok (.iload_n 3, 1) := by decide +kernel
theorem dX5_found_5 : decode cX5_found 5 = .ok (.aload_n 0, 1) := by decide +kernel
theorem dX5_found_6 : decode cX5_found 6 = .ok (.getfield 45, 3) := by decide +kernel
theorem dX5_found_9 : decode cX5_found 9 = .ok (.if_icmp .ge 24, 3) := by decide +kernel
theorem dX5_found_12 : decode cX5_found 12 = .ok (.aload_n 0, 1) := by decide +kernel
theorem dX5_found_13 : decode cX5_found 13 = .ok (.iload_n 3, 1) := by decide +kernel
theorem dX5_found_14 : decode cX5_found 14 = .ok (.iload_n 1, 1) := by decide +kernel
theorem dX5_found_15 : decode cX5_found 15 = .ok (.invokevirtual 70, 3) := by decide +kernel
theorem dX5_found_18 : decode cX5_found 18 = .ok (.ifCond .eq 7, 3) := by decide +kernel
theorem dX5_found_21 : decode cX5_found 21 = .ok (.iload_n 3, 1) := by decide +kernel
theorem dX5_found_22 : decode cX5_found 22 = .ok (.goto 4, 3) := by decide +kernel
theorem dX5_found_25 : decode cX5_found 25 = .ok (.iload_n 2, 1) := by decide +kernel
theorem dX5_found_26 : decode cX5_found 26 = .ok (.istore_n 2, 1) := by decide +kernel
theorem dX5_found_27 : decode cX5_found 27 = .ok (.iinc 3 1, 3) := by decide +kernel
theorem dX5_found_30 : decode cX5_found 30 = .ok (.goto (-26), 3) := by decide +kernel
theorem dX5_found_33 : decode cX5_found 33 = .ok (.iload_n 2, 1) := by decide +kernel
theorem dX5_found_34 : decode cX5_found 34 = .ok (.ireturn, 1) := by decide +kernel
theorem dX5_step_0 : decode cX5_step 0 = .ok (.aload_n 0, 1) := by decide +kernel
theorem dX5_step_1 : decode cX5_step 1 = .ok (.iload_n 1, 1) := by decide +kernel
theorem dX5_step_2 : decode cX5_step 2 = .ok (.invokestatic 73, 3) := by decide +kernel
theorem dX5_step_5 : decode cX5_step 5 = .ok (.ifCond .ne 7, 3) := by decide +kernel
theorem dX5_step_8 : decode cX5_step 8 = .ok (.iconst 1, 1) := by decide +kernel
theorem dX5_step_9 : decode cX5_step 9 = .ok (.goto 20, 3) := by decide +kernel
theorem dX5_step_12 : decode cX5_step 12 = .ok (.aload_n 0, 1) := by decide +kernel
theorem dX5_step_13 : decode cX5_step 13 = .ok (.getfield 13, 3) := by decide +kernel
theorem dX5_step_16 : decode cX5_step 16 = .ok (.bipush 20, 2) := by decide +kernel
theorem dX5_step_18 : decode cX5_step 18 = .ok (.iaload, 1) := by decide +kernel
theorem dX5_step_19 : decode cX5_step 19 = .ok (.bipush 7, 2) := by decide +kernel
theorem dX5_step_21 : decode cX5_step 21 = .ok (.if_icmp .ne 7, 3) := by decide +kernel
theorem dX5_step_24 : decode cX5_step 24 = .ok (.iconst 2, 1) := by decide +kernel
theorem dX5_step_25 : decode cX5_step 25 = .ok (.goto 4, 3) := by decide +kernel
theorem dX5_step_28 : decode cX5_step 28 = .ok (.iconst 0, 1) := by decide +kernel
theorem dX5_step_29 : decode cX5_step 29 = .ok (.invokevirtual 77, 3) := by decide +kernel
theorem dX5_step_32 : decode cX5_step 32 = .ok (.ifCond .ne 5, 3) := by decide +kernel
theorem dX5_step_35 : decode cX5_step 35 = .ok (.iconst 0, 1) := by decide +kernel
theorem dX5_step_36 : decode cX5_step 36 = .ok (.ireturn, 1) := by decide +kernel
theorem dX5_step_37 : decode cX5_step 37 = .ok (.aload_n 0, 1) := by decide +kernel
theorem dX5_step_38 : decode cX5_step 38 = .ok (.getfield 7, 3) := by decide +kernel
theorem dX5_step_41 : decode cX5_step 41 = .ok (.sipush 140, 3) := by decide +kernel
theorem dX5_step_44 : decode cX5_step 44 = .ok (.aload_n 0, 1) := by decide +kernel
theorem dX5_step_45 : decode cX5_step 45 = .ok (.getfield 13, 3) := by decide +kernel
theorem dX5_step_48 : decode cX5_step 48 = .ok (.bipush 20, 2) := by decide +kernel
theorem dX5_step_50 : decode cX5_step 50 = .ok (.iaload, 1) := by decide +kernel
theorem dX5_step_51 : decode cX5_step 51 = .ok (.iadd, 1) := by decide +kernel
theorem dX5_step_52 : decode cX5_step 52 = .ok (.iload_n 1, 1) := by decide +kernel
theorem dX5_step_53 : decode cX5_step 53 = .ok (.iastore, 1) := by decide +kernel
theorem dX5_step_54 : decode cX5_step 54 = .ok (.aload_n 0, 1) := by decide +kernel
theorem dX5_step_55 : decode cX5_step 55 = .ok (.getfield 13, 3) := by decide +kernel
theorem dX5_step_58 : decode cX5_step 58 = .ok (.bipush 20, 2) := by decide +kernel
theorem dX5_step_60 : decode cX5_step 60 = .ok (.dup2, 1) := by decide +kernel
theorem dX5_step_61 : decode cX5_step 61 = .ok (.iaload, 1) := by decide +kernel
theorem dX5_step_62 : decode cX5_step 62 = .ok (.iconst 1, 1) := by decide +kernel
theorem dX5_step_63 : decode cX5_step 63 = .ok (.iadd, 1) := by decide +kernel
theorem dX5_step_64 : decode cX5_step 64 = .ok (.iastore, 1) := by decide +kernel
theorem dX5_step_65 : decode cX5_step 65 = .ok (.aload_n 0, 1) := by decide +kernel
theorem dX5_step_66 : decode cX5_step 66 = .ok (.getfield 13, 3) := by decide +kernel
theorem dX5_step_69 : decode cX5_step 69 = .ok (.bipush 20, 2) := by decide +kernel
theorem dX5_step_71 : decode cX5_step 71 = .ok (.iaload, 1) := by decide +kernel
theorem dX5_step_72 : decode cX5_step 72 = .ok (.ireturn, 1) := by decide +kernel
theorem dX5_scrap_0 : decode cX5_scrap 0 = .ok (.aload_n 0, 1) := by decide +kernel
theorem dX5_scrap_1 : decode cX5_scrap 1 = .ok (.iconst 0, 1) := by decide +kernel
theorem dX5_scrap_2 : decode cX5_scrap 2 = .ok (.putfield 41, 3) := by decide +kernel
theorem dX5_scrap_5 : decode cX5_scrap 5 = .ok (.aload_n 0, 1) := by decide +kernel
theorem dX5_scrap_6 : decode cX5_scrap 6 = .ok (.getfield 13, 3) := by decide +kernel
theorem dX5_scrap_9 : decode cX5_scrap 9 = .ok (.bipush 20, 2) := by decide +kernel
theorem dX5_scrap_11 : decode cX5_scrap 11 = .ok (.iaload, 1) := by decide +kernel
theorem dX5_scrap_12 : decode cX5_scrap 12 = .ok (.istore_n 1, 1) := by decide +kernel
theorem dX5_scrap_13 : decode cX5_scrap 13 = .ok (.aload_n 0, 1) := by decide +kernel
theorem dX5_scrap_14 : decode cX5_scrap 14 = .ok (.getfield 13, 3) := by decide +kernel
theorem dX5_scrap_17 : decode cX5_scrap 17 = .ok (.bipush 20, 2) := by decide +kernel
theorem dX5_scrap_19 : decode cX5_scrap 19 = .ok (.iconst 0, 1) := by decide +kernel
theorem dX5_scrap_20 : decode cX5_scrap 20 = .ok (.iastore, 1) := by decide +kernel
theorem dX5_scrap_21 : decode cX5_scrap 21 = .ok (.iload_n 1, 1) := by decide +kernel
theorem dX5_scrap_22 : decode cX5_scrap 22 = .ok (.ireturn, 1) := by decide +kernel
theorem dX5_keeps_0 : decode cX5_keeps 0 = .ok (.aload_n 0, 1) := by decide +kernel
theorem dX5_keeps_1 : decode cX5_keeps 1 = .ok (.getfield 13, 3) := by decide +kernel
theorem dX5_keeps_4 : decode cX5_keeps 4 = .ok (.aload_n 0, 1) := by decide +kernel
theorem dX5_keeps_5 : decode cX5_keeps 5 = .ok (.getfield 45, 3) := by decide +kernel
theorem dX5_keeps_8 : decode cX5_keeps 8 = .ok (.aload_n 0, 1) := by decide +kernel
theorem dX5_keeps_9 : decode cX5_keeps 9 = .ok (.getfield 13, 3) := by decide +kernel
theorem dX5_keeps_12 : decode cX5_keeps 12 = .ok (.iload_n 1, 1) := by decide +kernel
theorem dX5_keeps_13 : decode cX5_keeps 13 = .ok (.iaload, 1) := by decide +kernel
theorem dX5_keeps_14 : decode cX5_keeps 14 = .ok (.iastore, 1) := by decide +kernel
theorem dX5_keeps_15 : decode cX5_keeps 15 = .ok (.iconst 0, 1) := by decide +kernel
theorem dX5_keeps_16 : decode cX5_keeps 16 = .ok (.istore 4, 2) := by decide +kernel
theorem dX5_keeps_18 : decode cX5_keeps 18 = .ok (.iload 4, 2) := by decide +kernel
theorem dX5_keeps_20 : decode cX5_keeps 20 = .ok (.aload_n 0, 1) := by decide +kernel
theorem dX5_keeps_21 : decode cX5_keeps 21 = .ok (.getfield 13, 3) := by decide +kernel
theorem dX5_keeps_24 : decode cX5_keeps 24 = .ok (.iload_n 1, 1) := by decide +kernel
theorem dX5_keeps_25 : decode cX5_keeps 25 = .ok (.iaload, 1) := by decide +kernel
theorem dX5_keeps_26 : decode cX5_keeps 26 = .ok (.if_icmp .ge 36, 3) := by decide +kernel
theorem dX5_keeps_29 : decode cX5_keeps 29 = .ok (.aload_n 0, 1) := by decide +kernel
theorem dX5_keeps_30 : decode cX5_keeps 30 = .ok (.getfield 7, 3) := by decide +kernel
theorem dX5_keeps_33 : decode cX5_keeps 33 = .ok (.bipush 7, 2) := by decide +kernel
theorem dX5_keeps_35 : decode cX5_keeps 35 = .ok (.aload_n 0, 1) := by decide +kernel
theorem dX5_keeps_36 : decode cX5_keeps 36 = .ok (.getfield 45, 3) := by decide +kernel
theorem dX5_keeps_39 : decode cX5_keeps 39 = .ok (.imul, 1) := by decide +kernel
theorem dX5_keeps_40 : decode cX5_keeps 40 = .ok (.iload 4, 2) := by decide +kernel
theorem dX5_keeps_42 : decode cX5_keeps 42 = .ok (.iadd, 1) := by decide +kernel
theorem dX5_keeps_43 : decode cX5_keeps 43 = .ok (.aload_n 0, 1) := by decide +kernel
theorem dX5_keeps_44 : decode cX5_keeps 44 = .ok (.getfield 7, 3) := by decide +kernel
theorem dX5_keeps_47 : decode cX5_keeps 47 = .ok (.bipush 7, 2) := by decide +kernel
theorem dX5_keeps_49 : decode cX5_keeps 49 = .ok (.iload_n 1, 1) := by decide +kernel
theorem dX5_keeps_50 : decode cX5_keeps 50 = .ok (.imul, 1) := by decide +kernel
theorem dX5_keeps_51 : decode cX5_keeps 51 = .ok (.iload 4, 2) := by decide +kernel
theorem dX5_keeps_53 : decode cX5_keeps 53 = .ok (.iadd, 1) := by decide +kernel
theorem dX5_keeps_54 : decode cX5_keeps 54 = .ok (.iaload, 1) := by decide +kernel
theorem dX5_keeps_55 : decode cX5_keeps 55 = .ok (.iastore, 1) := by decide +kernel
theorem dX5_keeps_56 : decode cX5_keeps 56 = .ok (.iinc 4 1, 3) := by decide +kernel
theorem dX5_keeps_59 : decode cX5_keeps 59 = .ok (.goto (-41), 3) := by decide +kernel
theorem dX5_keeps_62 : decode cX5_keeps 62 = .ok (.aload_n 0, 1) := by decide +kernel
theorem dX5_keeps_63 : decode cX5_keeps 63 = .ok (.getfield 16, 3) := by decide +kernel
theorem dX5_keeps_66 : decode cX5_keeps 66 = .ok (.iconst 2, 1) := by decide +kernel
theorem dX5_keeps_67 : decode cX5_keeps 67 = .ok (.aload_n 0, 1) := by decide +kernel
theorem dX5_keeps_68 : decode cX5_keeps 68 = .ok (.getfield 45, 3) := by decide +kernel
theorem dX5_keeps_71 : decode cX5_keeps 71 = .ok (.imul, 1) := by decide +kernel
theorem dX5_keeps_72 : decode cX5_keeps 72 = .ok (.iload_n 2, 1) := by decide +kernel
theorem dX5_keeps_73 : decode cX5_keeps 73 = .ok (.iastore, 1) := by decide +kernel
theorem dX5_keeps_74 : decode cX5_keeps 74 = .ok (.aload_n 0, 1) := by decide +kernel
theorem dX5_keeps_75 : decode cX5_keeps 75 = .ok (.getfield 16, 3) := by decide +kernel
theorem dX5_keeps_78 : decode cX5_keeps 78 = .ok (.iconst 2, 1) := by decide +kernel
theorem dX5_keeps_79 : decode cX5_keeps 79 = .ok (.aload_n 0, 1) := by decide +kernel
theorem dX5_keeps_80 : decode cX5_keeps 80 = .ok (.getfield 45, 3) := by decide +kernel
theorem dX5_keeps_83 : decode cX5_keeps 83 = .ok (.imul, 1) := by decide +kernel
theorem dX5_keeps_84 : decode cX5_keeps 84 = .ok (.iconst 1, 1) := by decide +kernel
theorem dX5_keeps_85 : decode cX5_keeps 85 = .ok (.iadd, 1) := by decide +kernel
theorem dX5_keeps_86 : decode cX5_keeps 86 = .ok (.iload_n 3, 1) := by decide +kernel
theorem dX5_keeps_87 : decode cX5_keeps 87 = .ok (.iastore, 1) := by decide +kernel
theorem dX5_keeps_88 : decode cX5_keeps 88 = .ok (.aload_n 0, 1) := by decide +kernel
theorem dX5_keeps_89 : decode cX5_keeps 89 = .ok (.dup, 1) := by decide +kernel
theorem dX5_keeps_90 : decode cX5_keeps 90 = .ok (.getfield 45, 3) := by decide +kernel
theorem dX5_keeps_93 : decode cX5_keeps 93 = .ok (.iconst 1, 1) := by decide +kernel
theorem dX5_keeps_94 : decode cX5_keeps 94 = .ok (.iadd, 1) := by decide +kernel
theorem dX5_keeps_95 : decode cX5_keeps 95 = .ok (.putfield 45, 3) := by decide +kernel
theorem dX5_keeps_98 : decode cX5_keeps 98 = .ok (.return_, 1) := by decide +kernel
theorem dX5_store_0 : decode cX5_store 0 = .ok (.aload_n 0, 1) := by decide +kernel
theorem dX5_store_1 : decode cX5_store 1 = .ok (.bipush 20, 2) := by decide +kernel
theorem dX5_store_3 : decode cX5_store 3 = .ok (.invokevirtual 80, 3) := by decide +kernel
theorem dX5_store_6 : decode cX5_store 6 = .ok (.istore_n 1, 1) := by decide +kernel
theorem dX5_store_7 : decode cX5_store 7 = .ok (.aload_n 0, 1) := by decide +kernel
theorem dX5_store_8 : decode cX5_store 8 = .ok (.aload_n 0, 1) := by decide +kernel
theorem dX5_store_9 : decode cX5_store 9 = .ok (.bipush 20, 2) := by decide +kernel
theorem dX5_store_11 : decode cX5_store 11 = .ok (.iconst 0, 1) := by decide +kernel
theorem dX5_store_12 : decode cX5_store 12 = .ok (.invokevirtual 63, 3) := by decide +kernel
theorem dX5_store_15 : decode cX5_store 15 = .ok (.ifCond .eq 17, 3) := by decide +kernel
theorem dX5_store_18 : decode cX5_store 18 = .ok (.iload_n 1, 1) := by decide +kernel
theorem dX5_store_19 : decode cX5_store 19 = .ok (.iconst (-1), 1) := by decide +kernel
theorem dX5_store_20 : decode cX5_store 20 = .ok (.if_icmp .ne 16, 3) := by decide +kernel
theorem dX5_store_23 : decode cX5_store 23 = .ok (.aload_n 0, 1) := by decide +kernel
theorem dX5_store_24 : decode cX5_store 24 = .ok (.getfield 45, 3) := by decide +kernel
theorem dX5_store_27 : decode cX5_store 27 = .ok (.bipush 20, 2) := by decide +kernel
theorem dX5_store_29 : decode cX5_store 29 = .ok (.if_icmp .ne 7, 3) := by decide +kernel
theorem dX5_store_32 : decode cX5_store 32 = .ok (.iconst 1, 1) := by decide +kernel
theorem dX5_store_33 : decode cX5_store 33 = .ok (.goto 4, 3) := by decide +kernel
theorem dX5_store_36 : decode cX5_store 36 = .ok (.iconst 0, 1) := by decide +kernel
theorem dX5_store_37 : decode cX5_store 37 = .ok (.invokevirtual 77, 3) := by decide +kernel
theorem dX5_store_40 : decode cX5_store 40 = .ok (.ifCond .ne 5, 3) := by decide +kernel
theorem dX5_store_43 : decode cX5_store 43 = .ok (.iconst 0, 1) := by decide +kernel
theorem dX5_store_44 : decode cX5_store 44 = .ok (.ireturn, 1) := by decide +kernel
theorem dX5_store_45 : decode cX5_store 45 = .ok (.iload_n 1, 1) := by decide +kernel
theorem dX5_store_46 : decode cX5_store 46 = .ok (.iconst (-1), 1) := by decide +kernel
theorem dX5_store_47 : decode cX5_store 47 = .ok (.if_icmp .ne 16, 3) := by decide +kernel
theorem dX5_store_50 : decode cX5_store 50 = .ok (.aload_n 0, 1) := by decide +kernel
theorem dX5_store_51 : decode cX5_store 51 = .ok (.getfield 45, 3) := by decide +kernel
theorem dX5_store_54 : decode cX5_store 54 = .ok (.istore_n 1, 1) := by decide +kernel
theorem dX5_store_55 : decode cX5_store 55 = .ok (.aload_n 0, 1) := by decide +kernel
theorem dX5_store_56 : decode cX5_store 56 = .ok (.bipush 20, 2) := by decide +kernel
theorem dX5_store_58 : decode cX5_store 58 = .ok (.iconst (-1), 1) := by decide +kernel
theorem dX5_store_59 : decode cX5_store 59 = .ok (.iconst (-1), 1) := by decide +kernel
theorem dX5_store_60 : decode cX5_store 60 = .ok (.invokevirtual 84, 3) := by decide +kernel
theorem dX5_store_63 : decode cX5_store 63 = .ok (.aload_n 0, 1) := by decide +kernel
theorem dX5_store_64 : decode cX5_store 64 = .ok (.getfield 13, 3) := by decide +kernel
theorem dX5_store_67 : decode cX5_store 67 = .ok (.bipush 20, 2) := by decide +kernel
theorem dX5_store_69 : decode cX5_store 69 = .ok (.iconst 0, 1) := by decide +kernel
theorem dX5_store_70 : decode cX5_store 70 = .ok (.iastore, 1) := by decide +kernel
theorem dX5_store_71 : decode cX5_store 71 = .ok (.iload_n 1, 1) := by decide +kernel
theorem dX5_store_72 : decode cX5_store 72 = .ok (.ireturn, 1) := by decide +kernel
theorem dX5_stored_0 : decode cX5_stored 0 = .ok (.aload_n 0, 1) := by decide +kernel
theorem dX5_stored_1 : decode cX5_stored 1 = .ok (.iconst 0, 1) := by decide +kernel
theorem dX5_stored_2 : decode cX5_stored 2 = .ok (.putfield 41, 3) := by decide +kernel
theorem dX5_stored_5 : decode cX5_stored 5 = .ok (.aload_n 0, 1) := by decide +kernel
theorem dX5_stored_6 : decode cX5_stored 6 = .ok (.getfield 45, 3) := by decide +kernel
theorem dX5_stored_9 : decode cX5_stored 9 = .ok (.ireturn, 1) := by decide +kernel
theorem dX5_bid_0 : decode cX5_bid 0 = .ok (.aload_n 0, 1) := by decide +kernel
theorem dX5_bid_1 : decode cX5_bid 1 = .ok (.aload_n 0, 1) := by decide +kernel
theorem dX5_bid_2 : decode cX5_bid 2 = .ok (.iload_n 1, 1) := by decide +kernel
theorem dX5_bid_3 : decode cX5_bid 3 = .ok (.invokevirtual 88, 3) := by decide +kernel
theorem dX5_bid_6 : decode cX5_bid 6 = .ok (.ifCond .ne 7, 3) := by decide +kernel
theorem dX5_bid_9 : decode cX5_bid 9 = .ok (.iconst 1, 1) := by decide +kernel
theorem dX5_bid_10 : decode cX5_bid 10 = .ok (.goto 15, 3) := by decide +kernel
theorem dX5_bid_13 : decode cX5_bid 13 = .ok (.iload_n 2, 1) := by decide +kernel
theorem dX5_bid_14 : decode cX5_bid 14 = .ok (.invokestatic 91, 3) := by decide +kernel
theorem dX5_bid_17 : decode cX5_bid 17 = .ok (.ifCond .eq 7, 3) := by decide +kernel
theorem dX5_bid_20 : decode cX5_bid 20 = .ok (.iconst 0, 1) := by decide +kernel
theorem dX5_bid_21 : decode cX5_bid 21 = .ok (.goto 4, 3) := by decide +kernel
theorem dX5_bid_24 : decode cX5_bid 24 = .ok (.iconst 2, 1) := by decide +kernel
theorem dX5_bid_25 : decode cX5_bid 25 = .ok (.invokevirtual 77, 3) := by decide +kernel
theorem dX5_bid_28 : decode cX5_bid 28 = .ok (.ifCond .eq 12, 3) := by decide +kernel
theorem dX5_bid_31 : decode cX5_bid 31 = .ok (.aload_n 0, 1) := by decide +kernel
theorem dX5_bid_32 : decode cX5_bid 32 = .ok (.iload_n 1, 1) := by decide +kernel
theorem dX5_bid_33 : decode cX5_bid 33 = .ok (.iload_n 2, 1) := by decide +kernel
theorem dX5_bid_34 : decode cX5_bid 34 = .ok (.invokevirtual 94, 3) := by decide +kernel
theorem dX5_bid_37 : decode cX5_bid 37 = .ok (.goto 4, 3) := by decide +kernel
theorem dX5_bid_40 : decode cX5_bid 40 = .ok (.iconst 0, 1) := by decide +kernel
theorem dX5_bid_41 : decode cX5_bid 41 = .ok (.ireturn, 1) := by decide +kernel
theorem dX5_alike_0 : decode cX5_alike 0 = .ok (.aload_n 0, 1) := by decide +kernel
theorem dX5_alike_1 : decode cX5_alike 1 = .ok (.aload_n 0, 1) := by decide +kernel
theorem dX5_alike_2 : decode cX5_alike 2 = .ok (.iload_n 1, 1) := by decide +kernel
theorem dX5_alike_3 : decode cX5_alike 3 = .ok (.invokevirtual 88, 3) := by decide +kernel
theorem dX5_alike_6 : decode cX5_alike 6 = .ok (.ifCond .eq 7, 3) := by decide +kernel
theorem dX5_alike_9 : decode cX5_alike 9 = .ok (.iconst 0, 1) := by decide +kernel
theorem dX5_alike_10 : decode cX5_alike 10 = .ok (.goto 4, 3) := by decide +kernel
theorem dX5_alike_13 : decode cX5_alike 13 = .ok (.iconst 1, 1) := by decide +kernel
theorem dX5_alike_14 : decode cX5_alike 14 = .ok (.invokevirtual 77, 3) := by decide +kernel
theorem dX5_alike_17 : decode cX5_alike 17 = .ok (.ifCond .ne 5, 3) := by decide +kernel
theorem dX5_alike_20 : decode cX5_alike 20 = .ok (.iconst 0, 1) := by decide +kernel
theorem dX5_alike_21 : decode cX5_alike 21 = .ok (.ireturn, 1) := by decide +kernel
theorem dX5_alike_22 : decode cX5_alike 22 = .ok (.iconst 0, 1) := by decide +kernel
theorem dX5_alike_23 : decode cX5_alike 23 = .ok (.istore_n 2, 1) := by decide +kernel
theorem dX5_alike_24 : decode cX5_alike 24 = .ok (.iconst 0, 1) := by decide +kernel
theorem dX5_alike_25 : decode cX5_alike 25 = .ok (.istore_n 3, 1) := by decide +kernel
theorem dX5_alike_26 : decode cX5_alike 26 = .ok (.iload_n 3, 1) := by decide +kernel
theorem dX5_alike_27 : decode cX5_alike 27 = .ok (.aload_n 0, 1) := by decide +kernel
theorem dX5_alike_28 : decode cX5_alike 28 = .ok (.getfield 45, 3) := by decide +kernel
theorem dX5_alike_31 : decode cX5_alike 31 = .ok (.if_icmp .ge 70, 3) := by decide +kernel
theorem dX5_alike_34 : decode cX5_alike 34 = .ok (.iconst 1, 1) := by decide +kernel
theorem dX5_alike_35 : decode cX5_alike 35 = .ok (.istore 4, 2) := by decide +kernel
theorem dX5_alike_37 : decode cX5_alike 37 = .ok (.iconst 0, 1) := by decide +kernel
theorem dX5_alike_38 : decode cX5_alike 38 = .ok (.istore 5, 2) := by decide +kernel
theorem dX5_alike_40 : decode cX5_alike 40 = .ok (.iload 5, 2) := by decide +kernel
theorem dX5_alike_42 : decode cX5_alike 42 = .ok (.bipush 100, 2) := by decide +kernel
theorem dX5_alike_44 : decode cX5_alike 44 = .ok (.if_icmp .ge 38, 3) := by decide +kernel
theorem dX5_alike_47 : decode cX5_alike 47 = .ok (.iload 4, 2) := by decide +kernel
theorem dX5_alike_49 : decode cX5_alike 49 = .ok (.ifCond .eq 33, 3) := by decide +kernel
theorem dX5_alike_52 : decode cX5_alike 52 = .ok (.aload_n 0, 1) := by decide +kernel
theorem dX5_alike_53 : decode cX5_alike 53 = .ok (.iload_n 3, 1) := by decide +kernel
theorem dX5_alike_54 : decode cX5_alike 54 = .ok (.iload 5, 2) := by decide +kernel
theorem dX5_alike_56 : decode cX5_alike 56 = .ok (.invokevirtual 94, 3) := by decide +kernel
theorem dX5_alike_59 : decode cX5_alike 59 = .ok (.aload_n 0, 1) := by decide +kernel
theorem dX5_alike_60 : decode cX5_alike 60 = .ok (.iload_n 1, 1) := by decide +kernel
theorem dX5_alike_61 : decode cX5_alike 61 = .ok (.iload 5, 2) := by decide +kernel
theorem dX5_alike_63 : decode cX5_alike 63 = .ok (.invokevirtual 94, 3) := by decide +kernel
theorem dX5_alike_66 : decode cX5_alike 66 = .ok (.if_icmp .ne 7, 3) := by decide +kernel
theorem dX5_alike_69 : decode cX5_alike 69 = .ok (.iconst 1, 1) := by decide +kernel
theorem dX5_alike_70 : decode cX5_alike 70 = .ok (.goto 4, 3) := by decide +kernel
theorem dX5_alike_73 : decode cX5_alike 73 = .ok (.iconst 0, 1) := by decide +kernel
theorem dX5_alike_74 : decode cX5_alike 74 = .ok (.istore 4, 2) := by decide +kernel
theorem dX5_alike_76 : decode cX5_alike 76 = .ok (.iinc 5 1, 3) := by decide +kernel
theorem dX5_alike_79 : decode cX5_alike 79 = .ok (.goto (-39), 3) := by decide +kernel
theorem dX5_alike_82 : decode cX5_alike 82 = .ok (.iload_n 2, 1) := by decide +kernel
theorem dX5_alike_83 : decode cX5_alike 83 = .ok (.iload 4, 2) := by decide +kernel
theorem dX5_alike_85 : decode cX5_alike 85 = .ok (.ifCond .eq 7, 3) := by decide +kernel
theorem dX5_alike_88 : decode cX5_alike 88 = .ok (.iconst 1, 1) := by decide +kernel
theorem dX5_alike_89 : decode cX5_alike 89 = .ok (.goto 4, 3) := by decide +kernel
theorem dX5_alike_92 : decode cX5_alike 92 = .ok (.iconst 0, 1) := by decide +kernel
theorem dX5_alike_93 : decode cX5_alike 93 = .ok (.iadd, 1) := by decide +kernel
theorem dX5_alike_94 : decode cX5_alike 94 = .ok (.istore_n 2, 1) := by decide +kernel
theorem dX5_alike_95 : decode cX5_alike 95 = .ok (.iinc 3 1, 3) := by decide +kernel
theorem dX5_alike_98 : decode cX5_alike 98 = .ok (.goto (-72), 3) := by decide +kernel
theorem dX5_alike_101 : decode cX5_alike 101 = .ok (.iload_n 2, 1) := by decide +kernel
theorem dX5_alike_102 : decode cX5_alike 102 = .ok (.ireturn, 1) := by decide +kernel
theorem dX5_parent_0 : decode cX5_parent 0 = .ok (.aload_n 0, 1) := by decide +kernel
theorem dX5_parent_1 : decode cX5_parent 1 = .ok (.aload_n 0, 1) := by decide +kernel
theorem dX5_parent_2 : decode cX5_parent 2 = .ok (.iload_n 1, 1) := by decide +kernel
theorem dX5_parent_3 : decode cX5_parent 3 = .ok (.invokevirtual 88, 3) := by decide +kernel
theorem dX5_parent_6 : decode cX5_parent 6 = .ok (.ifCond .eq 7, 3) := by decide +kernel
theorem dX5_parent_9 : decode cX5_parent 9 = .ok (.iconst 0, 1) := by decide +kernel
theorem dX5_parent_10 : decode cX5_parent 10 = .ok (.goto 4, 3) := by decide +kernel
theorem dX5_parent_13 : decode cX5_parent 13 = .ok (.iconst 1, 1) := by decide +kernel
theorem dX5_parent_14 : decode cX5_parent 14 = .ok (.invokevirtual 77, 3) := by decide +kernel
theorem dX5_parent_17 : decode cX5_parent 17 = .ok (.ifCond .eq 24, 3) := by decide +kernel
theorem dX5_parent_20 : decode cX5_parent 20 = .ok (.aload_n 0, 1) := by decide +kernel
theorem dX5_parent_21 : decode cX5_parent 21 = .ok (.getfield 16, 3) := by decide +kernel
theorem dX5_parent_24 : decode cX5_parent 24 = .ok (.iconst 2, 1) := by decide +kernel
theorem dX5_parent_25 : decode cX5_parent 25 = .ok (.iload_n 1, 1) := by decide +kernel
theorem dX5_parent_26 : decode cX5_parent 26 = .ok (.imul, 1) := by decide +kernel
theorem dX5_parent_27 : decode cX5_parent 27 = .ok (.iload_n 2, 1) := by decide +kernel
theorem dX5_parent_28 : decode cX5_parent 28 = .ok (.ifCond .eq 7, 3) := by decide +kernel
theorem dX5_parent_31 : decode cX5_parent 31 = .ok (.iconst 0, 1) := by decide +kernel
theorem dX5_parent_32 : decode cX5_parent 32 = .ok (.goto 4, 3) := by decide +kernel
theorem dX5_parent_35 : decode cX5_parent 35 = .ok (.iconst 1, 1) := by decide +kernel
theorem dX5_parent_36 : decode cX5_parent 36 = .ok (.iadd, 1) := by decide +kernel
theorem dX5_parent_37 : decode cX5_parent 37 = .ok (.iaload, 1) := by decide +kernel
theorem dX5_parent_38 : decode cX5_parent 38 = .ok (.goto 4, 3) := by decide +kernel
theorem dX5_parent_41 : decode cX5_parent 41 = .ok (.iconst 0, 1) := by decide +kernel
theorem dX5_parent_42 : decode cX5_parent 42 = .ok (.ireturn, 1) := by decide +kernel
theorem dX5_pooled_0 : decode cX5_pooled 0 = .ok (.iconst 0, 1) := by decide +kernel
theorem dX5_pooled_1 : decode cX5_pooled 1 = .ok (.istore_n 1, 1) := by decide +kernel
theorem dX5_pooled_2 : decode cX5_pooled 2 = .ok (.iconst 0, 1) := by decide +kernel
theorem dX5_pooled_3 : decode cX5_pooled 3 = .ok (.istore_n 2, 1) := by decide +kernel
theorem dX5_pooled_4 : decode cX5_pooled 4 = .ok (.iload_n 2, 1) := by decide +kernel
theorem dX5_pooled_5 : decode cX5_pooled 5 = .ok (.aload_n 0, 1) := by decide +kernel
theorem dX5_pooled_6 : decode cX5_pooled 6 = .ok (.getfield 45, 3) := by decide +kernel
theorem dX5_pooled_9 : decode cX5_pooled 9 = .ok (.if_icmp .ge 26, 3) := by decide +kernel
theorem dX5_pooled_12 : decode cX5_pooled 12 = .ok (.iload_n 1, 1) := by decide +kernel
theorem dX5_pooled_13 : decode cX5_pooled 13 = .ok (.aload_n 0, 1) := by decide +kernel
theorem dX5_pooled_14 : decode cX5_pooled 14 = .ok (.getfield 19, 3) := by decide +kernel
theorem dX5_pooled_17 : decode cX5_pooled 17 = .ok (.iload_n 2, 1) := by decide +kernel
theorem dX5_pooled_18 : decode cX5_pooled 18 = .ok (.baload, 1) := by decide +kernel
theorem dX5_pooled_19 : decode cX5_pooled 19 = .ok (.ifCond .eq 7, 3) := by decide +kernel
theorem dX5_pooled_22 : decode cX5_pooled 22 = .ok (.iconst 1, 1) := by decide +kernel
theorem dX5_pooled_23 : decode cX5_pooled 23 = .ok (.goto 4, 3) := by decide +kernel
theorem dX5_pooled_26 : decode cX5_pooled 26 = .ok (.iconst 0, 1) := by decide +kernel
theorem dX5_pooled_27 : decode cX5_pooled 27 = .ok (.iadd, 1) := by decide +kernel
theorem dX5_pooled_28 : decode cX5_pooled 28 = .ok (.istore_n 1, 1) := by decide +kernel
theorem dX5_pooled_29 : decode cX5_pooled 29 = .ok (.iinc 2 1, 3) := by decide +kernel
theorem dX5_pooled_32 : decode cX5_pooled 32 = .ok (.goto (-28), 3) := by decide +kernel
theorem dX5_pooled_35 : decode cX5_pooled 35 = .ok (.iload_n 1, 1) := by decide +kernel
theorem dX5_pooled_36 : decode cX5_pooled 36 = .ok (.ireturn, 1) := by decide +kernel
theorem dX5_join_0 : decode cX5_join 0 = .ok (.aload_n 0, 1) := by decide +kernel
theorem dX5_join_1 : decode cX5_join 1 = .ok (.aload_n 0, 1) := by decide +kernel
theorem dX5_join_2 : decode cX5_join 2 = .ok (.iload_n 1, 1) := by decide +kernel
theorem dX5_join_3 : decode cX5_join 3 = .ok (.invokevirtual 88, 3) := by decide +kernel
theorem dX5_join_6 : decode cX5_join 6 = .ok (.ifCond .ne 7, 3) := by decide +kernel
theorem dX5_join_9 : decode cX5_join 9 = .ok (.iconst 1, 1) := by decide +kernel
theorem dX5_join_10 : decode cX5_join 10 = .ok (.goto 34, 3) := by decide +kernel
theorem dX5_join_13 : decode cX5_join 13 = .ok (.aload_n 0, 1) := by decide +kernel
theorem dX5_join_14 : decode cX5_join 14 = .ok (.getfield 19, 3) := by decide +kernel
theorem dX5_join_17 : decode cX5_join 17 = .ok (.iload_n 1, 1) := by decide +kernel
theorem dX5_join_18 : decode cX5_join 18 = .ok (.baload, 1) := by decide +kernel
theorem dX5_join_19 : decode cX5_join 19 = .ok (.ifCond .ne 20, 3) := by decide +kernel
theorem dX5_join_22 : decode cX5_join 22 = .ok (.aload_n 0, 1) := by decide +kernel
theorem dX5_join_23 : decode cX5_join 23 = .ok (.iload_n 1, 1) := by decide +kernel
theorem dX5_join_24 : decode cX5_join 24 = .ok (.invokevirtual 98, 3) := by decide +kernel
theorem dX5_join_27 : decode cX5_join 27 = .ok (.ifCond .ne 12, 3) := by decide +kernel
theorem dX5_join_30 : decode cX5_join 30 = .ok (.aload_n 0, 1) := by decide +kernel
theorem dX5_join_31 : decode cX5_join 31 = .ok (.invokevirtual 101, 3) := by decide +kernel
theorem dX5_join_34 : decode cX5_join 34 = .ok (.bipush 8, 2) := by decide +kernel
theorem dX5_join_36 : decode cX5_join 36 = .ok (.if_icmp .ne 7, 3) := by decide +kernel
theorem dX5_join_39 : decode cX5_join 39 = .ok (.iconst 2, 1) := by decide +kernel
theorem dX5_join_40 : decode cX5_join 40 = .ok (.goto 4, 3) := by decide +kernel
theorem dX5_join_43 : decode cX5_join 43 = .ok (.iconst 0, 1) := by decide +kernel
theorem dX5_join_44 : decode cX5_join 44 = .ok (.invokevirtual 77, 3) := by decide +kernel
theorem dX5_join_47 : decode cX5_join 47 = .ok (.ifCond .ne 5, 3) := by decide +kernel
theorem dX5_join_50 : decode cX5_join 50 = .ok (.iconst 0, 1) := by decide +kernel
theorem dX5_join_51 : decode cX5_join 51 = .ok (.ireturn, 1) := by decide +kernel
theorem dX5_join_52 : decode cX5_join 52 = .ok (.aload_n 0, 1) := by decide +kernel
theorem dX5_join_53 : decode cX5_join 53 = .ok (.getfield 19, 3) := by decide +kernel
theorem dX5_join_56 : decode cX5_join 56 = .ok (.iload_n 1, 1) := by decide +kernel
theorem dX5_join_57 : decode cX5_join 57 = .ok (.iconst 1, 1) := by decide +kernel
theorem dX5_join_58 : decode cX5_join 58 = .ok (.bastore, 1) := by decide +kernel
theorem dX5_join_59 : decode cX5_join 59 = .ok (.aload_n 0, 1) := by decide +kernel
theorem dX5_join_60 : decode cX5_join 60 = .ok (.invokevirtual 101, 3) := by decide +kernel
theorem dX5_join_63 : decode cX5_join 63 = .ok (.ireturn, 1) := by decide +kernel
theorem dX5_leave_0 : decode cX5_leave 0 = .ok (.aload_n 0, 1) := by decide +kernel
theorem dX5_leave_1 : decode cX5_leave 1 = .ok (.aload_n 0, 1) := by decide +kernel
theorem dX5_leave_2 : decode cX5_leave 2 = .ok (.iload_n 1, 1) := by decide +kernel
theorem dX5_leave_3 : decode cX5_leave 3 = .ok (.invokevirtual 88, 3) := by decide +kernel
theorem dX5_leave_6 : decode cX5_leave 6 = .ok (.ifCond .ne 7, 3) := by decide +kernel
theorem dX5_leave_9 : decode cX5_leave 9 = .ok (.iconst 1, 1) := by decide +kernel
theorem dX5_leave_10 : decode cX5_leave 10 = .ok (.goto 17, 3) := by decide +kernel
theorem dX5_leave_13 : decode cX5_leave 13 = .ok (.aload_n 0, 1) := by decide +kernel
theorem dX5_leave_14 : decode cX5_leave 14 = .ok (.getfield 19, 3) := by decide +kernel
theorem dX5_leave_17 : decode cX5_leave 17 = .ok (.iload_n 1, 1) := by decide +kernel
theorem dX5_leave_18 : decode cX5_leave 18 = .ok (.baload, 1) := by decide +kernel
theorem dX5_leave_19 : decode cX5_leave 19 = .ok (.ifCond .eq 7, 3) := by decide +kernel
theorem dX5_leave_22 : decode cX5_leave 22 = .ok (.iconst 0, 1) := by decide +kernel
theorem dX5_leave_23 : decode cX5_leave 23 = .ok (.goto 4, 3) := by decide +kernel
theorem dX5_leave_26 : decode cX5_leave 26 = .ok (.iconst 2, 1) := by decide +kernel
theorem dX5_leave_27 : decode cX5_leave 27 = .ok (.invokevirtual 77, 3) := by decide +kernel
theorem dX5_leave_30 : decode cX5_leave 30 = .ok (.ifCond .ne 5, 3) := by decide +kernel
theorem dX5_leave_33 : decode cX5_leave 33 = .ok (.iconst 0, 1) := by decide +kernel
theorem dX5_leave_34 : decode cX5_leave 34 = .ok (.ireturn, 1) := by decide +kernel
theorem dX5_leave_35 : decode cX5_leave 35 = .ok (.aload_n 0, 1) := by decide +kernel
theorem dX5_leave_36 : decode cX5_leave 36 = .ok (.getfield 19, 3) := by decide +kernel
theorem dX5_leave_39 : decode cX5_leave 39 = .ok (.iload_n 1, 1) := by decide +kernel
theorem dX5_leave_40 : decode cX5_leave 40 = .ok (.iconst 0, 1) := by decide +kernel
theorem dX5_leave_41 : decode cX5_leave 41 = .ok (.bastore, 1) := by decide +kernel
theorem dX5_leave_42 : decode cX5_leave 42 = .ok (.aload_n 0, 1) := by decide +kernel
theorem dX5_leave_43 : decode cX5_leave 43 = .ok (.invokevirtual 101, 3) := by decide +kernel
theorem dX5_leave_46 : decode cX5_leave 46 = .ok (.ireturn, 1) := by decide +kernel
theorem dX5_isIn_0 : decode cX5_isIn 0 = .ok (.aload_n 0, 1) := by decide +kernel
theorem dX5_isIn_1 : decode cX5_isIn 1 = .ok (.aload_n 0, 1) := by decide +kernel
theorem dX5_isIn_2 : decode cX5_isIn 2 = .ok (.iload_n 1, 1) := by decide +kernel
theorem dX5_isIn_3 : decode cX5_isIn 3 = .ok (.invokevirtual 88, 3) := by decide +kernel
theorem dX5_isIn_6 : decode cX5_isIn 6 = .ok (.ifCond .eq 7, 3) := by decide +kernel
theorem dX5_isIn_9 : decode cX5_isIn 9 = .ok (.iconst 0, 1) := by decide +kernel
theorem dX5_isIn_10 : decode cX5_isIn 10 = .ok (.goto 4, 3) := by decide +kernel
theorem dX5_isIn_13 : decode cX5_isIn 13 = .ok (.iconst 1, 1) := by decide +kernel
theorem dX5_isIn_14 : decode cX5_isIn 14 = .ok (.invokevirtual 77, 3) := by decide +kernel
theorem dX5_isIn_17 : decode cX5_isIn 17 = .ok (.ifCond .eq 16, 3) := by decide +kernel
theorem dX5_isIn_20 : decode cX5_isIn 20 = .ok (.aload_n 0, 1) := by decide +kernel
theorem dX5_isIn_21 : decode cX5_isIn 21 = .ok (.getfield 19, 3) := by decide +kernel
theorem dX5_isIn_24 : decode cX5_isIn 24 = .ok (.iload_n 1, 1) := by decide +kernel
theorem dX5_isIn_25 : decode cX5_isIn 25 = .ok (.baload, 1) := by decide +kernel
theorem dX5_isIn_26 : decode cX5_isIn 26 = .ok (.ifCond .eq 7, 3) := by decide +kernel
theorem dX5_isIn_29 : decode cX5_isIn 29 = .ok (.iconst 1, 1) := by decide +kernel
theorem dX5_isIn_30 : decode cX5_isIn 30 = .ok (.goto 4, 3) := by decide +kernel
theorem dX5_isIn_33 : decode cX5_isIn 33 = .ok (.iconst 0, 1) := by decide +kernel
theorem dX5_isIn_34 : decode cX5_isIn 34 = .ok (.ireturn, 1) := by decide +kernel
theorem dX5_forbid_0 : decode cX5_forbid 0 = .ok (.aload_n 0, 1) := by decide +kernel
theorem dX5_forbid_1 : decode cX5_forbid 1 = .ok (.iload_n 1, 1) := by decide +kernel
theorem dX5_forbid_2 : decode cX5_forbid 2 = .ok (.invokestatic 73, 3) := by decide +kernel
theorem dX5_forbid_5 : decode cX5_forbid 5 = .ok (.ifCond .eq 7, 3) := by decide +kernel
theorem dX5_forbid_8 : decode cX5_forbid 8 = .ok (.iconst 0, 1) := by decide +kernel
theorem dX5_forbid_9 : decode cX5_forbid 9 = .ok (.goto 4, 3) := by decide +kernel
theorem dX5_forbid_12 : decode cX5_forbid 12 = .ok (.iconst 1, 1) := by decide +kernel
theorem dX5_forbid_13 : decode cX5_forbid 13 = .ok (.invokevirtual 77, 3) := by decide +kernel
theorem dX5_forbid_16 : decode cX5_forbid 16 = .ok (.ifCond .ne 5, 3) := by decide +kernel
theorem dX5_forbid_19 : decode cX5_forbid 19 = .ok (.iconst 0, 1) := by decide +kernel
theorem dX5_forbid_20 : decode cX5_forbid 20 = .ok (.ireturn, 1) := by decide +kernel
theorem dX5_forbid_21 : decode cX5_forbid 21 = .ok (.aload_n 0, 1) := by decide +kernel
theorem dX5_forbid_22 : decode cX5_forbid 22 = .ok (.getfield 23, 3) := by decide +kernel
theorem dX5_forbid_25 : decode cX5_forbid 25 = .ok (.iload_n 1, 1) := by decide +kernel
theorem dX5_forbid_26 : decode cX5_forbid 26 = .ok (.iconst 1, 1) := by decide +kernel
theorem dX5_forbid_27 : decode cX5_forbid 27 = .ok (.bastore, 1) := by decide +kernel
theorem dX5_forbid_28 : decode cX5_forbid 28 = .ok (.iconst 0, 1) := by decide +kernel
theorem dX5_forbid_29 : decode cX5_forbid 29 = .ok (.istore_n 2, 1) := by decide +kernel
theorem dX5_forbid_30 : decode cX5_forbid 30 = .ok (.iconst 0, 1) := by decide +kernel
theorem dX5_forbid_31 : decode cX5_forbid 31 = .ok (.istore_n 3, 1) := by decide +kernel
theorem dX5_forbid_32 : decode cX5_forbid 32 = .ok (.iload_n 3, 1) := by decide +kernel
theorem dX5_forbid_33 : decode cX5_forbid 33 = .ok (.aload_n 0, 1) := by decide +kernel
theorem dX5_forbid_34 : decode cX5_forbid 34 = .ok (.getfield 45, 3) := by decide +kernel
theorem dX5_forbid_37 : decode cX5_forbid 37 = .ok (.if_icmp .ge 138, 3) := by decide +kernel
theorem dX5_forbid_40 : decode cX5_forbid 40 = .ok (.aload_n 0, 1) := by decide +kernel
theorem dX5_forbid_41 : decode cX5_forbid 41 = .ok (.getfield 16, 3) := by decide +kernel
theorem dX5_forbid_44 : decode cX5_forbid 44 = .ok (.iconst 2, 1) := by decide +kernel
theorem dX5_forbid_45 : decode cX5_forbid 45 = .ok (.iload_n 3, 1) := by decide +kernel
theorem dX5_forbid_46 : decode cX5_forbid 46 = .ok (.imul, 1) := by decide +kernel
theorem dX5_forbid_47 : decode cX5_forbid 47 = .ok (.iaload, 1) := by decide +kernel
theorem dX5_forbid_48 : decode cX5_forbid 48 = .ok (.istore 4, 2) := by decide +kernel
theorem dX5_forbid_50 : decode cX5_forbid 50 = .ok (.aload_n 0, 1) := by decide +kernel
theorem dX5_forbid_51 : decode cX5_forbid 51 = .ok (.getfield 16, 3) := by decide +kernel
theorem dX5_forbid_54 : decode cX5_forbid 54 = .ok (.iconst 2, 1) := by decide +kernel
theorem dX5_forbid_55 : decode cX5_forbid 55 = .ok (.iload_n 3, 1) := by decide +kernel
theorem dX5_forbid_56 : decode cX5_forbid 56 = .ok (.imul, 1) := by decide +kernel
theorem dX5_forbid_57 : decode cX5_forbid 57 = .ok (.iconst 1, 1) := by decide +kernel
theorem dX5_forbid_58 : decode cX5_forbid 58 = .ok (.iadd, 1) := by decide +kernel
theorem dX5_forbid_59 : decode cX5_forbid 59 = .ok (.iaload, 1) := by decide +kernel
theorem dX5_forbid_60 : decode cX5_forbid 60 = .ok (.istore 5, 2) := by decide +kernel
theorem dX5_forbid_62 : decode cX5_forbid 62 = .ok (.aload_n 0, 1) := by decide +kernel
theorem dX5_forbid_63 : decode cX5_forbid 63 = .ok (.getfield 38, 3) := by decide +kernel
theorem dX5_forbid_66 : decode cX5_forbid 66 = .ok (.iload_n 3, 1) := by decide +kernel
theorem dX5_forbid_67 : decode cX5_forbid 67 = .ok (.aload_n 0, 1) := by decide +kernel
theorem dX5_forbid_68 : decode cX5_forbid 68 = .ok (.iload_n 3, 1) := by decide +kernel
theorem dX5_forbid_69 : decode cX5_forbid 69 = .ok (.iload_n 1, 1) := by decide +kernel
theorem dX5_forbid_70 : decode cX5_forbid 70 = .ok (.invokevirtual 67, 3) := by decide +kernel
theorem dX5_forbid_73 : decode cX5_forbid 73 = .ok (.ifCond .ne 35, 3) := by decide +kernel
theorem dX5_forbid_76 : decode cX5_forbid 76 = .ok (.iload 4, 2) := by decide +kernel
theorem dX5_forbid_78 : decode cX5_forbid 78 = .ok (.iconst (-1), 1) := by decide +kernel
theorem dX5_forbid_79 : decode cX5_forbid 79 = .ok (.if_icmp .eq 13, 3) := by decide +kernel
theorem dX5_forbid_82 : decode cX5_forbid 82 = .ok (.aload_n 0, 1) := by decide +kernel
theorem dX5_forbid_83 : decode cX5_forbid 83 = .ok (.getfield 38, 3) := by decide +kernel
theorem dX5_forbid_86 : decode cX5_forbid 86 = .ok (.iload 4, 2) := by decide +kernel
theorem dX5_forbid_88 : decode cX5_forbid 88 = .ok (.baload, 1) := by decide +kernel
theorem dX5_forbid_89 : decode cX5_forbid 89 = .ok (.ifCond .ne 19, 3) := by decide +kernel
theorem dX5_forbid_92 : decode cX5_forbid 92 = .ok (.iload 5, 2) := by decide +kernel
theorem dX5_forbid_94 : decode cX5_forbid 94 = .ok (.iconst (-1), 1) := by decide +kernel
theorem dX5_forbid_95 : decode cX5_forbid 95 = .ok (.if_icmp .eq 17, 3) := by decide +kernel
theorem dX5_forbid_98 : decode cX5_forbid 98 = .ok (.aload_n 0, 1) := by decide +kernel
theorem dX5_forbid_99 : decode cX5_forbid 99 = .ok (.getfield 38, 3) := by decide +kernel
theorem dX5_forbid_102 : decode cX5_forbid 102 = .ok (.iload 5, 2) := by decide +kernel
theorem dX5_forbid_104 : decode cX5_forbid 104 = .ok (.baload, 1) := by decide +kernel
theorem dX5_forbid_105 : decode cX5_forbid 105 = .ok (.ifCond .eq 7, 3) := by decide +kernel
theorem dX5_forbid_108 : decode cX5_forbid 108 = .ok (.iconst 1, 1) := by decide +kernel
theorem dX5_forbid_109 : decode cX5_forbid 109 = .ok (.goto 4, 3) := by decide +kernel
theorem dX5_forbid_112 : decode cX5_forbid 112 = .ok (.iconst 0, 1) := by decide +kernel
theorem dX5_forbid_113 : decode cX5_forbid 113 = .ok (.bastore, 1) := by decide +kernel
theorem dX5_forbid_114 : decode cX5_forbid 114 = .ok (.iload_n 2, 1) := by decide +kernel
theorem dX5_forbid_115 : decode cX5_forbid 115 = .ok (.aload_n 0, 1) := by decide +kernel
theorem dX5_forbid_116 : decode cX5_forbid 116 = .ok (.getfield 38, 3) := by decide +kernel
theorem dX5_forbid_119 : decode cX5_forbid 119 = .ok (.iload_n 3, 1) := by decide +kernel
theorem dX5_forbid_120 : decode cX5_forbid 120 = .ok (.baload, 1) := by decide +kernel
theorem dX5_forbid_121 : decode cX5_forbid 121 = .ok (.ifCond .eq 16, 3) := by decide +kernel
theorem dX5_forbid_124 : decode cX5_forbid 124 = .ok (.aload_n 0, 1) := by decide +kernel
theorem dX5_forbid_125 : decode cX5_forbid 125 = .ok (.getfield 19, 3) := by decide +kernel
theorem dX5_forbid_128 : decode cX5_forbid 128 = .ok (.iload_n 3, 1) := by decide +kernel
theorem dX5_forbid_129 : decode cX5_forbid 129 = .ok (.baload, 1) := by decide +kernel
theorem dX5_forbid_130 : decode cX5_forbid 130 = .ok (.ifCond .eq 7, 3) := by decide +kernel
theorem dX5_forbid_133 : decode cX5_forbid 133 = .ok (.iconst 1, 1) := by decide +kernel
theorem dX5_forbid_134 : decode cX5_forbid 134 = .ok (.goto 4, 3) := by decide +kernel
theorem dX5_forbid_137 : decode cX5_forbid 137 = .ok (.iconst 0, 1) := by decide +kernel
theorem dX5_forbid_138 : decode cX5_forbid 138 = .ok (.iadd, 1) := by decide +kernel
theorem dX5_forbid_139 : decode cX5_forbid 139 = .ok (.istore_n 2, 1) := by decide +kernel
theorem dX5_forbid_140 : decode cX5_forbid 140 = .ok (.aload_n 0, 1) := by decide +kernel
theorem dX5_forbid_141 : decode cX5_forbid 141 = .ok (.getfield 19, 3) := by decide +kernel
theorem dX5_forbid_144 : decode cX5_forbid 144 = .ok (.iload_n 3, 1) := by decide +kernel
theorem dX5_forbid_145 : decode cX5_forbid 145 = .ok (.aload_n 0, 1) := by decide +kernel
theorem dX5_forbid_146 : decode cX5_forbid 146 = .ok (.getfield 19, 3) := by decide +kernel
theorem dX5_forbid_149 : decode cX5_forbid 149 = .ok (.iload_n 3, 1) := by decide +kernel
theorem dX5_forbid_150 : decode cX5_forbid 150 = .ok (.baload, 1) := by decide +kernel
theorem dX5_forbid_151 : decode cX5_forbid 151 = .ok (.ifCond .eq 16, 3) := by decide +kernel
theorem dX5_forbid_154 : decode cX5_forbid 154 = .ok (.aload_n 0, 1) := by decide +kernel
theorem dX5_forbid_155 : decode cX5_forbid 155 = .ok (.getfield 38, 3) := by decide +kernel
theorem dX5_forbid_158 : decode cX5_forbid 158 = .ok (.iload_n 3, 1) := by decide +kernel
theorem dX5_forbid_159 : decode cX5_forbid 159 = .ok (.baload, 1) := by decide +kernel
theorem dX5_forbid_160 : decode cX5_forbid 160 = .ok (.ifCond .ne 7, 3) := by decide +kernel
theorem dX5_forbid_163 : decode cX5_forbid 163 = .ok (.iconst 1, 1) := by decide +kernel
theorem dX5_forbid_164 : decode cX5_forbid 164 = .ok (.goto 4, 3) := by decide +kernel
theorem dX5_forbid_167 : decode cX5_forbid 167 = .ok (.iconst 0, 1) := by decide +kernel
theorem dX5_forbid_168 : decode cX5_forbid 168 = .ok (.bastore, 1) := by decide +kernel
theorem dX5_forbid_169 : decode cX5_forbid 169 = .ok (.iinc 3 1, 3) := by decide +kernel
theorem dX5_forbid_172 : decode cX5_forbid 172 = .ok (.goto (-140), 3) := by decide +kernel
theorem dX5_forbid_175 : decode cX5_forbid 175 = .ok (.iload_n 2, 1) := by decide +kernel
theorem dX5_forbid_176 : decode cX5_forbid 176 = .ok (.ireturn, 1) := by decide +kernel
theorem dX5_allow_0 : decode cX5_allow 0 = .ok (.aload_n 0, 1) := by decide +kernel
theorem dX5_allow_1 : decode cX5_allow 1 = .ok (.iload_n 1, 1) := by decide +kernel
theorem dX5_allow_2 : decode cX5_allow 2 = .ok (.invokestatic 73, 3) := by decide +kernel
theorem dX5_allow_5 : decode cX5_allow 5 = .ok (.ifCond .eq 7, 3) := by decide +kernel
theorem dX5_allow_8 : decode cX5_allow 8 = .ok (.iconst 0, 1) := by decide +kernel
theorem dX5_allow_9 : decode cX5_allow 9 = .ok (.goto 4, 3) := by decide +kernel
theorem dX5_allow_12 : decode cX5_allow 12 = .ok (.iconst 1, 1) := by decide +kernel
theorem dX5_allow_13 : decode cX5_allow 13 = .ok (.invokevirtual 77, 3) := by decide +kernel
theorem dX5_allow_16 : decode cX5_allow 16 = .ok (.ifCond .ne 5, 3) := by decide +kernel
theorem dX5_allow_19 : decode cX5_allow 19 = .ok (.iconst 0, 1) := by decide +kernel
theorem dX5_allow_20 : decode cX5_allow 20 = .ok (.ireturn, 1) := by decide +kernel
theorem dX5_allow_21 : decode cX5_allow 21 = .ok (.aload_n 0, 1) := by decide +kernel
theorem dX5_allow_22 : decode cX5_allow 22 = .ok (.getfield 23, 3) := by decide +kernel
theorem dX5_allow_25 : decode cX5_allow 25 = .ok (.iload_n 1, 1) := by decide +kernel
theorem dX5_allow_26 : decode cX5_allow 26 = .ok (.baload, 1) := by decide +kernel
theorem dX5_allow_27 : decode cX5_allow 27 = .ok (.istore_n 2, 1) := by decide +kernel
theorem dX5_allow_28 : decode cX5_allow 28 = .ok (.aload_n 0, 1) := by decide +kernel
theorem dX5_allow_29 : decode cX5_allow 29 = .ok (.getfield 23, 3) := by decide +kernel
theorem dX5_allow_32 : decode cX5_allow 32 = .ok (.iload_n 1, 1) := by decide +kernel
theorem dX5_allow_33 : decode cX5_allow 33 = .ok (.iconst 0, 1) := by decide +kernel
theorem dX5_allow_34 : decode cX5_allow 34 = .ok (.bastore, 1) := by decide +kernel
theorem dX5_allow_35 : decode cX5_allow 35 = .ok (.iload_n 2, 1) := by decide +kernel
theorem dX5_allow_36 : decode cX5_allow 36 = .ok (.ireturn, 1) := by decide +kernel
theorem dX5_tell_0 : decode cX5_tell 0 = .ok (.aload_n 0, 1) := by decide +kernel
theorem dX5_tell_1 : decode cX5_tell 1 = .ok (.iload_n 1, 1) := by decide +kernel
theorem dX5_tell_2 : decode cX5_tell 2 = .ok (.invokestatic 91, 3) := by decide +kernel
theorem dX5_tell_5 : decode cX5_tell 5 = .ok (.ifCond .eq 10, 3) := by decide +kernel
theorem dX5_tell_8 : decode cX5_tell 8 = .ok (.iload_n 2, 1) := by decide +kernel
theorem dX5_tell_9 : decode cX5_tell 9 = .ok (.invokestatic 91, 3) := by decide +kernel
theorem dX5_tell_12 : decode cX5_tell 12 = .ok (.ifCond .ne 7, 3) := by decide +kernel
theorem dX5_tell_15 : decode cX5_tell 15 = .ok (.iconst 1, 1) := by decide +kernel
theorem dX5_tell_16 : decode cX5_tell 16 = .ok (.goto 17, 3) := by decide +kernel
theorem dX5_tell_19 : decode cX5_tell 19 = .ok (.aload_n 0, 1) := by decide +kernel
theorem dX5_tell_20 : decode cX5_tell 20 = .ok (.getfield 105, 3) := by decide +kernel
theorem dX5_tell_23 : decode cX5_tell 23 = .ok (.bipush 6, 2) := by decide +kernel
theorem dX5_tell_25 : decode cX5_tell 25 = .ok (.if_icmp .ne 7, 3) := by decide +kernel
theorem dX5_tell_28 : decode cX5_tell 28 = .ok (.iconst 2, 1) := by decide +kernel
theorem dX5_tell_29 : decode cX5_tell 29 = .ok (.goto 4, 3) := by decide +kernel
theorem dX5_tell_32 : decode cX5_tell 32 = .ok (.iconst 0, 1) := by decide +kernel
theorem dX5_tell_33 : decode cX5_tell 33 = .ok (.invokevirtual 77, 3) := by decide +kernel
theorem dX5_tell_36 : decode cX5_tell 36 = .ok (.ifCond .ne 5, 3) := by decide +kernel
theorem dX5_tell_39 : decode cX5_tell 39 = .ok (.iconst 0, 1) := by decide +kernel
theorem dX5_tell_40 : decode cX5_tell 40 = .ok (.ireturn, 1) := by decide +kernel
theorem dX5_tell_41 : decode cX5_tell 41 = .ok (.aload_n 0, 1) := by decide +kernel
theorem dX5_tell_42 : decode cX5_tell 42 = .ok (.getfield 26, 3) := by decide +kernel
theorem dX5_tell_45 : decode cX5_tell 45 = .ok (.aload_n 0, 1) := by decide +kernel
theorem dX5_tell_46 : decode cX5_tell 46 = .ok (.getfield 105, 3) := by decide +kernel
theorem dX5_tell_49 : decode cX5_tell 49 = .ok (.iload_n 1, 1) := by decide +kernel
theorem dX5_tell_50 : decode cX5_tell 50 = .ok (.iastore, 1) := by decide +kernel
theorem dX5_tell_51 : decode cX5_tell 51 = .ok (.aload_n 0, 1) := by decide +kernel
theorem dX5_tell_52 : decode cX5_tell 52 = .ok (.getfield 29, 3) := by decide +kernel
theorem dX5_tell_55 : decode cX5_tell 55 = .ok (.aload_n 0, 1) := by decide +kernel
theorem dX5_tell_56 : decode cX5_tell 56 = .ok (.getfield 105, 3) := by decide +kernel
theorem dX5_tell_59 : decode cX5_tell 59 = .ok (.iload_n 2, 1) := by decide +kernel
theorem dX5_tell_60 : decode cX5_tell 60 = .ok (.iastore, 1) := by decide +kernel
theorem dX5_tell_61 : decode cX5_tell 61 = .ok (.aload_n 0, 1) := by decide +kernel
theorem dX5_tell_62 : decode cX5_tell 62 = .ok (.dup, 1) := by decide +kernel
theorem dX5_tell_63 : decode cX5_tell 63 = .ok (.getfield 105, 3) := by decide +kernel
theorem dX5_tell_66 : decode cX5_tell 66 = .ok (.iconst 1, 1) := by decide +kernel
theorem dX5_tell_67 : decode cX5_tell 67 = .ok (.iadd, 1) := by decide +kernel
theorem dX5_tell_68 : decode cX5_tell 68 = .ok (.putfield 105, 3) := by decide +kernel
theorem dX5_tell_71 : decode cX5_tell 71 = .ok (.aload_n 0, 1) := by decide +kernel
theorem dX5_tell_72 : decode cX5_tell 72 = .ok (.getfield 105, 3) := by decide +kernel
theorem dX5_tell_75 : decode cX5_tell 75 = .ok (.ireturn, 1) := by decide +kernel
theorem dX5_forget_0 : decode cX5_forget 0 = .ok (.aload_n 0, 1) := by decide +kernel
theorem dX5_forget_1 : decode cX5_forget 1 = .ok (.iconst 0, 1) := by decide +kernel
theorem dX5_forget_2 : decode cX5_forget 2 = .ok (.putfield 41, 3) := by decide +kernel
theorem dX5_forget_5 : decode cX5_forget 5 = .ok (.aload_n 0, 1) := by decide +kernel
theorem dX5_forget_6 : decode cX5_forget 6 = .ok (.getfield 105, 3) := by decide +kernel
theorem dX5_forget_9 : decode cX5_forget 9 = .ok (.istore_n 1, 1) := by decide +kernel
theorem dX5_forget_10 : decode cX5_forget 10 = .ok (.aload_n 0, 1) := by decide +kernel
theorem dX5_forget_11 : decode cX5_forget 11 = .ok (.iconst 0, 1) := by decide +kernel
theorem dX5_forget_12 : decode cX5_forget 12 = .ok (.putfield 105, 3) := by decide +kernel
theorem dX5_forget_15 : decode cX5_forget 15 = .ok (.iload_n 1, 1) := by decide +kernel
theorem dX5_forget_16 : decode cX5_forget 16 = .ok (.ireturn, 1) := by decide +kernel
theorem dX5_profitOf_0 : decode cX5_profitOf 0 = .ok (.aload_n 0, 1) := by decide +kernel
theorem dX5_profitOf_1 : decode cX5_profitOf 1 = .ok (.iload_n 2, 1) := by decide +kernel
theorem dX5_profitOf_2 : decode cX5_profitOf 2 = .ok (.iload 4, 2) := by decide +kernel
theorem dX5_profitOf_4 : decode cX5_profitOf 4 = .ok (.invokevirtual 94, 3) := by decide +kernel
theorem dX5_profitOf_7 : decode cX5_profitOf 7 = .ok (.istore 6, 2) := by decide +kernel
theorem dX5_profitOf_9 : decode cX5_profitOf 9 = .ok (.aload_n 0, 1) := by decide +kernel
theorem dX5_profitOf_10 : decode cX5_profitOf 10 = .ok (.iload_n 3, 1) := by decide +kernel
theorem dX5_profitOf_11 : decode cX5_profitOf 11 = .ok (.iload 5, 2) := by decide +kernel
theorem dX5_profitOf_13 : decode cX5_profitOf 13 = .ok (.invokevirtual 94, 3) := by decide +kernel
theorem dX5_profitOf_16 : decode cX5_profitOf 16 = .ok (.istore 7, 2) := by decide +kernel
theorem dX5_profitOf_18 : decode cX5_profitOf 18 = .ok (.iload 6, 2) := by decide +kernel
theorem dX5_profitOf_20 : decode cX5_profitOf 20 = .ok (.iload 7, 2) := by decide +kernel
theorem dX5_profitOf_22 : decode cX5_profitOf 22 = .ok (.if_icmp .gt 15, 3) := by decide +kernel
theorem dX5_profitOf_25 : decode cX5_profitOf 25 = .ok (.iload 6, 2) := by decide +kernel
theorem dX5_profitOf_27 : decode cX5_profitOf 27 = .ok (.iload 7, 2) := by decide +kernel
theorem dX5_profitOf_29 : decode cX5_profitOf 29 = .ok (.if_icmp .ne 12, 3) := by decide +kernel
theorem dX5_profitOf_32 : decode cX5_profitOf 32 = .ok (.iload_n 2, 1) := by decide +kernel
theorem dX5_profitOf_33 : decode cX5_profitOf 33 = .ok (.iload_n 3, 1) := by decide +kernel
theorem dX5_profitOf_34 : decode cX5_profitOf 34 = .ok (.if_icmp .ge 7, 3) := by decide +kernel
theorem dX5_profitOf_37 : decode cX5_profitOf 37 = .ok (.iconst 1, 1) := by decide +kernel
theorem dX5_profitOf_38 : decode cX5_profitOf 38 = .ok (.goto 4, 3) := by decide +kernel
theorem dX5_profitOf_41 : decode cX5_profitOf 41 = .ok (.iconst 0, 1) := by decide +kernel
theorem dX5_profitOf_42 : decode cX5_profitOf 42 = .ok (.istore 8, 2) := by decide +kernel
theorem dX5_profitOf_44 : decode cX5_profitOf 44 = .ok (.iload_n 1, 1) := by decide +kernel
theorem dX5_profitOf_45 : decode cX5_profitOf 45 = .ok (.iconst 1, 1) := by decide +kernel
theorem dX5_profitOf_46 : decode cX5_profitOf 46 = .ok (.if_icmp .ne 8, 3) := by decide +kernel
theorem dX5_profitOf_49 : decode cX5_profitOf 49 = .ok (.iload 7, 2) := by decide +kernel
theorem dX5_profitOf_51 : decode cX5_profitOf 51 = .ok (.goto 20, 3) := by decide +kernel
theorem dX5_profitOf_54 : decode cX5_profitOf 54 = .ok (.iload_n 1, 1) := by decide +kernel
theorem dX5_profitOf_55 : decode cX5_profitOf 55 = .ok (.iconst 2, 1) := by decide +kernel
theorem dX5_profitOf_56 : decode cX5_profitOf 56 = .ok (.if_icmp .ne 13, 3) := by decide +kernel
theorem dX5_profitOf_59 : decode cX5_profitOf 59 = .ok (.iload 6, 2) := by decide +kernel
theorem dX5_profitOf_61 : decode cX5_profitOf 61 = .ok (.iload 7, 2) := by decide +kernel
theorem dX5_profitOf_63 : decode cX5_profitOf 63 = .ok (.iadd, 1) := by decide +kernel
theorem dX5_profitOf_64 : decode cX5_profitOf 64 = .ok (.iconst 2, 1) := by decide +kernel
theorem dX5_profitOf_65 : decode cX5_profitOf 65 = .ok (.idiv, 1) := by decide +kernel
theorem dX5_profitOf_66 : decode cX5_profitOf 66 = .ok (.goto 5, 3) := by decide +kernel
theorem dX5_profitOf_69 : decode cX5_profitOf 69 = .ok (.iload 6, 2) := by decide +kernel
theorem dX5_profitOf_71 : decode cX5_profitOf 71 = .ok (.istore 9, 2) := by decide +kernel
theorem dX5_profitOf_73 : decode cX5_profitOf 73 = .ok (.iload 8, 2) := by decide +kernel
theorem dX5_profitOf_75 : decode cX5_profitOf 75 = .ok (.ifCond .eq 8, 3) := by decide +kernel
theorem dX5_profitOf_78 : decode cX5_profitOf 78 = .ok (.iload 4, 2) := by decide +kernel
theorem dX5_profitOf_80 : decode cX5_profitOf 80 = .ok (.goto 4, 3) := by decide +kernel
theorem dX5_profitOf_83 : decode cX5_profitOf 83 = .ok (.iconst 0, 1) := by decide +kernel
theorem dX5_profitOf_84 : decode cX5_profitOf 84 = .ok (.iload 8, 2) := by decide +kernel
theorem dX5_profitOf_86 : decode cX5_profitOf 86 = .ok (.ifCond .ne 8, 3) := by decide +kernel
theorem dX5_profitOf_89 : decode cX5_profitOf 89 = .ok (.iload_n 1, 1) := by decide +kernel
theorem dX5_profitOf_90 : decode cX5_profitOf 90 = .ok (.iconst 3, 1) := by decide +kernel
theorem dX5_profitOf_91 : decode cX5_profitOf 91 = .ok (.if_icmp .ne 8, 3) := by decide +kernel
theorem dX5_profitOf_94 : decode cX5_profitOf 94 = .ok (.iload 9, 2) := by decide +kernel
theorem dX5_profitOf_96 : decode cX5_profitOf 96 = .ok (.goto 4, 3) := by decide +kernel
theorem dX5_profitOf_99 : decode cX5_profitOf 99 = .ok (.iconst 0, 1) := by decide +kernel
theorem dX5_profitOf_100 : decode cX5_profitOf 100 = .ok (.isub, 1) := by decide +kernel
theorem dX5_profitOf_101 : decode cX5_profitOf 101 = .ok (.ireturn, 1) := by decide +kernel
theorem dX5_profit_0 : decode cX5_profit 0 = .ok (.iload_n 2, 1) := by decide +kernel
theorem dX5_profit_1 : decode cX5_profit 1 = .ok (.iload_n 3, 1) := by decide +kernel
theorem dX5_profit_2 : decode cX5_profit 2 = .ok (.if_icmp .eq 30, 3) := by decide +kernel
theorem dX5_profit_5 : decode cX5_profit 5 = .ok (.iload_n 1, 1) := by decide +kernel
theorem dX5_profit_6 : decode cX5_profit 6 = .ok (.invokestatic 108, 3) := by decide +kernel
theorem dX5_profit_9 : decode cX5_profit 9 = .ok (.ifCond .eq 23, 3) := by decide +kernel
theorem dX5_profit_12 : decode cX5_profit 12 = .ok (.iload 4, 2) := by decide +kernel
theorem dX5_profit_14 : decode cX5_profit 14 = .ok (.invokestatic 91, 3) := by decide +kernel
theorem dX5_profit_17 : decode cX5_profit 17 = .ok (.ifCond .eq 15, 3) := by decide +kernel
theorem dX5_profit_20 : decode cX5_profit 20 = .ok (.iload 5, 2) := by decide +kernel
theorem dX5_profit_22 : decode cX5_profit 22 = .ok (.invokestatic 91, 3) := by decide +kernel
theorem dX5_profit_25 : decode cX5_profit 25 = .ok (.ifCond .eq 7, 3) := by decide +kernel
theorem dX5_profit_28 : decode cX5_profit 28 = .ok (.iconst 1, 1) := by decide +kernel
theorem dX5_profit_29 : decode cX5_profit 29 = .ok (.goto 4, 3) := by decide +kernel
theorem dX5_profit_32 : decode cX5_profit 32 = .ok (.iconst 0, 1) := by decide +kernel
theorem dX5_profit_33 : decode cX5_profit 33 = .ok (.istore 6, 2) := by decide +kernel
theorem dX5_profit_35 : decode cX5_profit 35 = .ok (.aload_n 0, 1) := by decide +kernel
theorem dX5_profit_36 : decode cX5_profit 36 = .ok (.aload_n 0, 1) := by decide +kernel
theorem dX5_profit_37 : decode cX5_profit 37 = .ok (.iload_n 2, 1) := by decide +kernel
theorem dX5_profit_38 : decode cX5_profit 38 = .ok (.invokevirtual 88, 3) := by decide +kernel
theorem dX5_profit_41 : decode cX5_profit 41 = .ok (.ifCond .eq 11, 3) := by decide +kernel
theorem dX5_profit_44 : decode cX5_profit 44 = .ok (.aload_n 0, 1) := by decide +kernel
theorem dX5_profit_45 : decode cX5_profit 45 = .ok (.iload_n 3, 1) := by decide +kernel
theorem dX5_profit_46 : decode cX5_profit 46 = .ok (.invokevirtual 88, 3) := by decide +kernel
theorem dX5_profit_49 : decode cX5_profit 49 = .ok (.ifCond .ne 7, 3) := by decide +kernel
theorem dX5_profit_52 : decode cX5_profit 52 = .ok (.iconst 1, 1) := by decide +kernel
theorem dX5_profit_53 : decode cX5_profit 53 = .ok (.goto 13, 3) := by decide +kernel
theorem dX5_profit_56 : decode cX5_profit 56 = .ok (.iload 6, 2) := by decide +kernel
theorem dX5_profit_58 : decode cX5_profit 58 = .ok (.ifCond .eq 7, 3) := by decide +kernel
theorem dX5_profit_61 : decode cX5_profit 61 = .ok (.iconst 0, 1) := by decide +kernel
theorem dX5_profit_62 : decode cX5_profit 62 = .ok (.goto 4, 3) := by decide +kernel
theorem dX5_profit_65 : decode cX5_profit 65 = .ok (.iconst 2, 1) := by decide +kernel
theorem dX5_profit_66 : decode cX5_profit 66 = .ok (.invokevirtual 77, 3) := by decide +kernel
theorem dX5_profit_69 : decode cX5_profit 69 = .ok (.ifCond .eq 17, 3) := by decide +kernel
theorem dX5_profit_72 : decode cX5_profit 72 = .ok (.aload_n 0, 1) := by decide +kernel
theorem dX5_profit_73 : decode cX5_profit 73 = .ok (.iload_n 1, 1) := by decide +kernel
theorem dX5_profit_74 : decode cX5_profit 74 = .ok (.iload_n 2, 1) := by decide +kernel
theorem dX5_profit_75 : decode cX5_profit 75 = .ok (.iload_n 3, 1) := by decide +kernel
theorem dX5_profit_76 : decode cX5_profit 76 = .ok (.iload 4, 2) := by decide +kernel
theorem dX5_profit_78 : decode cX5_profit 78 = .ok (.iload 5, 2) := by decide +kernel
theorem dX5_profit_80 : decode cX5_profit 80 = .ok (.invokevirtual 111, 3) := by decide +kernel
theorem dX5_profit_83 : decode cX5_profit 83 = .ok (.goto 4, 3) := by decide +kernel
theorem dX5_profit_86 : decode cX5_profit 86 = .ok (.iconst 0, 1) := by decide +kernel
theorem dX5_profit_87 : decode cX5_profit 87 = .ok (.ireturn, 1) := by decide +kernel
theorem dX5_worthOf_0 : decode cX5_worthOf 0 = .ok (.iconst 0, 1) := by decide +kernel
theorem dX5_worthOf_1 : decode cX5_worthOf 1 = .ok (.istore_n 3, 1) := by decide +kernel
theorem dX5_worthOf_2 : decode cX5_worthOf 2 = .ok (.iconst 0, 1) := by decide +kernel
theorem dX5_worthOf_3 : decode cX5_worthOf 3 = .ok (.istore 4, 2) := by decide +kernel
theorem dX5_worthOf_5 : decode cX5_worthOf 5 = .ok (.iload 4, 2) := by decide +kernel
theorem dX5_worthOf_7 : decode cX5_worthOf 7 = .ok (.aload_n 0, 1) := by decide +kernel
theorem dX5_worthOf_8 : decode cX5_worthOf 8 = .ok (.getfield 45, 3) := by decide +kernel
theorem dX5_worthOf_11 : decode cX5_worthOf 11 = .ok (.if_icmp .ge 91, 3) := by decide +kernel
theorem dX5_worthOf_14 : decode cX5_worthOf 14 = .ok (.iconst 0, 1) := by decide +kernel
theorem dX5_worthOf_15 : decode cX5_worthOf 15 = .ok (.istore 5, 2) := by decide +kernel
theorem dX5_worthOf_17 : decode cX5_worthOf 17 = .ok (.iload 5, 2) := by decide +kernel
theorem dX5_worthOf_19 : decode cX5_worthOf 19 = .ok (.aload_n 0, 1) := by decide +kernel
theorem dX5_worthOf_20 : decode cX5_worthOf 20 = .ok (.getfield 105, 3) := by decide +kernel
theorem dX5_worthOf_23 : decode cX5_worthOf 23 = .ok (.if_icmp .ge 73, 3) := by decide +kernel
theorem dX5_worthOf_26 : decode cX5_worthOf 26 = .ok (.aload_n 0, 1) := by decide +kernel
theorem dX5_worthOf_27 : decode cX5_worthOf 27 = .ok (.getfield 19, 3) := by decide +kernel
theorem dX5_worthOf_30 : decode cX5_worthOf 30 = .ok (.iload 4, 2) := by decide +kernel
theorem dX5_worthOf_32 : decode cX5_worthOf 32 = .ok (.baload, 1) := by decide +kernel
theorem dX5_worthOf_33 : decode cX5_worthOf 33 = .ok (.ifCond .eq 63, 3) := by decide +kernel
theorem dX5_worthOf_36 : decode cX5_worthOf 36 = .ok (.iload 4, 2) := by decide +kernel
theorem dX5_worthOf_38 : decode cX5_worthOf 38 = .ok (.iload_n 2, 1) := by decide +kernel
theorem dX5_worthOf_39 : decode cX5_worthOf 39 = .ok (.if_icmp .eq 57, 3) := by decide +kernel
theorem dX5_worthOf_42 : decode cX5_worthOf 42 = .ok (.iload_n 3, 1) := by decide +kernel
theorem dX5_worthOf_43 : decode cX5_worthOf 43 = .ok (.aload_n 0, 1) := by decide +kernel
theorem dX5_worthOf_44 : decode cX5_worthOf 44 = .ok (.iload_n 1, 1) := by decide +kernel
theorem dX5_worthOf_45 : decode cX5_worthOf 45 = .ok (.iload_n 2, 1) := by decide +kernel
theorem dX5_worthOf_46 : decode cX5_worthOf 46 = .ok (.iload 4, 2) := by decide +kernel
theorem dX5_worthOf_48 : decode cX5_worthOf 48 = .ok (.aload_n 0, 1) := by decide +kernel
theorem dX5_worthOf_49 : decode cX5_worthOf 49 = .ok (.getfield 26, 3) := by decide +kernel
theorem dX5_worthOf_52 : decode cX5_worthOf 52 = .ok (.iload 5, 2) := by decide +kernel
theorem dX5_worthOf_54 : decode cX5_worthOf 54 = .ok (.iaload, 1) := by decide +kernel
theorem dX5_worthOf_55 : decode cX5_worthOf 55 = .ok (.aload_n 0, 1) := by decide +kernel
theorem dX5_worthOf_56 : decode cX5_worthOf 56 = .ok (.getfield 29, 3) := by decide +kernel
theorem dX5_worthOf_59 : decode cX5_worthOf 59 = .ok (.iload 5, 2) := by decide +kernel
theorem dX5_worthOf_61 : decode cX5_worthOf 61 = .ok (.iaload, 1) := by decide +kernel
theorem dX5_worthOf_62 : decode cX5_worthOf 62 = .ok (.invokevirtual 111, 3) := by decide +kernel
theorem dX5_worthOf_65 : decode cX5_worthOf 65 = .ok (.aload_n 0, 1) := by decide +kernel
theorem dX5_worthOf_66 : decode cX5_worthOf 66 = .ok (.iload_n 1, 1) := by decide +kernel
theorem dX5_worthOf_67 : decode cX5_worthOf 67 = .ok (.iload_n 2, 1) := by decide +kernel
theorem dX5_worthOf_68 : decode cX5_worthOf 68 = .ok (.iload 4, 2) := by decide +kernel
theorem dX5_worthOf_70 : decode cX5_worthOf 70 = .ok (.aload_n 0, 1) := by decide +kernel
theorem dX5_worthOf_71 : decode cX5_worthOf 71 = .ok (.getfield 29, 3) := by decide +kernel
theorem dX5_worthOf_74 : decode cX5_worthOf 74 = .ok (.iload 5, 2) := by decide +kernel
theorem dX5_worthOf_76 : decode cX5_worthOf 76 = .ok (.iaload, 1) := by decide +kernel
theorem dX5_worthOf_77 : decode cX5_worthOf 77 = .ok (.aload_n 0, 1) := by decide +kernel
theorem dX5_worthOf_78 : decode cX5_worthOf 78 = .ok (.getfield 26, 3) := by decide +kernel
theorem dX5_worthOf_81 : decode cX5_worthOf 81 = .ok (.iload 5, 2) := by decide +kernel
theorem dX5_worthOf_83 : decode cX5_worthOf 83 = .ok (.iaload, 1) := by decide +kernel
theorem dX5_worthOf_84 : decode cX5_worthOf 84 = .ok (.invokevirtual 111, 3) := by decide +kernel
theorem dX5_worthOf_87 : decode cX5_worthOf 87 = .ok (.iadd, 1) := by decide +kernel
theorem dX5_worthOf_88 : decode cX5_worthOf 88 = .ok (.iadd, 1) := by decide +kernel
theorem dX5_worthOf_89 : decode cX5_worthOf 89 = .ok (.istore_n 3, 1) := by decide +kernel
theorem dX5_worthOf_90 : decode cX5_worthOf 90 = .ok (.iinc 5 1, 3) := by decide +kernel
theorem dX5_worthOf_93 : decode cX5_worthOf 93 = .ok (.goto (-76), 3) := by decide +kernel
theorem dX5_worthOf_96 : decode cX5_worthOf 96 = .ok (.iinc 4 1, 3) := by decide +kernel
theorem dX5_worthOf_99 : decode cX5_worthOf 99 = .ok (.goto (-94), 3) := by decide +kernel
theorem dX5_worthOf_102 : decode cX5_worthOf 102 = .ok (.iload_n 3, 1) := by decide +kernel
theorem dX5_worthOf_103 : decode cX5_worthOf 103 = .ok (.ireturn, 1) := by decide +kernel
theorem dX5_worthIn_0 : decode cX5_worthIn 0 = .ok (.aload_n 0, 1) := by decide +kernel
theorem dX5_worthIn_1 : decode cX5_worthIn 1 = .ok (.aload_n 0, 1) := by decide +kernel
theorem dX5_worthIn_2 : decode cX5_worthIn 2 = .ok (.iload_n 2, 1) := by decide +kernel
theorem dX5_worthIn_3 : decode cX5_worthIn 3 = .ok (.invokevirtual 88, 3) := by decide +kernel
theorem dX5_worthIn_6 : decode cX5_worthIn 6 = .ok (.ifCond .ne 7, 3) := by decide +kernel
theorem dX5_worthIn_9 : decode cX5_worthIn 9 = .ok (.iconst 1, 1) := by decide +kernel
theorem dX5_worthIn_10 : decode cX5_worthIn 10 = .ok (.goto 28, 3) := by decide +kernel
theorem dX5_worthIn_13 : decode cX5_worthIn 13 = .ok (.iload_n 1, 1) := by decide +kernel
theorem dX5_worthIn_14 : decode cX5_worthIn 14 = .ok (.invokestatic 108, 3) := by decide +kernel
theorem dX5_worthIn_17 : decode cX5_worthIn 17 = .ok (.ifCond .ne 7, 3) := by decide +kernel
theorem dX5_worthIn_20 : decode cX5_worthIn 20 = .ok (.iconst 2, 1) := by decide +kernel
theorem dX5_worthIn_21 : decode cX5_worthIn 21 = .ok (.goto 17, 3) := by decide +kernel
theorem dX5_worthIn_24 : decode cX5_worthIn 24 = .ok (.aload_n 0, 1) := by decide +kernel
theorem dX5_worthIn_25 : decode cX5_worthIn 25 = .ok (.getfield 19, 3) := by decide +kernel
theorem dX5_worthIn_28 : decode cX5_worthIn 28 = .ok (.iload_n 2, 1) := by decide +kernel
theorem dX5_worthIn_29 : decode cX5_worthIn 29 = .ok (.baload, 1) := by decide +kernel
theorem dX5_worthIn_30 : decode cX5_worthIn 30 = .ok (.ifCond .eq 7, 3) := by decide +kernel
theorem dX5_worthIn_33 : decode cX5_worthIn 33 = .ok (.iconst 0, 1) := by decide +kernel
theorem dX5_worthIn_34 : decode cX5_worthIn 34 = .ok (.goto 4, 3) := by decide +kernel
theorem dX5_worthIn_37 : decode cX5_worthIn 37 = .ok (.iconst 3, 1) := by decide +kernel
theorem dX5_worthIn_38 : decode cX5_worthIn 38 = .ok (.invokevirtual 77, 3) := by decide +kernel
theorem dX5_worthIn_41 : decode cX5_worthIn 41 = .ok (.ifCond .eq 12, 3) := by decide +kernel
theorem dX5_worthIn_44 : decode cX5_worthIn 44 = .ok (.aload_n 0, 1) := by decide +kernel
theorem dX5_worthIn_45 : decode cX5_worthIn 45 = .ok (.iload_n 1, 1) := by decide +kernel
theorem dX5_worthIn_46 : decode cX5_worthIn 46 = .ok (.iload_n 2, 1) := by decide +kernel
theorem dX5_worthIn_47 : decode cX5_worthIn 47 = .ok (.invokevirtual 115, 3) := by decide +kernel
theorem dX5_worthIn_50 : decode cX5_worthIn 50 = .ok (.goto 4, 3) := by decide +kernel
theorem dX5_worthIn_53 : decode cX5_worthIn 53 = .ok (.iconst 0, 1) := by decide +kernel
theorem dX5_worthIn_54 : decode cX5_worthIn 54 = .ok (.ireturn, 1) := by decide +kernel
theorem dX5_worth_0 : decode cX5_worth 0 = .ok (.aload_n 0, 1) := by decide +kernel
theorem dX5_worth_1 : decode cX5_worth 1 = .ok (.iload_n 1, 1) := by decide +kernel
theorem dX5_worth_2 : decode cX5_worth 2 = .ok (.iload_n 2, 1) := by decide +kernel
theorem dX5_worth_3 : decode cX5_worth 3 = .ok (.invokevirtual 118, 3) := by decide +kernel
theorem dX5_worth_6 : decode cX5_worth 6 = .ok (.ireturn, 1) := by decide +kernel
theorem dX5_worthByValues_0 : decode cX5_worthByValues 0 = .ok (.aload_n 0, 1) := by decide +kernel
theorem dX5_worthByValues_1 : decode cX5_worthByValues 1 = .ok (.iload_n 1, 1) := by decide +kernel
theorem dX5_worthByValues_2 : decode cX5_worthByValues 2 = .ok (.iload_n 2, 1) := by decide +kernel
theorem dX5_worthByValues_3 : decode cX5_worthByValues 3 = .ok (.invokevirtual 118, 3) := by decide +kernel
theorem dX5_worthByValues_6 : decode cX5_worthByValues 6 = .ok (.ireturn, 1) := by decide +kernel
theorem dX5_laysWorths_0 : decode cX5_laysWorths 0 = .ok (.iconst 0, 1) := by decide +kernel
theorem dX5_laysWorths_1 : decode cX5_laysWorths 1 = .ok (.istore_n 2, 1) := by decide +kernel
theorem dX5_laysWorths_2 : decode cX5_laysWorths 2 = .ok (.iload_n 2, 1) := by decide +kernel
theorem dX5_laysWorths_3 : decode cX5_laysWorths 3 = .ok (.aload_n 0, 1) := by decide +kernel
theorem dX5_laysWorths_4 : decode cX5_laysWorths 4 = .ok (.getfield 45, 3) := by decide +kernel
theorem dX5_laysWorths_7 : decode cX5_laysWorths 7 = .ok (.if_icmp .ge 34, 3) := by decide +kernel
theorem dX5_laysWorths_10 : decode cX5_laysWorths 10 = .ok (.aload_n 0, 1) := by decide +kernel
theorem dX5_laysWorths_11 : decode cX5_laysWorths 11 = .ok (.getfield 35, 3) := by decide +kernel
theorem dX5_laysWorths_14 : decode cX5_laysWorths 14 = .ok (.iload_n 2, 1) := by decide +kernel
theorem dX5_laysWorths_15 : decode cX5_laysWorths 15 = .ok (.aload_n 0, 1) := by decide +kernel
theorem dX5_laysWorths_16 : decode cX5_laysWorths 16 = .ok (.getfield 19, 3) := by decide +kernel
theorem dX5_laysWorths_19 : decode cX5_laysWorths 19 = .ok (.iload_n 2, 1) := by decide +kernel
theorem dX5_laysWorths_20 : decode cX5_laysWorths 20 = .ok (.baload, 1) := by decide +kernel
theorem dX5_laysWorths_21 : decode cX5_laysWorths 21 = .ok (.ifCond .eq 12, 3) := by decide +kernel
theorem dX5_laysWorths_24 : decode cX5_laysWorths 24 = .ok (.aload_n 0, 1) := by decide +kernel
theorem dX5_laysWorths_25 : decode cX5_laysWorths 25 = .ok (.iload_n 1, 1) := by decide +kernel
theorem dX5_laysWorths_26 : decode cX5_laysWorths 26 = .ok (.iload_n 2, 1) := by decide +kernel
theorem dX5_laysWorths_27 : decode cX5_laysWorths 27 = .ok (.invokevirtual 115, 3) := by decide +kernel
theorem dX5_laysWorths_30 : decode cX5_laysWorths 30 = .ok (.goto 4, 3) := by decide +kernel
theorem dX5_laysWorths_33 : decode cX5_laysWorths 33 = .ok (.iconst 0, 1) := by decide +kernel
theorem dX5_laysWorths_34 : decode cX5_laysWorths 34 = .ok (.iastore, 1) := by decide +kernel
theorem dX5_laysWorths_35 : decode cX5_laysWorths 35 = .ok (.iinc 2 1, 3) := by decide +kernel
theorem dX5_laysWorths_38 : decode cX5_laysWorths 38 = .ok (.goto (-36), 3) := by decide +kernel
theorem dX5_laysWorths_41 : decode cX5_laysWorths 41 = .ok (.return_, 1) := by decide +kernel
theorem dX5_greatest_0 : decode cX5_greatest 0 = .ok (.iconst (-1), 1) := by decide +kernel
theorem dX5_greatest_1 : decode cX5_greatest 1 = .ok (.istore_n 2, 1) := by decide +kernel
theorem dX5_greatest_2 : decode cX5_greatest 2 = .ok (.iconst 0, 1) := by decide +kernel
theorem dX5_greatest_3 : decode cX5_greatest 3 = .ok (.istore_n 3, 1) := by decide +kernel
theorem dX5_greatest_4 : decode cX5_greatest 4 = .ok (.iload_n 3, 1) := by decide +kernel
theorem dX5_greatest_5 : decode cX5_greatest 5 = .ok (.aload_n 0, 1) := by decide +kernel
theorem dX5_greatest_6 : decode cX5_greatest 6 = .ok (.getfield 45, 3) := by decide +kernel
theorem dX5_greatest_9 : decode cX5_greatest 9 = .ok (.if_icmp .ge 61, 3) := by decide +kernel
theorem dX5_greatest_12 : decode cX5_greatest 12 = .ok (.aload_n 0, 1) := by decide +kernel
theorem dX5_greatest_13 : decode cX5_greatest 13 = .ok (.getfield 19, 3) := by decide +kernel
theorem dX5_greatest_16 : decode cX5_greatest 16 = .ok (.iload_n 3, 1) := by decide +kernel
theorem dX5_greatest_17 : decode cX5_greatest 17 = .ok (.baload, 1) := by decide +kernel
theorem dX5_greatest_18 : decode cX5_greatest 18 = .ok (.ifCond .eq 12, 3) := by decide +kernel
theorem dX5_greatest_21 : decode cX5_greatest 21 = .ok (.iload_n 3, 1) := by decide +kernel
theorem dX5_greatest_22 : decode cX5_greatest 22 = .ok (.iload_n 1, 1) := by decide +kernel
theorem dX5_greatest_23 : decode cX5_greatest 23 = .ok (.if_icmp .eq 7, 3) := by decide +kernel
theorem dX5_greatest_26 : decode cX5_greatest 26 = .ok (.iconst 1, 1) := by decide +kernel
theorem dX5_greatest_27 : decode cX5_greatest 27 = .ok (.goto 4, 3) := by decide +kernel
theorem dX5_greatest_30 : decode cX5_greatest 30 = .ok (.iconst 0, 1) := by decide +kernel
theorem dX5_greatest_31 : decode cX5_greatest 31 = .ok (.istore 4, 2) := by decide +kernel
theorem dX5_greatest_33 : decode cX5_greatest 33 = .ok (.iload 4, 2) := by decide +kernel
theorem dX5_greatest_35 : decode cX5_greatest 35 = .ok (.ifCond .eq 27, 3) := by decide +kernel
theorem dX5_greatest_38 : decode cX5_greatest 38 = .ok (.iload_n 2, 1) := by decide +kernel
theorem dX5_greatest_39 : decode cX5_greatest 39 = .ok (.iconst (-1), 1) := by decide +kernel
theorem dX5_greatest_40 : decode cX5_greatest 40 = .ok (.if_icmp .eq 18, 3) := by decide +kernel
theorem dX5_greatest_43 : decode cX5_greatest 43 = .ok (.aload_n 0, 1) := by decide +kernel
theorem dX5_greatest_44 : decode cX5_greatest 44 = .ok (.getfield 35, 3) := by decide +kernel
theorem dX5_greatest_47 : decode cX5_greatest 47 = .ok (.iload_n 3, 1) := by decide +kernel
theorem dX5_greatest_48 : decode cX5_greatest 48 = .ok (.iaload, 1) := by decide +kernel
theorem dX5_greatest_49 : decode cX5_greatest 49 = .ok (.aload_n 0, 1) := by decide +kernel
theorem dX5_greatest_50 : decode cX5_greatest 50 = .ok (.getfield 35, 3) := by decide +kernel
theorem dX5_greatest_53 : decode cX5_greatest 53 = .ok (.iload_n 2, 1) := by decide +kernel
theorem dX5_greatest_54 : decode cX5_greatest 54 = .ok (.iaload, 1) := by decide +kernel
theorem dX5_greatest_55 : decode cX5_greatest 55 = .ok (.if_icmp .le 7, 3) := by decide +kernel
theorem dX5_greatest_58 : decode cX5_greatest 58 = .ok (.iload_n 3, 1) := by decide +kernel
theorem dX5_greatest_59 : decode cX5_greatest 59 = .ok (.goto 4, 3) := by decide +kernel
theorem dX5_greatest_62 : decode cX5_greatest 62 = .ok (.iload_n 2, 1) := by decide +kernel
theorem dX5_greatest_63 : decode cX5_greatest 63 = .ok (.istore_n 2, 1) := by decide +kernel
theorem dX5_greatest_64 : decode cX5_greatest 64 = .ok (.iinc 3 1, 3) := by decide +kernel
theorem dX5_greatest_67 : decode cX5_greatest 67 = .ok (.goto (-63), 3) := by decide +kernel
theorem dX5_greatest_70 : decode cX5_greatest 70 = .ok (.iload_n 2, 1) := by decide +kernel
theorem dX5_greatest_71 : decode cX5_greatest 71 = .ok (.ireturn, 1) := by decide +kernel
theorem dX5_best_0 : decode cX5_best 0 = .ok (.aload_n 0, 1) := by decide +kernel
theorem dX5_best_1 : decode cX5_best 1 = .ok (.iload_n 1, 1) := by decide +kernel
theorem dX5_best_2 : decode cX5_best 2 = .ok (.invokestatic 108, 3) := by decide +kernel
theorem dX5_best_5 : decode cX5_best 5 = .ok (.ifCond .eq 7, 3) := by decide +kernel
theorem dX5_best_8 : decode cX5_best 8 = .ok (.iconst 0, 1) := by decide +kernel
theorem dX5_best_9 : decode cX5_best 9 = .ok (.goto 4, 3) := by decide +kernel
theorem dX5_best_12 : decode cX5_best 12 = .ok (.iconst 1, 1) := by decide +kernel
theorem dX5_best_13 : decode cX5_best 13 = .ok (.invokevirtual 77, 3) := by decide +kernel
theorem dX5_best_16 : decode cX5_best 16 = .ok (.ifCond .ne 5, 3) := by decide +kernel
theorem dX5_best_19 : decode cX5_best 19 = .ok (.iconst 0, 1) := by decide +kernel
theorem dX5_best_20 : decode cX5_best 20 = .ok (.ireturn, 1) := by decide +kernel
theorem dX5_best_21 : decode cX5_best 21 = .ok (.aload_n 0, 1) := by decide +kernel
theorem dX5_best_22 : decode cX5_best 22 = .ok (.iload_n 1, 1) := by decide +kernel
theorem dX5_best_23 : decode cX5_best 23 = .ok (.invokevirtual 121, 3) := by decide +kernel
theorem dX5_best_26 : decode cX5_best 26 = .ok (.aload_n 0, 1) := by decide +kernel
theorem dX5_best_27 : decode cX5_best 27 = .ok (.iconst (-1), 1) := by decide +kernel
theorem dX5_best_28 : decode cX5_best 28 = .ok (.invokevirtual 125, 3) := by decide +kernel
theorem dX5_best_31 : decode cX5_best 31 = .ok (.ireturn, 1) := by decide +kernel
theorem dX5_weakest_0 : decode cX5_weakest 0 = .ok (.iconst (-1), 1) := by decide +kernel
theorem dX5_weakest_1 : decode cX5_weakest 1 = .ok (.istore_n 1, 1) := by decide +kernel
theorem dX5_weakest_2 : decode cX5_weakest 2 = .ok (.iconst 0, 1) := by decide +kernel
theorem dX5_weakest_3 : decode cX5_weakest 3 = .ok (.istore_n 2, 1) := by decide +kernel
theorem dX5_weakest_4 : decode cX5_weakest 4 = .ok (.iload_n 2, 1) := by decide +kernel
theorem dX5_weakest_5 : decode cX5_weakest 5 = .ok (.aload_n 0, 1) := by decide +kernel
theorem dX5_weakest_6 : decode cX5_weakest 6 = .ok (.getfield 45, 3) := by decide +kernel
theorem dX5_weakest_9 : decode cX5_weakest 9 = .ok (.if_icmp .ge 44, 3) := by decide +kernel
theorem dX5_weakest_12 : decode cX5_weakest 12 = .ok (.aload_n 0, 1) := by decide +kernel
theorem dX5_weakest_13 : decode cX5_weakest 13 = .ok (.getfield 19, 3) := by decide +kernel
theorem dX5_weakest_16 : decode cX5_weakest 16 = .ok (.iload_n 2, 1) := by decide +kernel
theorem dX5_weakest_17 : decode cX5_weakest 17 = .ok (.baload, 1) := by decide +kernel
theorem dX5_weakest_18 : decode cX5_weakest 18 = .ok (.ifCond .eq 27, 3) := by decide +kernel
theorem dX5_weakest_21 : decode cX5_weakest 21 = .ok (.iload_n 1, 1) := by decide +kernel
theorem dX5_weakest_22 : decode cX5_weakest 22 = .ok (.iconst (-1), 1) := by decide +kernel
theorem dX5_weakest_23 : decode cX5_weakest 23 = .ok (.if_icmp .eq 18, 3) := by decide +kernel
theorem dX5_weakest_26 : decode cX5_weakest 26 = .ok (.aload_n 0, 1) := by decide +kernel
theorem dX5_weakest_27 : decode cX5_weakest 27 = .ok (.getfield 35, 3) := by decide +kernel
theorem dX5_weakest_30 : decode cX5_weakest 30 = .ok (.iload_n 2, 1) := by decide +kernel
theorem dX5_weakest_31 : decode cX5_weakest 31 = .ok (.iaload, 1) := by decide +kernel
theorem dX5_weakest_32 : decode cX5_weakest 32 = .ok (.aload_n 0, 1) := by decide +kernel
theorem dX5_weakest_33 : decode cX5_weakest 33 = .ok (.getfield 35, 3) := by decide +kernel
theorem dX5_weakest_36 : decode cX5_weakest 36 = .ok (.iload_n 1, 1) := by decide +kernel
theorem dX5_weakest_37 : decode cX5_weakest 37 = .ok (.iaload, 1) := by decide +kernel
theorem dX5_weakest_38 : decode cX5_weakest 38 = .ok (.if_icmp .gt 7, 3) := by decide +kernel
theorem dX5_weakest_41 : decode cX5_weakest 41 = .ok (.iload_n 2, 1) := by decide +kernel
theorem dX5_weakest_42 : decode cX5_weakest 42 = .ok (.goto 4, 3) := by decide +kernel
theorem dX5_weakest_45 : decode cX5_weakest 45 = .ok (.iload_n 1, 1) := by decide +kernel
theorem dX5_weakest_46 : decode cX5_weakest 46 = .ok (.istore_n 1, 1) := by decide +kernel
theorem dX5_weakest_47 : decode cX5_weakest 47 = .ok (.iinc 2 1, 3) := by decide +kernel
theorem dX5_weakest_50 : decode cX5_weakest 50 = .ok (.goto (-46), 3) := by decide +kernel
theorem dX5_weakest_53 : decode cX5_weakest 53 = .ok (.iload_n 1, 1) := by decide +kernel
theorem dX5_weakest_54 : decode cX5_weakest 54 = .ok (.ireturn, 1) := by decide +kernel
theorem dX5_crosses_0 : decode cX5_crosses 0 = .ok (.aload_n 0, 1) := by decide +kernel
theorem dX5_crosses_1 : decode cX5_crosses 1 = .ok (.getfield 13, 3) := by decide +kernel
theorem dX5_crosses_4 : decode cX5_crosses 4 = .ok (.iload_n 1, 1) := by decide +kernel
theorem dX5_crosses_5 : decode cX5_crosses 5 = .ok (.iaload, 1) := by decide +kernel
theorem dX5_crosses_6 : decode cX5_crosses 6 = .ok (.iconst 1, 1) := by decide +kernel
theorem dX5_crosses_7 : decode cX5_crosses 7 = .ok (.iadd, 1) := by decide +kernel
theorem dX5_crosses_8 : decode cX5_crosses 8 = .ok (.iconst 2, 1) := by decide +kernel
theorem dX5_crosses_9 : decode cX5_crosses 9 = .ok (.idiv, 1) := by decide +kernel
theorem dX5_crosses_10 : decode cX5_crosses 10 = .ok (.istore_n 3, 1) := by decide +kernel
theorem dX5_crosses_11 : decode cX5_crosses 11 = .ok (.aload_n 0, 1) := by decide +kernel
theorem dX5_crosses_12 : decode cX5_crosses 12 = .ok (.getfield 13, 3) := by decide +kernel
theorem dX5_crosses_15 : decode cX5_crosses 15 = .ok (.iload_n 2, 1) := by decide +kernel
theorem dX5_crosses_16 : decode cX5_crosses 16 = .ok (.iaload, 1) := by decide +kernel
theorem dX5_crosses_17 : decode cX5_crosses 17 = .ok (.iconst 2, 1) := by decide +kernel
theorem dX5_crosses_18 : decode cX5_crosses 18 = .ok (.idiv, 1) := by decide +kernel
theorem dX5_crosses_19 : decode cX5_crosses 19 = .ok (.istore 4, 2) := by decide +kernel
theorem dX5_crosses_21 : decode cX5_crosses 21 = .ok (.iconst 0, 1) := by decide +kernel
theorem dX5_crosses_22 : decode cX5_crosses 22 = .ok (.istore 5, 2) := by decide +kernel
theorem dX5_crosses_24 : decode cX5_crosses 24 = .ok (.iload 5, 2) := by decide +kernel
theorem dX5_crosses_26 : decode cX5_crosses 26 = .ok (.iload_n 3, 1) := by decide +kernel
theorem dX5_crosses_27 : decode cX5_crosses 27 = .ok (.if_icmp .ge 36, 3) := by decide +kernel
theorem dX5_crosses_30 : decode cX5_crosses 30 = .ok (.aload_n 0, 1) := by decide +kernel
theorem dX5_crosses_31 : decode cX5_crosses 31 = .ok (.getfield 7, 3) := by decide +kernel
theorem dX5_crosses_34 : decode cX5_crosses 34 = .ok (.bipush 7, 2) := by decide +kernel
theorem dX5_crosses_36 : decode cX5_crosses 36 = .ok (.aload_n 0, 1) := by decide +kernel
theorem dX5_crosses_37 : decode cX5_crosses 37 = .ok (.getfield 45, 3) := by decide +kernel
theorem dX5_crosses_40 : decode cX5_crosses 40 = .ok (.imul, 1) := by decide +kernel
theorem dX5_crosses_41 : decode cX5_crosses 41 = .ok (.iload 5, 2) := by decide +kernel
theorem dX5_crosses_43 : decode cX5_crosses 43 = .ok (.iadd, 1) := by decide +kernel
theorem dX5_crosses_44 : decode cX5_crosses 44 = .ok (.aload_n 0, 1) := by decide +kernel
theorem dX5_crosses_45 : decode cX5_crosses 45 = .ok (.getfield 7, 3) := by decide +kernel
theorem dX5_crosses_48 : decode cX5_crosses 48 = .ok (.bipush 7, 2) := by decide +kernel
theorem dX5_crosses_50 : decode cX5_crosses 50 = .ok (.iload_n 1, 1) := by decide +kernel
theorem dX5_crosses_51 : decode cX5_crosses 51 = .ok (.imul, 1) := by decide +kernel
theorem dX5_crosses_52 : decode cX5_crosses 52 = .ok (.iload 5, 2) := by decide +kernel
theorem dX5_crosses_54 : decode cX5_crosses 54 = .ok (.iadd, 1) := by decide +kernel
theorem dX5_crosses_55 : decode cX5_crosses 55 = .ok (.iaload, 1) := by decide +kernel
theorem dX5_crosses_56 : decode cX5_crosses 56 = .ok (.iastore, 1) := by decide +kernel
theorem dX5_crosses_57 : decode cX5_crosses 57 = .ok (.iinc 5 1, 3) := by decide +kernel
theorem dX5_crosses_60 : decode cX5_crosses 60 = .ok (.goto (-36), 3) := by decide +kernel
theorem dX5_crosses_63 : decode cX5_crosses 63 = .ok (.iconst 0, 1) := by decide +kernel
theorem dX5_crosses_64 : decode cX5_crosses 64 = .ok (.istore 5, 2) := by decide +kernel
theorem dX5_crosses_66 : decode cX5_crosses 66 = .ok (.iload 5, 2) := by decide +kernel
theorem dX5_crosses_68 : decode cX5_crosses 68 = .ok (.iload 4, 2) := by decide +kernel
theorem dX5_crosses_70 : decode cX5_crosses 70 = .ok (.if_icmp .ge 48, 3) := by decide +kernel
theorem dX5_crosses_73 : decode cX5_crosses 73 = .ok (.aload_n 0, 1) := by decide +kernel
theorem dX5_crosses_74 : decode cX5_crosses 74 = .ok (.getfield 7, 3) := by decide +kernel
theorem dX5_crosses_77 : decode cX5_crosses 77 = .ok (.bipush 7, 2) := by decide +kernel
theorem dX5_crosses_79 : decode cX5_crosses 79 = .ok (.aload_n 0, 1) := by decide +kernel
theorem dX5_crosses_80 : decode cX5_crosses 80 = .ok (.getfield 45, 3) := by decide +kernel
theorem dX5_crosses_83 : decode cX5_crosses 83 = .ok (.imul, 1) := by decide +kernel
theorem dX5_crosses_84 : decode cX5_crosses 84 = .ok (.iload_n 3, 1) := by decide +kernel
theorem dX5_crosses_85 : decode cX5_crosses 85 = .ok (.iadd, 1) := by decide +kernel
theorem dX5_crosses_86 : decode cX5_crosses 86 = .ok (.iload 5, 2) := by decide +kernel
theorem dX5_crosses_88 : decode cX5_crosses 88 = .ok (.iadd, 1) := by decide +kernel
theorem dX5_crosses_89 : decode cX5_crosses 89 = .ok (.aload_n 0, 1) := by decide +kernel
theorem dX5_crosses_90 : decode cX5_crosses 90 = .ok (.getfield 7, 3) := by decide +kernel
theorem dX5_crosses_93 : decode cX5_crosses 93 = .ok (.bipush 7, 2) := by decide +kernel
theorem dX5_crosses_95 : decode cX5_crosses 95 = .ok (.iload_n 2, 1) := by decide +kernel
theorem dX5_crosses_96 : decode cX5_crosses 96 = .ok (.imul, 1) := by decide +kernel
theorem dX5_crosses_97 : decode cX5_crosses 97 = .ok (.aload_n 0, 1) := by decide +kernel
theorem dX5_crosses_98 : decode cX5_crosses 98 = .ok (.getfield 13, 3) := by decide +kernel
theorem dX5_crosses_101 : decode cX5_crosses 101 = .ok (.iload_n 2, 1) := by decide +kernel
theorem dX5_crosses_102 : decode cX5_crosses 102 = .ok (.iaload, 1) := by decide +kernel
theorem dX5_crosses_103 : decode cX5_crosses 103 = .ok (.iadd, 1) := by decide +kernel
theorem dX5_crosses_104 : decode cX5_crosses 104 = .ok (.iload 4, 2) := by decide +kernel
theorem dX5_crosses_106 : decode cX5_crosses 106 = .ok (.isub, 1) := by decide +kernel
theorem dX5_crosses_107 : decode cX5_crosses 107 = .ok (.iload 5, 2) := by decide +kernel
theorem dX5_crosses_109 : decode cX5_crosses 109 = .ok (.iadd, 1) := by decide +kernel
theorem dX5_crosses_110 : decode cX5_crosses 110 = .ok (.iaload, 1) := by decide +kernel
theorem dX5_crosses_111 : decode cX5_crosses 111 = .ok (.iastore, 1) := by decide +kernel
theorem dX5_crosses_112 : decode cX5_crosses 112 = .ok (.iinc 5 1, 3) := by decide +kernel
theorem dX5_crosses_115 : decode cX5_crosses 115 = .ok (.goto (-49), 3) := by decide +kernel
theorem dX5_crosses_118 : decode cX5_crosses 118 = .ok (.aload_n 0, 1) := by decide +kernel
theorem dX5_crosses_119 : decode cX5_crosses 119 = .ok (.getfield 13, 3) := by decide +kernel
theorem dX5_crosses_122 : decode cX5_crosses 122 = .ok (.aload_n 0, 1) := by decide +kernel
theorem dX5_crosses_123 : decode cX5_crosses 123 = .ok (.getfield 45, 3) := by decide +kernel
theorem dX5_crosses_126 : decode cX5_crosses 126 = .ok (.iload_n 3, 1) := by decide +kernel
theorem dX5_crosses_127 : decode cX5_crosses 127 = .ok (.iload 4, 2) := by decide +kernel
theorem dX5_crosses_129 : decode cX5_crosses 129 = .ok (.iadd, 1) := by decide +kernel
theorem dX5_crosses_130 : decode cX5_crosses 130 = .ok (.iastore, 1) := by decide +kernel
theorem dX5_crosses_131 : decode cX5_crosses 131 = .ok (.return_, 1) := by decide +kernel
theorem dX5_evolve_0 : decode cX5_evolve 0 = .ok (.aload_n 0, 1) := by decide +kernel
theorem dX5_evolve_1 : decode cX5_evolve 1 = .ok (.iload_n 1, 1) := by decide +kernel
theorem dX5_evolve_2 : decode cX5_evolve 2 = .ok (.invokestatic 108, 3) := by decide +kernel
theorem dX5_evolve_5 : decode cX5_evolve 5 = .ok (.ifCond .ne 7, 3) := by decide +kernel
theorem dX5_evolve_8 : decode cX5_evolve 8 = .ok (.iconst 1, 1) := by decide +kernel
theorem dX5_evolve_9 : decode cX5_evolve 9 = .ok (.goto 25, 3) := by decide +kernel
theorem dX5_evolve_12 : decode cX5_evolve 12 = .ok (.aload_n 0, 1) := by decide +kernel
theorem dX5_evolve_13 : decode cX5_evolve 13 = .ok (.invokevirtual 101, 3) := by decide +kernel
theorem dX5_evolve_16 : decode cX5_evolve 16 = .ok (.iconst 3, 1) := by decide +kernel
theorem dX5_evolve_17 : decode cX5_evolve 17 = .ok (.if_icmp .lt 12, 3) := by decide +kernel
theorem dX5_evolve_20 : decode cX5_evolve 20 = .ok (.aload_n 0, 1) := by decide +kernel
theorem dX5_evolve_21 : decode cX5_evolve 21 = .ok (.getfield 45, 3) := by decide +kernel
theorem dX5_evolve_24 : decode cX5_evolve 24 = .ok (.bipush 20, 2) := by decide +kernel
theorem dX5_evolve_26 : decode cX5_evolve 26 = .ok (.if_icmp .ne 7, 3) := by decide +kernel
theorem dX5_evolve_29 : decode cX5_evolve 29 = .ok (.iconst 2, 1) := by decide +kernel
theorem dX5_evolve_30 : decode cX5_evolve 30 = .ok (.goto 4, 3) := by decide +kernel
theorem dX5_evolve_33 : decode cX5_evolve 33 = .ok (.iconst 0, 1) := by decide +kernel
theorem dX5_evolve_34 : decode cX5_evolve 34 = .ok (.invokevirtual 77, 3) := by decide +kernel
theorem dX5_evolve_37 : decode cX5_evolve 37 = .ok (.ifCond .ne 5, 3) := by decide +kernel
theorem dX5_evolve_40 : decode cX5_evolve 40 = .ok (.iconst 0, 1) := by decide +kernel
theorem dX5_evolve_41 : decode cX5_evolve 41 = .ok (.ireturn, 1) := by decide +kernel
theorem dX5_evolve_42 : decode cX5_evolve 42 = .ok (.aload_n 0, 1) := by decide +kernel
theorem dX5_evolve_43 : decode cX5_evolve 43 = .ok (.iload_n 1, 1) := by decide +kernel
theorem dX5_evolve_44 : decode cX5_evolve 44 = .ok (.invokevirtual 121, 3) := by decide +kernel
theorem dX5_evolve_47 : decode cX5_evolve 47 = .ok (.aload_n 0, 1) := by decide +kernel
theorem dX5_evolve_48 : decode cX5_evolve 48 = .ok (.getfield 19, 3) := by decide +kernel
theorem dX5_evolve_51 : decode cX5_evolve 51 = .ok (.aload_n 0, 1) := by decide +kernel
theorem dX5_evolve_52 : decode cX5_evolve 52 = .ok (.invokevirtual 128, 3) := by decide +kernel
theorem dX5_evolve_55 : decode cX5_evolve 55 = .ok (.iconst 0, 1) := by decide +kernel
theorem dX5_evolve_56 : decode cX5_evolve 56 = .ok (.bastore, 1) := by decide +kernel
theorem dX5_evolve_57 : decode cX5_evolve 57 = .ok (.aload_n 0, 1) := by decide +kernel
theorem dX5_evolve_58 : decode cX5_evolve 58 = .ok (.iconst (-1), 1) := by decide +kernel
theorem dX5_evolve_59 : decode cX5_evolve 59 = .ok (.invokevirtual 125, 3) := by decide +kernel
theorem dX5_evolve_62 : decode cX5_evolve 62 = .ok (.istore_n 2, 1) := by decide +kernel
theorem dX5_evolve_63 : decode cX5_evolve 63 = .ok (.aload_n 0, 1) := by decide +kernel
theorem dX5_evolve_64 : decode cX5_evolve 64 = .ok (.iload_n 2, 1) := by decide +kernel
theorem dX5_evolve_65 : decode cX5_evolve 65 = .ok (.invokevirtual 125, 3) := by decide +kernel
theorem dX5_evolve_68 : decode cX5_evolve 68 = .ok (.istore_n 3, 1) := by decide +kernel
theorem dX5_evolve_69 : decode cX5_evolve 69 = .ok (.aload_n 0, 1) := by decide +kernel
theorem dX5_evolve_70 : decode cX5_evolve 70 = .ok (.iload_n 2, 1) := by decide +kernel
theorem dX5_evolve_71 : decode cX5_evolve 71 = .ok (.iload_n 3, 1) := by decide +kernel
theorem dX5_evolve_72 : decode cX5_evolve 72 = .ok (.invokevirtual 131, 3) := by decide +kernel
theorem dX5_evolve_75 : decode cX5_evolve 75 = .ok (.aload_n 0, 1) := by decide +kernel
theorem dX5_evolve_76 : decode cX5_evolve 76 = .ok (.aload_n 0, 1) := by decide +kernel
theorem dX5_evolve_77 : decode cX5_evolve 77 = .ok (.getfield 45, 3) := by decide +kernel
theorem dX5_evolve_80 : decode cX5_evolve 80 = .ok (.invokevirtual 80, 3) := by decide +kernel
theorem dX5_evolve_83 : decode cX5_evolve 83 = .ok (.istore 4, 2) := by decide +kernel
theorem dX5_evolve_85 : decode cX5_evolve 85 = .ok (.aload_n 0, 1) := by decide +kernel
theorem dX5_evolve_86 : decode cX5_evolve 86 = .ok (.aload_n 0, 1) := by decide +kernel
theorem dX5_evolve_87 : decode cX5_evolve 87 = .ok (.getfield 45, 3) := by decide +kernel
theorem dX5_evolve_90 : decode cX5_evolve 90 = .ok (.iconst 0, 1) := by decide +kernel
theorem dX5_evolve_91 : decode cX5_evolve 91 = .ok (.invokevirtual 63, 3) := by decide +kernel
theorem dX5_evolve_94 : decode cX5_evolve 94 = .ok (.ifCond .eq 34, 3) := by decide +kernel
theorem dX5_evolve_97 : decode cX5_evolve 97 = .ok (.aload_n 0, 1) := by decide +kernel
theorem dX5_evolve_98 : decode cX5_evolve 98 = .ok (.aload_n 0, 1) := by decide +kernel
theorem dX5_evolve_99 : decode cX5_evolve 99 = .ok (.getfield 45, 3) := by decide +kernel
theorem dX5_evolve_102 : decode cX5_evolve 102 = .ok (.invokevirtual 98, 3) := by decide +kernel
theorem dX5_evolve_105 : decode cX5_evolve 105 = .ok (.ifCond .ne 23, 3) := by decide +kernel
theorem dX5_evolve_108 : decode cX5_evolve 108 = .ok (.iload 4, 2) := by decide +kernel
theorem dX5_evolve_110 : decode cX5_evolve 110 = .ok (.iconst (-1), 1) := by decide +kernel
theorem dX5_evolve_111 : decode cX5_evolve 111 = .ok (.if_icmp .eq 13, 3) := by decide +kernel
theorem dX5_evolve_114 : decode cX5_evolve 114 = .ok (.aload_n 0, 1) := by decide +kernel
theorem dX5_evolve_115 : decode cX5_evolve 115 = .ok (.getfield 19, 3) := by decide +kernel
theorem dX5_evolve_118 : decode cX5_evolve 118 = .ok (.iload 4, 2) := by decide +kernel
theorem dX5_evolve_120 : decode cX5_evolve 120 = .ok (.baload, 1) := by decide +kernel
theorem dX5_evolve_121 : decode cX5_evolve 121 = .ok (.ifCond .ne 7, 3) := by decide +kernel
theorem dX5_evolve_124 : decode cX5_evolve 124 = .ok (.iconst 1, 1) := by decide +kernel
theorem dX5_evolve_125 : decode cX5_evolve 125 = .ok (.goto 4, 3) := by decide +kernel
theorem dX5_evolve_128 : decode cX5_evolve 128 = .ok (.iconst 0, 1) := by decide +kernel
theorem dX5_evolve_129 : decode cX5_evolve 129 = .ok (.istore 5, 2) := by decide +kernel
theorem dX5_evolve_131 : decode cX5_evolve 131 = .ok (.iload 5, 2) := by decide +kernel
theorem dX5_evolve_133 : decode cX5_evolve 133 = .ok (.ifCond .ne 5, 3) := by decide +kernel
theorem dX5_evolve_136 : decode cX5_evolve 136 = .ok (.iconst (-1), 1) := by decide +kernel
theorem dX5_evolve_137 : decode cX5_evolve 137 = .ok (.ireturn, 1) := by decide +kernel
theorem dX5_evolve_138 : decode cX5_evolve 138 = .ok (.iload 4, 2) := by decide +kernel
theorem dX5_evolve_140 : decode cX5_evolve 140 = .ok (.iconst (-1), 1) := by decide +kernel
theorem dX5_evolve_141 : decode cX5_evolve 141 = .ok (.if_icmp .ne 19, 3) := by decide +kernel
theorem dX5_evolve_144 : decode cX5_evolve 144 = .ok (.aload_n 0, 1) := by decide +kernel
theorem dX5_evolve_145 : decode cX5_evolve 145 = .ok (.getfield 45, 3) := by decide +kernel
theorem dX5_evolve_148 : decode cX5_evolve 148 = .ok (.istore 4, 2) := by decide +kernel
theorem dX5_evolve_150 : decode cX5_evolve 150 = .ok (.aload_n 0, 1) := by decide +kernel
theorem dX5_evolve_151 : decode cX5_evolve 151 = .ok (.aload_n 0, 1) := by decide +kernel
theorem dX5_evolve_152 : decode cX5_evolve 152 = .ok (.getfield 45, 3) := by decide +kernel
theorem dX5_evolve_155 : decode cX5_evolve 155 = .ok (.iload_n 2, 1) := by decide +kernel
theorem dX5_evolve_156 : decode cX5_evolve 156 = .ok (.iload_n 3, 1) := by decide +kernel
theorem dX5_evolve_157 : decode cX5_evolve 157 = .ok (.invokevirtual 84, 3) := by decide +kernel
theorem dX5_evolve_160 : decode cX5_evolve 160 = .ok (.aload_n 0, 1) := by decide +kernel
theorem dX5_evolve_161 : decode cX5_evolve 161 = .ok (.getfield 19, 3) := by decide +kernel
theorem dX5_evolve_164 : decode cX5_evolve 164 = .ok (.iload 4, 2) := by decide +kernel
theorem dX5_evolve_166 : decode cX5_evolve 166 = .ok (.iconst 1, 1) := by decide +kernel
theorem dX5_evolve_167 : decode cX5_evolve 167 = .ok (.bastore, 1) := by decide +kernel
theorem dX5_evolve_168 : decode cX5_evolve 168 = .ok (.iload 4, 2) := by decide +kernel
theorem dX5_evolve_170 : decode cX5_evolve 170 = .ok (.ireturn, 1) := by decide +kernel
