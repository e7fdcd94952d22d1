theorem dX4_init_0 : decode cX4_init 0 = .ok (.aload_n 0, 1) := by decide +kernel
theorem dX4_init_1 : decode cX4_init 1 = .ok (.invokespecial 1, 3) := by decide +kernel
theorem dX4_init_4 : decode cX4_init 4 = .ok (.aload_n 0, 1) := by decide +kernel
theorem dX4_init_5 : decode cX4_init 5 = .ok (.new 7, 3) := by decide +kernel
theorem dX4_init_8 : decode cX4_init 8 = .ok (.dup, 1) := by decide +kernel
theorem dX4_init_9 : decode cX4_init 9 = .ok (.invokespecial 9, 3) := by decide +kernel
theorem dX4_init_12 : decode cX4_init 12 = .ok (.putfield 10, 3) := by decide +kernel
theorem dX4_init_15 : decode cX4_init 15 = .ok (.aload_n 0, 1) := by decide +kernel
theorem dX4_init_16 : decode cX4_init 16 = .ok (.new 7, 3) := by decide +kernel
theorem dX4_init_19 : decode cX4_init 19 = .ok (.dup, 1) := by decide +kernel
theorem dX4_init_20 : decode cX4_init 20 = .ok (.invokespecial 9, 3) := by decide +kernel
theorem dX4_init_23 : decode cX4_init 23 = .ok (.putfield 16, 3) := by decide +kernel
theorem dX4_init_26 : decode cX4_init 26 = .ok (.aload_n 0, 1) := by decide +kernel
theorem dX4_init_27 : decode cX4_init 27 = .ok (.new 19, 3) := by decide +kernel
theorem dX4_init_30 : decode cX4_init 30 = .ok (.dup, 1) := by decide +kernel
theorem dX4_init_31 : decode cX4_init 31 = .ok (.invokespecial 21, 3) := by decide +kernel
theorem dX4_init_34 : decode cX4_init 34 = .ok (.putfield 22, 3) := by decide +kernel
theorem dX4_init_37 : decode cX4_init 37 = .ok (.aload_n 0, 1) := by decide +kernel
theorem dX4_init_38 : decode cX4_init 38 = .ok (.new 26, 3) := by decide +kernel
theorem dX4_init_41 : decode cX4_init 41 = .ok (.dup, 1) := by decide +kernel
theorem dX4_init_42 : decode cX4_init 42 = .ok (.invokespecial 28, 3) := by decide +kernel
theorem dX4_init_45 : decode cX4_init 45 = .ok (.putfield 29, 3) := by decide +kernel
theorem dX4_init_48 : decode cX4_init 48 = .ok (.aload_n 0, 1) := by decide +kernel
theorem dX4_init_49 : decode cX4_init 49 = .ok (.iconst 0, 1) := by decide +kernel
theorem dX4_init_50 : decode cX4_init 50 = .ok (.putfield 33, 3) := by decide +kernel
theorem dX4_init_53 : decode cX4_init 53 = .ok (.aload_n 0, 1) := by decide +kernel
theorem dX4_init_54 : decode cX4_init 54 = .ok (.new 37, 3) := by decide +kernel
theorem dX4_init_57 : decode cX4_init 57 = .ok (.dup, 1) := by decide +kernel
theorem dX4_init_58 : decode cX4_init 58 = .ok (.bipush 6, 2) := by decide +kernel
theorem dX4_init_60 : decode cX4_init 60 = .ok (.invokespecial 39, 3) := by decide +kernel
theorem dX4_init_63 : decode cX4_init 63 = .ok (.putfield 42, 3) := by decide +kernel
theorem dX4_init_66 : decode cX4_init 66 = .ok (.aload_n 0, 1) := by decide +kernel
theorem dX4_init_67 : decode cX4_init 67 = .ok (.new 37, 3) := by decide +kernel
theorem dX4_init_70 : decode cX4_init 70 = .ok (.dup, 1) := by decide +kernel
theorem dX4_init_71 : decode cX4_init 71 = .ok (.bipush 6, 2) := by decide +kernel
theorem dX4_init_73 : decode cX4_init 73 = .ok (.invokespecial 39, 3) := by decide +kernel
theorem dX4_init_76 : decode cX4_init 76 = .ok (.putfield 46, 3) := by decide +kernel
theorem dX4_init_79 : decode cX4_init 79 = .ok (.aload_n 0, 1) := by decide +kernel
theorem dX4_init_80 : decode cX4_init 80 = .ok (.iconst 0, 1) := by decide +kernel
theorem dX4_init_81 : decode cX4_init 81 = .ok (.putfield 49, 3) := by decide +kernel
theorem dX4_init_84 : decode cX4_init 84 = .ok (.aload_n 0, 1) := by decide +kernel
theorem dX4_init_85 : decode cX4_init 85 = .ok (.new 37, 3) := by decide +kernel
theorem dX4_init_88 : decode cX4_init 88 = .ok (.dup, 1) := by decide +kernel
theorem dX4_init_89 : decode cX4_init 89 = .ok (.bipush 20, 2) := by decide +kernel
theorem dX4_init_91 : decode cX4_init 91 = .ok (.invokespecial 39, 3) := by decide +kernel
theorem dX4_init_94 : decode cX4_init 94 = .ok (.putfield 52, 3) := by decide +kernel
theorem dX4_init_97 : decode cX4_init 97 = .ok (.aload_n 0, 1) := by decide +kernel
theorem dX4_init_98 : decode cX4_init 98 = .ok (.new 37, 3) := by decide +kernel
theorem dX4_init_101 : decode cX4_init 101 = .ok (.dup, 1) := by decide +kernel
theorem dX4_init_102 : decode cX4_init 102 = .ok (.bipush 20, 2) := by decide +kernel
theorem dX4_init_104 : decode cX4_init 104 = .ok (.invokespecial 39, 3) := by decide +kernel
theorem dX4_init_107 : decode cX4_init 107 = .ok (.putfield 55, 3) := by decide +kernel
theorem dX4_init_110 : decode cX4_init 110 = .ok (.aload_n 0, 1) := by decide +kernel
theorem dX4_init_111 : decode cX4_init 111 = .ok (.new 37, 3) := by decide +kernel
theorem dX4_init_114 : decode cX4_init 114 = .ok (.dup, 1) := by decide +kernel
theorem dX4_init_115 : decode cX4_init 115 = .ok (.bipush 20, 2) := by decide +kernel
theorem dX4_init_117 : decode cX4_init 117 = .ok (.invokespecial 39, 3) := by decide +kernel
theorem dX4_init_120 : decode cX4_init 120 = .ok (.putfield 58, 3) := by decide +kernel
theorem dX4_init_123 : decode cX4_init 123 = .ok (.return_, 1) := by decide +kernel
theorem dX4_step_0 : decode cX4_step 0 = .ok (.iload_n 1, 1) := by decide +kernel
theorem dX4_step_1 : decode cX4_step 1 = .ok (.invokestatic 61, 3) := by decide +kernel
theorem dX4_step_4 : decode cX4_step 4 = .ok (.aload_n 0, 1) := by decide +kernel
theorem dX4_step_5 : decode cX4_step 5 = .ok (.getfield 10, 3) := by decide +kernel
theorem dX4_step_8 : decode cX4_step 8 = .ok (.invokevirtual 64, 3) := by decide +kernel
theorem dX4_step_11 : decode cX4_step 11 = .ok (.ifCond .eq 13, 3) := by decide +kernel
theorem dX4_step_14 : decode cX4_step 14 = .ok (.new 68, 3) := by decide +kernel
theorem dX4_step_17 : decode cX4_step 17 = .ok (.dup, 1) := by decide +kernel
theorem dX4_step_18 : decode cX4_step 18 = .ok (.ldc 70, 2) := by decide +kernel
theorem dX4_step_20 : decode cX4_step 20 = .ok (.invokespecial 72, 3) := by decide +kernel
theorem dX4_step_23 : decode cX4_step 23 = .ok (.athrow, 1) := by decide +kernel
theorem dX4_step_24 : decode cX4_step 24 = .ok (.aload_n 0, 1) := by decide +kernel
theorem dX4_step_25 : decode cX4_step 25 = .ok (.getfield 10, 3) := by decide +kernel
theorem dX4_step_28 : decode cX4_step 28 = .ok (.iload_n 1, 1) := by decide +kernel
theorem dX4_step_29 : decode cX4_step 29 = .ok (.invokevirtual 75, 3) := by decide +kernel
theorem dX4_step_32 : decode cX4_step 32 = .ok (.aload_n 0, 1) := by decide +kernel
theorem dX4_step_33 : decode cX4_step 33 = .ok (.getfield 10, 3) := by decide +kernel
theorem dX4_step_36 : decode cX4_step 36 = .ok (.invokevirtual 78, 3) := by decide +kernel
theorem dX4_step_39 : decode cX4_step 39 = .ok (.ireturn, 1) := by decide +kernel
theorem dX4_scrap_0 : decode cX4_scrap 0 = .ok (.aload_n 0, 1) := by decide +kernel
theorem dX4_scrap_1 : decode cX4_scrap 1 = .ok (.getfield 10, 3) := by decide +kernel
theorem dX4_scrap_4 : decode cX4_scrap 4 = .ok (.invokevirtual 78, 3) := by decide +kernel
theorem dX4_scrap_7 : decode cX4_scrap 7 = .ok (.istore_n 1, 1) := by decide +kernel
theorem dX4_scrap_8 : decode cX4_scrap 8 = .ok (.aload_n 0, 1) := by decide +kernel
theorem dX4_scrap_9 : decode cX4_scrap 9 = .ok (.getfield 10, 3) := by decide +kernel
theorem dX4_scrap_12 : decode cX4_scrap 12 = .ok (.invokevirtual 82, 3) := by decide +kernel
theorem dX4_scrap_15 : decode cX4_scrap 15 = .ok (.iload_n 1, 1) := by decide +kernel
theorem dX4_scrap_16 : decode cX4_scrap 16 = .ok (.ireturn, 1) := by decide +kernel
theorem dX4_store_0 : decode cX4_store 0 = .ok (.aload_n 0, 1) := by decide +kernel
theorem dX4_store_1 : decode cX4_store 1 = .ok (.getfield 10, 3) := by decide +kernel
theorem dX4_store_4 : decode cX4_store 4 = .ok (.invokevirtual 85, 3) := by decide +kernel
theorem dX4_store_7 : decode cX4_store 7 = .ok (.ifCond .ne 13, 3) := by decide +kernel
theorem dX4_store_10 : decode cX4_store 10 = .ok (.new 68, 3) := by decide +kernel
theorem dX4_store_13 : decode cX4_store 13 = .ok (.dup, 1) := by decide +kernel
theorem dX4_store_14 : decode cX4_store 14 = .ok (.ldc 88, 2) := by decide +kernel
theorem dX4_store_16 : decode cX4_store 16 = .ok (.invokespecial 72, 3) := by decide +kernel
theorem dX4_store_19 : decode cX4_store 19 = .ok (.athrow, 1) := by decide +kernel
theorem dX4_store_20 : decode cX4_store 20 = .ok (.aload_n 0, 1) := by decide +kernel
theorem dX4_store_21 : decode cX4_store 21 = .ok (.aload_n 0, 1) := by decide +kernel
theorem dX4_store_22 : decode cX4_store 22 = .ok (.getfield 10, 3) := by decide +kernel
theorem dX4_store_25 : decode cX4_store 25 = .ok (.invokevirtual 90, 3) := by decide +kernel
theorem dX4_store_28 : decode cX4_store 28 = .ok (.istore_n 1, 1) := by decide +kernel
theorem dX4_store_29 : decode cX4_store 29 = .ok (.iload_n 1, 1) := by decide +kernel
theorem dX4_store_30 : decode cX4_store 30 = .ok (.iconst (-1), 1) := by decide +kernel
theorem dX4_store_31 : decode cX4_store 31 = .ok (.if_icmp .ne 36, 3) := by decide +kernel
theorem dX4_store_34 : decode cX4_store 34 = .ok (.aload_n 0, 1) := by decide +kernel
theorem dX4_store_35 : decode cX4_store 35 = .ok (.getfield 29, 3) := by decide +kernel
theorem dX4_store_38 : decode cX4_store 38 = .ok (.invokevirtual 94, 3) := by decide +kernel
theorem dX4_store_41 : decode cX4_store 41 = .ok (.bipush 20, 2) := by decide +kernel
theorem dX4_store_43 : decode cX4_store 43 = .ok (.if_icmp .lt 13, 3) := by decide +kernel
theorem dX4_store_46 : decode cX4_store 46 = .ok (.new 68, 3) := by decide +kernel
theorem dX4_store_49 : decode cX4_store 49 = .ok (.dup, 1) := by decide +kernel
theorem dX4_store_50 : decode cX4_store 50 = .ok (.ldc 97, 2) := by decide +kernel
theorem dX4_store_52 : decode cX4_store 52 = .ok (.invokespecial 72, 3) := by decide +kernel
theorem dX4_store_55 : decode cX4_store 55 = .ok (.athrow, 1) := by decide +kernel
theorem dX4_store_56 : decode cX4_store 56 = .ok (.aload_n 0, 1) := by decide +kernel
theorem dX4_store_57 : decode cX4_store 57 = .ok (.aload_n 0, 1) := by decide +kernel
theorem dX4_store_58 : decode cX4_store 58 = .ok (.getfield 10, 3) := by decide +kernel
theorem dX4_store_61 : decode cX4_store 61 = .ok (.iconst (-1), 1) := by decide +kernel
theorem dX4_store_62 : decode cX4_store 62 = .ok (.iconst (-1), 1) := by decide +kernel
theorem dX4_store_63 : decode cX4_store 63 = .ok (.invokevirtual 99, 3) := by decide +kernel
theorem dX4_store_66 : decode cX4_store 66 = .ok (.istore_n 1, 1) := by decide +kernel
theorem dX4_store_67 : decode cX4_store 67 = .ok (.aload_n 0, 1) := by decide +kernel
theorem dX4_store_68 : decode cX4_store 68 = .ok (.getfield 10, 3) := by decide +kernel
theorem dX4_store_71 : decode cX4_store 71 = .ok (.invokevirtual 82, 3) := by decide +kernel
theorem dX4_store_74 : decode cX4_store 74 = .ok (.iload_n 1, 1) := by decide +kernel
theorem dX4_store_75 : decode cX4_store 75 = .ok (.ireturn, 1) := by decide +kernel
theorem dX4_stored_0 : decode cX4_stored 0 = .ok (.aload_n 0, 1) := by decide +kernel
theorem dX4_stored_1 : decode cX4_stored 1 = .ok (.getfield 29, 3) := by decide +kernel
theorem dX4_stored_4 : decode cX4_stored 4 = .ok (.invokevirtual 94, 3) := by decide +kernel
theorem dX4_stored_7 : decode cX4_stored 7 = .ok (.ireturn, 1) := by decide +kernel
theorem dX4_bid_0 : decode cX4_bid 0 = .ok (.aload_n 0, 1) := by decide +kernel
theorem dX4_bid_1 : decode cX4_bid 1 = .ok (.iload_n 1, 1) := by decide +kernel
theorem dX4_bid_2 : decode cX4_bid 2 = .ok (.invokevirtual 103, 3) := by decide +kernel
theorem dX4_bid_5 : decode cX4_bid 5 = .ok (.astore_n 3, 1) := by decide +kernel
theorem dX4_bid_6 : decode cX4_bid 6 = .ok (.iload_n 2, 1) := by decide +kernel
theorem dX4_bid_7 : decode cX4_bid 7 = .ok (.invokestatic 107, 3) := by decide +kernel
theorem dX4_bid_10 : decode cX4_bid 10 = .ok (.aload_n 3, 1) := by decide +kernel
theorem dX4_bid_11 : decode cX4_bid 11 = .ok (.iload_n 2, 1) := by decide +kernel
theorem dX4_bid_12 : decode cX4_bid 12 = .ok (.invokevirtual 110, 3) := by decide +kernel
theorem dX4_bid_15 : decode cX4_bid 15 = .ok (.ireturn, 1) := by decide +kernel
theorem dX4_alike_0 : decode cX4_alike 0 = .ok (.aload_n 0, 1) := by decide +kernel
theorem dX4_alike_1 : decode cX4_alike 1 = .ok (.iload_n 1, 1) := by decide +kernel
theorem dX4_alike_2 : decode cX4_alike 2 = .ok (.invokevirtual 103, 3) := by decide +kernel
theorem dX4_alike_5 : decode cX4_alike 5 = .ok (.getfield 116, 3) := by decide +kernel
theorem dX4_alike_8 : decode cX4_alike 8 = .ok (.istore_n 2, 1) := by decide +kernel
theorem dX4_alike_9 : decode cX4_alike 9 = .ok (.iconst 0, 1) := by decide +kernel
theorem dX4_alike_10 : decode cX4_alike 10 = .ok (.istore_n 3, 1) := by decide +kernel
theorem dX4_alike_11 : decode cX4_alike 11 = .ok (.iconst 0, 1) := by decide +kernel
theorem dX4_alike_12 : decode cX4_alike 12 = .ok (.istore 4, 2) := by decide +kernel
theorem dX4_alike_14 : decode cX4_alike 14 = .ok (.iload 4, 2) := by decide +kernel
theorem dX4_alike_16 : decode cX4_alike 16 = .ok (.aload_n 0, 1) := by decide +kernel
theorem dX4_alike_17 : decode cX4_alike 17 = .ok (.getfield 29, 3) := by decide +kernel
theorem dX4_alike_20 : decode cX4_alike 20 = .ok (.invokevirtual 94, 3) := by decide +kernel
theorem dX4_alike_23 : decode cX4_alike 23 = .ok (.if_icmp .ge 31, 3) := by decide +kernel
theorem dX4_alike_26 : decode cX4_alike 26 = .ok (.aload_n 0, 1) := by decide +kernel
theorem dX4_alike_27 : decode cX4_alike 27 = .ok (.getfield 29, 3) := by decide +kernel
theorem dX4_alike_30 : decode cX4_alike 30 = .ok (.iload 4, 2) := by decide +kernel
theorem dX4_alike_32 : decode cX4_alike 32 = .ok (.invokevirtual 119, 3) := by decide +kernel
theorem dX4_alike_35 : decode cX4_alike 35 = .ok (.checkcast 111, 3) := by decide +kernel
theorem dX4_alike_38 : decode cX4_alike 38 = .ok (.getfield 116, 3) := by decide +kernel
theorem dX4_alike_41 : decode cX4_alike 41 = .ok (.iload_n 2, 1) := by decide +kernel
theorem dX4_alike_42 : decode cX4_alike 42 = .ok (.if_icmp .ne 6, 3) := by decide +kernel
theorem dX4_alike_45 : decode cX4_alike 45 = .ok (.iinc 3 1, 3) := by decide +kernel
theorem dX4_alike_48 : decode cX4_alike 48 = .ok (.iinc 4 1, 3) := by decide +kernel
theorem dX4_alike_51 : decode cX4_alike 51 = .ok (.goto (-37), 3) := by decide +kernel
theorem dX4_alike_54 : decode cX4_alike 54 = .ok (.iload_n 3, 1) := by decide +kernel
theorem dX4_alike_55 : decode cX4_alike 55 = .ok (.ireturn, 1) := by decide +kernel
theorem dX4_parent_0 : decode cX4_parent 0 = .ok (.aload_n 0, 1) := by decide +kernel
theorem dX4_parent_1 : decode cX4_parent 1 = .ok (.iload_n 1, 1) := by decide +kernel
theorem dX4_parent_2 : decode cX4_parent 2 = .ok (.invokevirtual 103, 3) := by decide +kernel
theorem dX4_parent_5 : decode cX4_parent 5 = .ok (.astore_n 3, 1) := by decide +kernel
theorem dX4_parent_6 : decode cX4_parent 6 = .ok (.iload_n 2, 1) := by decide +kernel
theorem dX4_parent_7 : decode cX4_parent 7 = .ok (.ifCond .eq 10, 3) := by decide +kernel
theorem dX4_parent_10 : decode cX4_parent 10 = .ok (.aload_n 3, 1) := by decide +kernel
theorem dX4_parent_11 : decode cX4_parent 11 = .ok (.getfield 123, 3) := by decide +kernel
theorem dX4_parent_14 : decode cX4_parent 14 = .ok (.goto 7, 3) := by decide +kernel
theorem dX4_parent_17 : decode cX4_parent 17 = .ok (.aload_n 3, 1) := by decide +kernel
theorem dX4_parent_18 : decode cX4_parent 18 = .ok (.getfield 126, 3) := by decide +kernel
theorem dX4_parent_21 : decode cX4_parent 21 = .ok (.ireturn, 1) := by decide +kernel
theorem dX4_join_0 : decode cX4_join 0 = .ok (.aload_n 0, 1) := by decide +kernel
theorem dX4_join_1 : decode cX4_join 1 = .ok (.iload_n 1, 1) := by decide +kernel
theorem dX4_join_2 : decode cX4_join 2 = .ok (.invokevirtual 103, 3) := by decide +kernel
theorem dX4_join_5 : decode cX4_join 5 = .ok (.astore_n 2, 1) := by decide +kernel
theorem dX4_join_6 : decode cX4_join 6 = .ok (.aload_n 2, 1) := by decide +kernel
theorem dX4_join_7 : decode cX4_join 7 = .ok (.getfield 129, 3) := by decide +kernel
theorem dX4_join_10 : decode cX4_join 10 = .ok (.ifCond .eq 13, 3) := by decide +kernel
theorem dX4_join_13 : decode cX4_join 13 = .ok (.new 68, 3) := by decide +kernel
theorem dX4_join_16 : decode cX4_join 16 = .ok (.dup, 1) := by decide +kernel
theorem dX4_join_17 : decode cX4_join 17 = .ok (.ldc 133, 2) := by decide +kernel
theorem dX4_join_19 : decode cX4_join 19 = .ok (.invokespecial 72, 3) := by decide +kernel
theorem dX4_join_22 : decode cX4_join 22 = .ok (.athrow, 1) := by decide +kernel
theorem dX4_join_23 : decode cX4_join 23 = .ok (.aload_n 2, 1) := by decide +kernel
theorem dX4_join_24 : decode cX4_join 24 = .ok (.getfield 135, 3) := by decide +kernel
theorem dX4_join_27 : decode cX4_join 27 = .ok (.aload_n 0, 1) := by decide +kernel
theorem dX4_join_28 : decode cX4_join 28 = .ok (.getfield 33, 3) := by decide +kernel
theorem dX4_join_31 : decode cX4_join 31 = .ok (.invokevirtual 138, 3) := by decide +kernel
theorem dX4_join_34 : decode cX4_join 34 = .ok (.ifCond .eq 13, 3) := by decide +kernel
theorem dX4_join_37 : decode cX4_join 37 = .ok (.new 68, 3) := by decide +kernel
theorem dX4_join_40 : decode cX4_join 40 = .ok (.dup, 1) := by decide +kernel
theorem dX4_join_41 : decode cX4_join 41 = .ok (.ldc 142, 2) := by decide +kernel
theorem dX4_join_43 : decode cX4_join 43 = .ok (.invokespecial 72, 3) := by decide +kernel
theorem dX4_join_46 : decode cX4_join 46 = .ok (.athrow, 1) := by decide +kernel
theorem dX4_join_47 : decode cX4_join 47 = .ok (.aload_n 0, 1) := by decide +kernel
theorem dX4_join_48 : decode cX4_join 48 = .ok (.invokevirtual 144, 3) := by decide +kernel
theorem dX4_join_51 : decode cX4_join 51 = .ok (.bipush 8, 2) := by decide +kernel
theorem dX4_join_53 : decode cX4_join 53 = .ok (.if_icmp .lt 13, 3) := by decide +kernel
theorem dX4_join_56 : decode cX4_join 56 = .ok (.new 68, 3) := by decide +kernel
theorem dX4_join_59 : decode cX4_join 59 = .ok (.dup, 1) := by decide +kernel
theorem dX4_join_60 : decode cX4_join 60 = .ok (.ldc 147, 2) := by decide +kernel
theorem dX4_join_62 : decode cX4_join 62 = .ok (.invokespecial 72, 3) := by decide +kernel
theorem dX4_join_65 : decode cX4_join 65 = .ok (.athrow, 1) := by decide +kernel
theorem dX4_join_66 : decode cX4_join 66 = .ok (.aload_n 2, 1) := by decide +kernel
theorem dX4_join_67 : decode cX4_join 67 = .ok (.iconst 1, 1) := by decide +kernel
theorem dX4_join_68 : decode cX4_join 68 = .ok (.putfield 129, 3) := by decide +kernel
theorem dX4_join_71 : decode cX4_join 71 = .ok (.aload_n 0, 1) := by decide +kernel
theorem dX4_join_72 : decode cX4_join 72 = .ok (.invokevirtual 144, 3) := by decide +kernel
theorem dX4_join_75 : decode cX4_join 75 = .ok (.ireturn, 1) := by decide +kernel
theorem dX4_leave_0 : decode cX4_leave 0 = .ok (.aload_n 0, 1) := by decide +kernel
theorem dX4_leave_1 : decode cX4_leave 1 = .ok (.iload_n 1, 1) := by decide +kernel
theorem dX4_leave_2 : decode cX4_leave 2 = .ok (.invokevirtual 103, 3) := by decide +kernel
theorem dX4_leave_5 : decode cX4_leave 5 = .ok (.astore_n 2, 1) := by decide +kernel
theorem dX4_leave_6 : decode cX4_leave 6 = .ok (.aload_n 2, 1) := by decide +kernel
theorem dX4_leave_7 : decode cX4_leave 7 = .ok (.invokestatic 149, 3) := by decide +kernel
theorem dX4_leave_10 : decode cX4_leave 10 = .ok (.aload_n 2, 1) := by decide +kernel
theorem dX4_leave_11 : decode cX4_leave 11 = .ok (.iconst 0, 1) := by decide +kernel
theorem dX4_leave_12 : decode cX4_leave 12 = .ok (.putfield 129, 3) := by decide +kernel
theorem dX4_leave_15 : decode cX4_leave 15 = .ok (.aload_n 0, 1) := by decide +kernel
theorem dX4_leave_16 : decode cX4_leave 16 = .ok (.invokevirtual 144, 3) := by decide +kernel
theorem dX4_leave_19 : decode cX4_leave 19 = .ok (.ireturn, 1) := by decide +kernel
theorem dX4_isIn_0 : decode cX4_isIn 0 = .ok (.aload_n 0, 1) := by decide +kernel
theorem dX4_isIn_1 : decode cX4_isIn 1 = .ok (.iload_n 1, 1) := by decide +kernel
theorem dX4_isIn_2 : decode cX4_isIn 2 = .ok (.invokevirtual 103, 3) := by decide +kernel
theorem dX4_isIn_5 : decode cX4_isIn 5 = .ok (.getfield 129, 3) := by decide +kernel
theorem dX4_isIn_8 : decode cX4_isIn 8 = .ok (.ireturn, 1) := by decide +kernel
theorem dX4_forbid_0 : decode cX4_forbid 0 = .ok (.iload_n 1, 1) := by decide +kernel
theorem dX4_forbid_1 : decode cX4_forbid 1 = .ok (.invokestatic 61, 3) := by decide +kernel
theorem dX4_forbid_4 : decode cX4_forbid 4 = .ok (.aload_n 0, 1) := by decide +kernel
theorem dX4_forbid_5 : decode cX4_forbid 5 = .ok (.aload_n 0, 1) := by decide +kernel
theorem dX4_forbid_6 : decode cX4_forbid 6 = .ok (.getfield 33, 3) := by decide +kernel
theorem dX4_forbid_9 : decode cX4_forbid 9 = .ok (.iload_n 1, 1) := by decide +kernel
theorem dX4_forbid_10 : decode cX4_forbid 10 = .ok (.invokestatic 153, 3) := by decide +kernel
theorem dX4_forbid_13 : decode cX4_forbid 13 = .ok (.ior, 1) := by decide +kernel
theorem dX4_forbid_14 : decode cX4_forbid 14 = .ok (.putfield 33, 3) := by decide +kernel
theorem dX4_forbid_17 : decode cX4_forbid 17 = .ok (.iconst 0, 1) := by decide +kernel
theorem dX4_forbid_18 : decode cX4_forbid 18 = .ok (.istore_n 2, 1) := by decide +kernel
theorem dX4_forbid_19 : decode cX4_forbid 19 = .ok (.iconst 0, 1) := by decide +kernel
theorem dX4_forbid_20 : decode cX4_forbid 20 = .ok (.istore_n 3, 1) := by decide +kernel
theorem dX4_forbid_21 : decode cX4_forbid 21 = .ok (.iload_n 3, 1) := by decide +kernel
theorem dX4_forbid_22 : decode cX4_forbid 22 = .ok (.aload_n 0, 1) := by decide +kernel
theorem dX4_forbid_23 : decode cX4_forbid 23 = .ok (.getfield 29, 3) := by decide +kernel
theorem dX4_forbid_26 : decode cX4_forbid 26 = .ok (.invokevirtual 94, 3) := by decide +kernel
theorem dX4_forbid_29 : decode cX4_forbid 29 = .ok (.if_icmp .ge 52, 3) := by decide +kernel
theorem dX4_forbid_32 : decode cX4_forbid 32 = .ok (.aload_n 0, 1) := by decide +kernel
theorem dX4_forbid_33 : decode cX4_forbid 33 = .ok (.getfield 29, 3) := by decide +kernel
theorem dX4_forbid_36 : decode cX4_forbid 36 = .ok (.iload_n 3, 1) := by decide +kernel
theorem dX4_forbid_37 : decode cX4_forbid 37 = .ok (.invokevirtual 119, 3) := by decide +kernel
theorem dX4_forbid_40 : decode cX4_forbid 40 = .ok (.checkcast 111, 3) := by decide +kernel
theorem dX4_forbid_43 : decode cX4_forbid 43 = .ok (.astore 4, 2) := by decide +kernel
theorem dX4_forbid_45 : decode cX4_forbid 45 = .ok (.aload 4, 2) := by decide +kernel
theorem dX4_forbid_47 : decode cX4_forbid 47 = .ok (.getfield 129, 3) := by decide +kernel
theorem dX4_forbid_50 : decode cX4_forbid 50 = .ok (.ifCond .eq 25, 3) := by decide +kernel
theorem dX4_forbid_53 : decode cX4_forbid 53 = .ok (.aload 4, 2) := by decide +kernel
theorem dX4_forbid_55 : decode cX4_forbid 55 = .ok (.getfield 156, 3) := by decide +kernel
theorem dX4_forbid_58 : decode cX4_forbid 58 = .ok (.iload_n 1, 1) := by decide +kernel
theorem dX4_forbid_59 : decode cX4_forbid 59 = .ok (.invokestatic 153, 3) := by decide +kernel
theorem dX4_forbid_62 : decode cX4_forbid 62 = .ok (.iand, 1) := by decide +kernel
theorem dX4_forbid_63 : decode cX4_forbid 63 = .ok (.ifCond .eq 12, 3) := by decide +kernel
theorem dX4_forbid_66 : decode cX4_forbid 66 = .ok (.aload 4, 2) := by decide +kernel
theorem dX4_forbid_68 : decode cX4_forbid 68 = .ok (.iconst 0, 1) := by decide +kernel
theorem dX4_forbid_69 : decode cX4_forbid 69 = .ok (.putfield 129, 3) := by decide +kernel
theorem dX4_forbid_72 : decode cX4_forbid 72 = .ok (.iinc 2 1, 3) := by decide +kernel
theorem dX4_forbid_75 : decode cX4_forbid 75 = .ok (.iinc 3 1, 3) := by decide +kernel
theorem dX4_forbid_78 : decode cX4_forbid 78 = .ok (.goto (-57), 3) := by decide +kernel
theorem dX4_forbid_81 : decode cX4_forbid 81 = .ok (.iload_n 2, 1) := by decide +kernel
theorem dX4_forbid_82 : decode cX4_forbid 82 = .ok (.ireturn, 1) := by decide +kernel
theorem dX4_allow_0 : decode cX4_allow 0 = .ok (.iload_n 1, 1) := by decide +kernel
theorem dX4_allow_1 : decode cX4_allow 1 = .ok (.invokestatic 61, 3) := by decide +kernel
theorem dX4_allow_4 : decode cX4_allow 4 = .ok (.aload_n 0, 1) := by decide +kernel
theorem dX4_allow_5 : decode cX4_allow 5 = .ok (.getfield 33, 3) := by decide +kernel
theorem dX4_allow_8 : decode cX4_allow 8 = .ok (.iload_n 1, 1) := by decide +kernel
theorem dX4_allow_9 : decode cX4_allow 9 = .ok (.invokestatic 153, 3) := by decide +kernel
theorem dX4_allow_12 : decode cX4_allow 12 = .ok (.iand, 1) := by decide +kernel
theorem dX4_allow_13 : decode cX4_allow 13 = .ok (.ifCond .eq 7, 3) := by decide +kernel
theorem dX4_allow_16 : decode cX4_allow 16 = .ok (.iconst 1, 1) := by decide +kernel
theorem dX4_allow_17 : decode cX4_allow 17 = .ok (.goto 4, 3) := by decide +kernel
theorem dX4_allow_20 : decode cX4_allow 20 = .ok (.iconst 0, 1) := by decide +kernel
theorem dX4_allow_21 : decode cX4_allow 21 = .ok (.istore_n 2, 1) := by decide +kernel
theorem dX4_allow_22 : decode cX4_allow 22 = .ok (.aload_n 0, 1) := by decide +kernel
theorem dX4_allow_23 : decode cX4_allow 23 = .ok (.aload_n 0, 1) := by decide +kernel
theorem dX4_allow_24 : decode cX4_allow 24 = .ok (.getfield 33, 3) := by decide +kernel
theorem dX4_allow_27 : decode cX4_allow 27 = .ok (.iload_n 1, 1) := by decide +kernel
theorem dX4_allow_28 : decode cX4_allow 28 = .ok (.invokestatic 153, 3) := by decide +kernel
theorem dX4_allow_31 : decode cX4_allow 31 = .ok (.iconst (-1), 1) := by decide +kernel
theorem dX4_allow_32 : decode cX4_allow 32 = .ok (.ixor, 1) := by decide +kernel
theorem dX4_allow_33 : decode cX4_allow 33 = .ok (.iand, 1) := by decide +kernel
theorem dX4_allow_34 : decode cX4_allow 34 = .ok (.putfield 33, 3) := by decide +kernel
theorem dX4_allow_37 : decode cX4_allow 37 = .ok (.iload_n 2, 1) := by decide +kernel
theorem dX4_allow_38 : decode cX4_allow 38 = .ok (.ireturn, 1) := by decide +kernel
theorem dX4_tell_0 : decode cX4_tell 0 = .ok (.iload_n 1, 1) := by decide +kernel
theorem dX4_tell_1 : decode cX4_tell 1 = .ok (.invokestatic 107, 3) := by decide +kernel
theorem dX4_tell_4 : decode cX4_tell 4 = .ok (.iload_n 2, 1) := by decide +kernel
theorem dX4_tell_5 : decode cX4_tell 5 = .ok (.invokestatic 107, 3) := by decide +kernel
theorem dX4_tell_8 : decode cX4_tell 8 = .ok (.aload_n 0, 1) := by decide +kernel
theorem dX4_tell_9 : decode cX4_tell 9 = .ok (.getfield 49, 3) := by decide +kernel
theorem dX4_tell_12 : decode cX4_tell 12 = .ok (.bipush 6, 2) := by decide +kernel
theorem dX4_tell_14 : decode cX4_tell 14 = .ok (.if_icmp .lt 13, 3) := by decide +kernel
theorem dX4_tell_17 : decode cX4_tell 17 = .ok (.new 68, 3) := by decide +kernel
theorem dX4_tell_20 : decode cX4_tell 20 = .ok (.dup, 1) := by decide +kernel
theorem dX4_tell_21 : decode cX4_tell 21 = .ok (.ldc 159, 2) := by decide +kernel
theorem dX4_tell_23 : decode cX4_tell 23 = .ok (.invokespecial 72, 3) := by decide +kernel
theorem dX4_tell_26 : decode cX4_tell 26 = .ok (.athrow, 1) := by decide +kernel
theorem dX4_tell_27 : decode cX4_tell 27 = .ok (.aload_n 0, 1) := by decide +kernel
theorem dX4_tell_28 : decode cX4_tell 28 = .ok (.getfield 42, 3) := by decide +kernel
theorem dX4_tell_31 : decode cX4_tell 31 = .ok (.aload_n 0, 1) := by decide +kernel
theorem dX4_tell_32 : decode cX4_tell 32 = .ok (.getfield 49, 3) := by decide +kernel
theorem dX4_tell_35 : decode cX4_tell 35 = .ok (.iload_n 1, 1) := by decide +kernel
theorem dX4_tell_36 : decode cX4_tell 36 = .ok (.invokevirtual 161, 3) := by decide +kernel
theorem dX4_tell_39 : decode cX4_tell 39 = .ok (.aload_n 0, 1) := by decide +kernel
theorem dX4_tell_40 : decode cX4_tell 40 = .ok (.getfield 46, 3) := by decide +kernel
theorem dX4_tell_43 : decode cX4_tell 43 = .ok (.aload_n 0, 1) := by decide +kernel
theorem dX4_tell_44 : decode cX4_tell 44 = .ok (.getfield 49, 3) := by decide +kernel
theorem dX4_tell_47 : decode cX4_tell 47 = .ok (.iload_n 2, 1) := by decide +kernel
theorem dX4_tell_48 : decode cX4_tell 48 = .ok (.invokevirtual 161, 3) := by decide +kernel
theorem dX4_tell_51 : decode cX4_tell 51 = .ok (.aload_n 0, 1) := by decide +kernel
theorem dX4_tell_52 : decode cX4_tell 52 = .ok (.dup, 1) := by decide +kernel
theorem dX4_tell_53 : decode cX4_tell 53 = .ok (.getfield 49, 3) := by decide +kernel
theorem dX4_tell_56 : decode cX4_tell 56 = .ok (.iconst 1, 1) := by decide +kernel
theorem dX4_tell_57 : decode cX4_tell 57 = .ok (.iadd, 1) := by decide +kernel
theorem dX4_tell_58 : decode cX4_tell 58 = .ok (.putfield 49, 3) := by decide +kernel
theorem dX4_tell_61 : decode cX4_tell 61 = .ok (.aload_n 0, 1) := by decide +kernel
theorem dX4_tell_62 : decode cX4_tell 62 = .ok (.getfield 49, 3) := by decide +kernel
theorem dX4_tell_65 : decode cX4_tell 65 = .ok (.ireturn, 1) := by decide +kernel
theorem dX4_forget_0 : decode cX4_forget 0 = .ok (.aload_n 0, 1) := by decide +kernel
theorem dX4_forget_1 : decode cX4_forget 1 = .ok (.getfield 49, 3) := by decide +kernel
theorem dX4_forget_4 : decode cX4_forget 4 = .ok (.istore_n 1, 1) := by decide +kernel
theorem dX4_forget_5 : decode cX4_forget 5 = .ok (.aload_n 0, 1) := by decide +kernel
theorem dX4_forget_6 : decode cX4_forget 6 = .ok (.iconst 0, 1) := by decide +kernel
theorem dX4_forget_7 : decode cX4_forget 7 = .ok (.putfield 49, 3) := by decide +kernel
theorem dX4_forget_10 : decode cX4_forget 10 = .ok (.iload_n 1, 1) := by decide +kernel
theorem dX4_forget_11 : decode cX4_forget 11 = .ok (.ireturn, 1) := by decide +kernel
theorem dX4_profit_0 : decode cX4_profit 0 = .ok (.aload_n 0, 1) := by decide +kernel
theorem dX4_profit_1 : decode cX4_profit 1 = .ok (.iload_n 2, 1) := by decide +kernel
theorem dX4_profit_2 : decode cX4_profit 2 = .ok (.invokevirtual 103, 3) := by decide +kernel
theorem dX4_profit_5 : decode cX4_profit 5 = .ok (.astore 6, 2) := by decide +kernel
theorem dX4_profit_7 : decode cX4_profit 7 = .ok (.aload_n 0, 1) := by decide +kernel
theorem dX4_profit_8 : decode cX4_profit 8 = .ok (.iload_n 3, 1) := by decide +kernel
theorem dX4_profit_9 : decode cX4_profit 9 = .ok (.invokevirtual 103, 3) := by decide +kernel
theorem dX4_profit_12 : decode cX4_profit 12 = .ok (.astore 7, 2) := by decide +kernel
theorem dX4_profit_14 : decode cX4_profit 14 = .ok (.iload_n 2, 1) := by decide +kernel
theorem dX4_profit_15 : decode cX4_profit 15 = .ok (.iload_n 3, 1) := by decide +kernel
theorem dX4_profit_16 : decode cX4_profit 16 = .ok (.if_icmp .ne 13, 3) := by decide +kernel
theorem dX4_profit_19 : decode cX4_profit 19 = .ok (.new 165, 3) := by decide +kernel
theorem dX4_profit_22 : decode cX4_profit 22 = .ok (.dup, 1) := by decide +kernel
theorem dX4_profit_23 : decode cX4_profit 23 = .ok (.ldc 167, 2) := by decide +kernel
theorem dX4_profit_25 : decode cX4_profit 25 = .ok (.invokespecial 169, 3) := by decide +kernel
theorem dX4_profit_28 : decode cX4_profit 28 = .ok (.athrow, 1) := by decide +kernel
theorem dX4_profit_29 : decode cX4_profit 29 = .ok (.iload_n 1, 1) := by decide +kernel
theorem dX4_profit_30 : decode cX4_profit 30 = .ok (.invokestatic 170, 3) := by decide +kernel
theorem dX4_profit_33 : decode cX4_profit 33 = .ok (.iload 4, 2) := by decide +kernel
theorem dX4_profit_35 : decode cX4_profit 35 = .ok (.invokestatic 107, 3) := by decide +kernel
theorem dX4_profit_38 : decode cX4_profit 38 = .ok (.iload 5, 2) := by decide +kernel
theorem dX4_profit_40 : decode cX4_profit 40 = .ok (.invokestatic 107, 3) := by decide +kernel
theorem dX4_profit_43 : decode cX4_profit 43 = .ok (.iload_n 1, 1) := by decide +kernel
theorem dX4_profit_44 : decode cX4_profit 44 = .ok (.aload 6, 2) := by decide +kernel
theorem dX4_profit_46 : decode cX4_profit 46 = .ok (.aload 7, 2) := by decide +kernel
theorem dX4_profit_48 : decode cX4_profit 48 = .ok (.iload 4, 2) := by decide +kernel
theorem dX4_profit_50 : decode cX4_profit 50 = .ok (.iload 5, 2) := by decide +kernel
theorem dX4_profit_52 : decode cX4_profit 52 = .ok (.invokestatic 173, 3) := by decide +kernel
theorem dX4_profit_55 : decode cX4_profit 55 = .ok (.ireturn, 1) := by decide +kernel
theorem dX4_worth_0 : decode cX4_worth 0 = .ok (.aload_n 0, 1) := by decide +kernel
theorem dX4_worth_1 : decode cX4_worth 1 = .ok (.iload_n 2, 1) := by decide +kernel
theorem dX4_worth_2 : decode cX4_worth 2 = .ok (.invokevirtual 103, 3) := by decide +kernel
theorem dX4_worth_5 : decode cX4_worth 5 = .ok (.astore_n 3, 1) := by decide +kernel
theorem dX4_worth_6 : decode cX4_worth 6 = .ok (.iload_n 1, 1) := by decide +kernel
theorem dX4_worth_7 : decode cX4_worth 7 = .ok (.invokestatic 170, 3) := by decide +kernel
theorem dX4_worth_10 : decode cX4_worth 10 = .ok (.aload_n 3, 1) := by decide +kernel
theorem dX4_worth_11 : decode cX4_worth 11 = .ok (.invokestatic 149, 3) := by decide +kernel
theorem dX4_worth_14 : decode cX4_worth 14 = .ok (.aload_n 0, 1) := by decide +kernel
theorem dX4_worth_15 : decode cX4_worth 15 = .ok (.iload_n 1, 1) := by decide +kernel
theorem dX4_worth_16 : decode cX4_worth 16 = .ok (.aload_n 3, 1) := by decide +kernel
theorem dX4_worth_17 : decode cX4_worth 17 = .ok (.invokevirtual 177, 3) := by decide +kernel
theorem dX4_worth_20 : decode cX4_worth 20 = .ok (.ireturn, 1) := by decide +kernel
theorem dX4_worthByValues_0 : decode cX4_worthByValues 0 = .ok (.aload_n 0, 1) := by decide +kernel
theorem dX4_worthByValues_1 : decode cX4_worthByValues 1 = .ok (.iload_n 2, 1) := by decide +kernel
theorem dX4_worthByValues_2 : decode cX4_worthByValues 2 = .ok (.invokevirtual 103, 3) := by decide +kernel
theorem dX4_worthByValues_5 : decode cX4_worthByValues 5 = .ok (.astore_n 3, 1) := by decide +kernel
theorem dX4_worthByValues_6 : decode cX4_worthByValues 6 = .ok (.iload_n 1, 1) := by decide +kernel
theorem dX4_worthByValues_7 : decode cX4_worthByValues 7 = .ok (.invokestatic 170, 3) := by decide +kernel
theorem dX4_worthByValues_10 : decode cX4_worthByValues 10 = .ok (.aload_n 3, 1) := by decide +kernel
theorem dX4_worthByValues_11 : decode cX4_worthByValues 11 = .ok (.invokestatic 149, 3) := by decide +kernel
theorem dX4_worthByValues_14 : decode cX4_worthByValues 14 = .ok (.iconst 0, 1) := by decide +kernel
theorem dX4_worthByValues_15 : decode cX4_worthByValues 15 = .ok (.istore 4, 2) := by decide +kernel
theorem dX4_worthByValues_17 : decode cX4_worthByValues 17 = .ok (.iconst 0, 1) := by decide +kernel
theorem dX4_worthByValues_18 : decode cX4_worthByValues 18 = .ok (.istore 5, 2) := by decide +kernel
theorem dX4_worthByValues_20 : decode cX4_worthByValues 20 = .ok (.iload 5, 2) := by decide +kernel
theorem dX4_worthByValues_22 : decode cX4_worthByValues 22 = .ok (.aload_n 0, 1) := by decide +kernel
theorem dX4_worthByValues_23 : decode cX4_worthByValues 23 = .ok (.getfield 49, 3) := by decide +kernel
theorem dX4_worthByValues_26 : decode cX4_worthByValues 26 = .ok (.if_icmp .ge 93, 3) := by decide +kernel
theorem dX4_worthByValues_29 : decode cX4_worthByValues 29 = .ok (.aload_n 0, 1) := by decide +kernel
theorem dX4_worthByValues_30 : decode cX4_worthByValues 30 = .ok (.getfield 42, 3) := by decide +kernel
theorem dX4_worthByValues_33 : decode cX4_worthByValues 33 = .ok (.iload 5, 2) := by decide +kernel
theorem dX4_worthByValues_35 : decode cX4_worthByValues 35 = .ok (.invokevirtual 181, 3) := by decide +kernel
theorem dX4_worthByValues_38 : decode cX4_worthByValues 38 = .ok (.istore 6, 2) := by decide +kernel
theorem dX4_worthByValues_40 : decode cX4_worthByValues 40 = .ok (.aload_n 0, 1) := by decide +kernel
theorem dX4_worthByValues_41 : decode cX4_worthByValues 41 = .ok (.getfield 46, 3) := by decide +kernel
theorem dX4_worthByValues_44 : decode cX4_worthByValues 44 = .ok (.iload 5, 2) := by decide +kernel
theorem dX4_worthByValues_46 : decode cX4_worthByValues 46 = .ok (.invokevirtual 181, 3) := by decide +kernel
theorem dX4_worthByValues_49 : decode cX4_worthByValues 49 = .ok (.istore 7, 2) := by decide +kernel
theorem dX4_worthByValues_51 : decode cX4_worthByValues 51 = .ok (.aload_n 0, 1) := by decide +kernel
theorem dX4_worthByValues_52 : decode cX4_worthByValues 52 = .ok (.iload 6, 2) := by decide +kernel
theorem dX4_worthByValues_54 : decode cX4_worthByValues 54 = .ok (.aload_n 0, 1) := by decide +kernel
theorem dX4_worthByValues_55 : decode cX4_worthByValues 55 = .ok (.getfield 52, 3) := by decide +kernel
theorem dX4_worthByValues_58 : decode cX4_worthByValues 58 = .ok (.invokevirtual 184, 3) := by decide +kernel
theorem dX4_worthByValues_61 : decode cX4_worthByValues 61 = .ok (.aload_n 0, 1) := by decide +kernel
theorem dX4_worthByValues_62 : decode cX4_worthByValues 62 = .ok (.iload 7, 2) := by decide +kernel
theorem dX4_worthByValues_64 : decode cX4_worthByValues 64 = .ok (.aload_n 0, 1) := by decide +kernel
theorem dX4_worthByValues_65 : decode cX4_worthByValues 65 = .ok (.getfield 55, 3) := by decide +kernel
theorem dX4_worthByValues_68 : decode cX4_worthByValues 68 = .ok (.invokevirtual 184, 3) := by decide +kernel
theorem dX4_worthByValues_71 : decode cX4_worthByValues 71 = .ok (.iload 4, 2) := by decide +kernel
theorem dX4_worthByValues_73 : decode cX4_worthByValues 73 = .ok (.aload_n 0, 1) := by decide +kernel
theorem dX4_worthByValues_74 : decode cX4_worthByValues 74 = .ok (.iload_n 1, 1) := by decide +kernel
theorem dX4_worthByValues_75 : decode cX4_worthByValues 75 = .ok (.iload_n 2, 1) := by decide +kernel
theorem dX4_worthByValues_76 : decode cX4_worthByValues 76 = .ok (.iload 6, 2) := by decide +kernel
theorem dX4_worthByValues_78 : decode cX4_worthByValues 78 = .ok (.aload_n 0, 1) := by decide +kernel
theorem dX4_worthByValues_79 : decode cX4_worthByValues 79 = .ok (.getfield 52, 3) := by decide +kernel
theorem dX4_worthByValues_82 : decode cX4_worthByValues 82 = .ok (.aload_n 0, 1) := by decide +kernel
theorem dX4_worthByValues_83 : decode cX4_worthByValues 83 = .ok (.getfield 55, 3) := by decide +kernel
theorem dX4_worthByValues_86 : decode cX4_worthByValues 86 = .ok (.invokevirtual 188, 3) := by decide +kernel
theorem dX4_worthByValues_89 : decode cX4_worthByValues 89 = .ok (.iadd, 1) := by decide +kernel
theorem dX4_worthByValues_90 : decode cX4_worthByValues 90 = .ok (.istore 4, 2) := by decide +kernel
theorem dX4_worthByValues_92 : decode cX4_worthByValues 92 = .ok (.iload 4, 2) := by decide +kernel
theorem dX4_worthByValues_94 : decode cX4_worthByValues 94 = .ok (.aload_n 0, 1) := by decide +kernel
theorem dX4_worthByValues_95 : decode cX4_worthByValues 95 = .ok (.iload_n 1, 1) := by decide +kernel
theorem dX4_worthByValues_96 : decode cX4_worthByValues 96 = .ok (.iload_n 2, 1) := by decide +kernel
theorem dX4_worthByValues_97 : decode cX4_worthByValues 97 = .ok (.iload 7, 2) := by decide +kernel
theorem dX4_worthByValues_99 : decode cX4_worthByValues 99 = .ok (.aload_n 0, 1) := by decide +kernel
theorem dX4_worthByValues_100 : decode cX4_worthByValues 100 = .ok (.getfield 55, 3) := by decide +kernel
theorem dX4_worthByValues_103 : decode cX4_worthByValues 103 = .ok (.aload_n 0, 1) := by decide +kernel
theorem dX4_worthByValues_104 : decode cX4_worthByValues 104 = .ok (.getfield 52, 3) := by decide +kernel
theorem dX4_worthByValues_107 : decode cX4_worthByValues 107 = .ok (.invokevirtual 188, 3) := by decide +kernel
theorem dX4_worthByValues_110 : decode cX4_worthByValues 110 = .ok (.iadd, 1) := by decide +kernel
theorem dX4_worthByValues_111 : decode cX4_worthByValues 111 = .ok (.istore 4, 2) := by decide +kernel
theorem dX4_worthByValues_113 : decode cX4_worthByValues 113 = .ok (.iinc 5 1, 3) := by decide +kernel
theorem dX4_worthByValues_116 : decode cX4_worthByValues 116 = .ok (.goto (-96), 3) := by decide +kernel
theorem dX4_worthByValues_119 : decode cX4_worthByValues 119 = .ok (.iload 4, 2) := by decide +kernel
theorem dX4_worthByValues_121 : decode cX4_worthByValues 121 = .ok (.ireturn, 1) := by decide +kernel
theorem dX4_best_0 : decode cX4_best 0 = .ok (.iload_n 1, 1) := by decide +kernel
theorem dX4_best_1 : decode cX4_best 1 = .ok (.invokestatic 170, 3) := by decide +kernel
theorem dX4_best_4 : decode cX4_best 4 = .ok (.aload_n 0, 1) := by decide +kernel
theorem dX4_best_5 : decode cX4_best 5 = .ok (.iload_n 1, 1) := by decide +kernel
theorem dX4_best_6 : decode cX4_best 6 = .ok (.invokevirtual 192, 3) := by decide +kernel
theorem dX4_best_9 : decode cX4_best 9 = .ok (.aload_n 0, 1) := by decide +kernel
theorem dX4_best_10 : decode cX4_best 10 = .ok (.iconst (-1), 1) := by decide +kernel
theorem dX4_best_11 : decode cX4_best 11 = .ok (.invokevirtual 195, 3) := by decide +kernel
theorem dX4_best_14 : decode cX4_best 14 = .ok (.ireturn, 1) := by decide +kernel
theorem dX4_evolve_0 : decode cX4_evolve 0 = .ok (.iload_n 1, 1) := by decide +kernel
theorem dX4_evolve_1 : decode cX4_evolve 1 = .ok (.invokestatic 170, 3) := by decide +kernel
theorem dX4_evolve_4 : decode cX4_evolve 4 = .ok (.aload_n 0, 1) := by decide +kernel
theorem dX4_evolve_5 : decode cX4_evolve 5 = .ok (.invokevirtual 144, 3) := by decide +kernel
theorem dX4_evolve_8 : decode cX4_evolve 8 = .ok (.iconst 3, 1) := by decide +kernel
theorem dX4_evolve_9 : decode cX4_evolve 9 = .ok (.if_icmp .ge 13, 3) := by decide +kernel
theorem dX4_evolve_12 : decode cX4_evolve 12 = .ok (.new 68, 3) := by decide +kernel
theorem dX4_evolve_15 : decode cX4_evolve 15 = .ok (.dup, 1) := by decide +kernel
theorem dX4_evolve_16 : decode cX4_evolve 16 = .ok (.ldc 198, 2) := by decide +kernel
theorem dX4_evolve_18 : decode cX4_evolve 18 = .ok (.invokespecial 72, 3) := by decide +kernel
theorem dX4_evolve_21 : decode cX4_evolve 21 = .ok (.athrow, 1) := by decide +kernel
theorem dX4_evolve_22 : decode cX4_evolve 22 = .ok (.aload_n 0, 1) := by decide +kernel
theorem dX4_evolve_23 : decode cX4_evolve 23 = .ok (.getfield 29, 3) := by decide +kernel
theorem dX4_evolve_26 : decode cX4_evolve 26 = .ok (.invokevirtual 94, 3) := by decide +kernel
theorem dX4_evolve_29 : decode cX4_evolve 29 = .ok (.bipush 20, 2) := by decide +kernel
theorem dX4_evolve_31 : decode cX4_evolve 31 = .ok (.if_icmp .lt 13, 3) := by decide +kernel
theorem dX4_evolve_34 : decode cX4_evolve 34 = .ok (.new 68, 3) := by decide +kernel
theorem dX4_evolve_37 : decode cX4_evolve 37 = .ok (.dup, 1) := by decide +kernel
theorem dX4_evolve_38 : decode cX4_evolve 38 = .ok (.ldc 97, 2) := by decide +kernel
theorem dX4_evolve_40 : decode cX4_evolve 40 = .ok (.invokespecial 72, 3) := by decide +kernel
theorem dX4_evolve_43 : decode cX4_evolve 43 = .ok (.athrow, 1) := by decide +kernel
theorem dX4_evolve_44 : decode cX4_evolve 44 = .ok (.aload_n 0, 1) := by decide +kernel
theorem dX4_evolve_45 : decode cX4_evolve 45 = .ok (.iload_n 1, 1) := by decide +kernel
theorem dX4_evolve_46 : decode cX4_evolve 46 = .ok (.invokevirtual 192, 3) := by decide +kernel
theorem dX4_evolve_49 : decode cX4_evolve 49 = .ok (.aload_n 0, 1) := by decide +kernel
theorem dX4_evolve_50 : decode cX4_evolve 50 = .ok (.aload_n 0, 1) := by decide +kernel
theorem dX4_evolve_51 : decode cX4_evolve 51 = .ok (.invokevirtual 200, 3) := by decide +kernel
theorem dX4_evolve_54 : decode cX4_evolve 54 = .ok (.invokevirtual 103, 3) := by decide +kernel
theorem dX4_evolve_57 : decode cX4_evolve 57 = .ok (.iconst 0, 1) := by decide +kernel
theorem dX4_evolve_58 : decode cX4_evolve 58 = .ok (.putfield 129, 3) := by decide +kernel
theorem dX4_evolve_61 : decode cX4_evolve 61 = .ok (.aload_n 0, 1) := by decide +kernel
theorem dX4_evolve_62 : decode cX4_evolve 62 = .ok (.iconst (-1), 1) := by decide +kernel
theorem dX4_evolve_63 : decode cX4_evolve 63 = .ok (.invokevirtual 195, 3) := by decide +kernel
theorem dX4_evolve_66 : decode cX4_evolve 66 = .ok (.istore_n 2, 1) := by decide +kernel
theorem dX4_evolve_67 : decode cX4_evolve 67 = .ok (.aload_n 0, 1) := by decide +kernel
theorem dX4_evolve_68 : decode cX4_evolve 68 = .ok (.iload_n 2, 1) := by decide +kernel
theorem dX4_evolve_69 : decode cX4_evolve 69 = .ok (.invokevirtual 195, 3) := by decide +kernel
theorem dX4_evolve_72 : decode cX4_evolve 72 = .ok (.istore_n 3, 1) := by decide +kernel
theorem dX4_evolve_73 : decode cX4_evolve 73 = .ok (.aload_n 0, 1) := by decide +kernel
theorem dX4_evolve_74 : decode cX4_evolve 74 = .ok (.aload_n 0, 1) := by decide +kernel
theorem dX4_evolve_75 : decode cX4_evolve 75 = .ok (.iload_n 2, 1) := by decide +kernel
theorem dX4_evolve_76 : decode cX4_evolve 76 = .ok (.invokevirtual 103, 3) := by decide +kernel
theorem dX4_evolve_79 : decode cX4_evolve 79 = .ok (.getfield 135, 3) := by decide +kernel
theorem dX4_evolve_82 : decode cX4_evolve 82 = .ok (.aload_n 0, 1) := by decide +kernel
theorem dX4_evolve_83 : decode cX4_evolve 83 = .ok (.iload_n 3, 1) := by decide +kernel
theorem dX4_evolve_84 : decode cX4_evolve 84 = .ok (.invokevirtual 103, 3) := by decide +kernel
theorem dX4_evolve_87 : decode cX4_evolve 87 = .ok (.getfield 135, 3) := by decide +kernel
theorem dX4_evolve_90 : decode cX4_evolve 90 = .ok (.invokevirtual 203, 3) := by decide +kernel
theorem dX4_evolve_93 : decode cX4_evolve 93 = .ok (.aload_n 0, 1) := by decide +kernel
theorem dX4_evolve_94 : decode cX4_evolve 94 = .ok (.iload_n 2, 1) := by decide +kernel
theorem dX4_evolve_95 : decode cX4_evolve 95 = .ok (.iload_n 3, 1) := by decide +kernel
theorem dX4_evolve_96 : decode cX4_evolve 96 = .ok (.invokevirtual 207, 3) := by decide +kernel
theorem dX4_evolve_99 : decode cX4_evolve 99 = .ok (.ireturn, 1) := by decide +kernel
theorem dX4_requireStep_0 : decode cX4_requireStep 0 = .ok (.iload_n 0, 1) := by decide +kernel
theorem dX4_requireStep_1 : decode cX4_requireStep 1 = .ok (.ifCond .lt 9, 3) := by decide +kernel
theorem dX4_requireStep_4 : decode cX4_requireStep 4 = .ok (.iload_n 0, 1) := by decide +kernel
theorem dX4_requireStep_5 : decode cX4_requireStep 5 = .ok (.bipush 16, 2) := by decide +kernel
theorem dX4_requireStep_7 : decode cX4_requireStep 7 = .ok (.if_icmp .le 13, 3) := by decide +kernel
theorem dX4_requireStep_10 : decode cX4_requireStep 10 = .ok (.new 165, 3) := by decide +kernel
theorem dX4_requireStep_13 : decode cX4_requireStep 13 = .ok (.dup, 1) := by decide +kernel
theorem dX4_requireStep_14 : decode cX4_requireStep 14 = .ok (.ldc 211, 2) := by decide +kernel
theorem dX4_requireStep_16 : decode cX4_requireStep 16 = .ok (.invokespecial 169, 3) := by decide +kernel
theorem dX4_requireStep_19 : decode cX4_requireStep 19 = .ok (.athrow, 1) := by decide +kernel
theorem dX4_requireStep_20 : decode cX4_requireStep 20 = .ok (.return_, 1) := by decide +kernel
theorem dX4_requireValue_0 : decode cX4_requireValue 0 = .ok (.iload_n 0, 1) := by decide +kernel
theorem dX4_requireValue_1 : decode cX4_requireValue 1 = .ok (.ifCond .lt 9, 3) := by decide +kernel
theorem dX4_requireValue_4 : decode cX4_requireValue 4 = .ok (.iload_n 0, 1) := by decide +kernel
theorem dX4_requireValue_5 : decode cX4_requireValue 5 = .ok (.bipush 100, 2) := by decide +kernel
theorem dX4_requireValue_7 : decode cX4_requireValue 7 = .ok (.if_icmp .lt 13, 3) := by decide +kernel
theorem dX4_requireValue_10 : decode cX4_requireValue 10 = .ok (.new 165, 3) := by decide +kernel
theorem dX4_requireValue_13 : decode cX4_requireValue 13 = .ok (.dup, 1) := by decide +kernel
theorem dX4_requireValue_14 : decode cX4_requireValue 14 = .ok (.ldc 213, 2) := by decide +kernel
theorem dX4_requireValue_16 : decode cX4_requireValue 16 = .ok (.invokespecial 169, 3) := by decide +kernel
theorem dX4_requireValue_19 : decode cX4_requireValue 19 = .ok (.athrow, 1) := by decide +kernel
theorem dX4_requireValue_20 : decode cX4_requireValue 20 = .ok (.return_, 1) := by decide +kernel
theorem dX4_requireAuction_0 : decode cX4_requireAuction 0 = .ok (.iload_n 0, 1) := by decide +kernel
theorem dX4_requireAuction_1 : decode cX4_requireAuction 1 = .ok (.ifCond .lt 8, 3) := by decide +kernel
theorem dX4_requireAuction_4 : decode cX4_requireAuction 4 = .ok (.iload_n 0, 1) := by decide +kernel
theorem dX4_requireAuction_5 : decode cX4_requireAuction 5 = .ok (.iconst 3, 1) := by decide +kernel
theorem dX4_requireAuction_6 : decode cX4_requireAuction 6 = .ok (.if_icmp .le 13, 3) := by decide +kernel
theorem dX4_requireAuction_9 : decode cX4_requireAuction 9 = .ok (.new 165, 3) := by decide +kernel
theorem dX4_requireAuction_12 : decode cX4_requireAuction 12 = .ok (.dup, 1) := by decide +kernel
theorem dX4_requireAuction_13 : decode cX4_requireAuction 13 = .ok (.ldc 215, 2) := by decide +kernel
theorem dX4_requireAuction_15 : decode cX4_requireAuction 15 = .ok (.invokespecial 169, 3) := by decide +kernel
theorem dX4_requireAuction_18 : decode cX4_requireAuction 18 = .ok (.athrow, 1) := by decide +kernel
theorem dX4_requireAuction_19 : decode cX4_requireAuction 19 = .ok (.return_, 1) := by decide +kernel
theorem dX4_requireInPool_0 : decode cX4_requireInPool 0 = .ok (.aload_n 0, 1) := by decide +kernel
theorem dX4_requireInPool_1 : decode cX4_requireInPool 1 = .ok (.getfield 129, 3) := by decide +kernel
theorem dX4_requireInPool_4 : decode cX4_requireInPool 4 = .ok (.ifCond .ne 13, 3) := by decide +kernel
theorem dX4_requireInPool_7 : decode cX4_requireInPool 7 = .ok (.new 68, 3) := by decide +kernel
theorem dX4_requireInPool_10 : decode cX4_requireInPool 10 = .ok (.dup, 1) := by decide +kernel
theorem dX4_requireInPool_11 : decode cX4_requireInPool 11 = .ok (.ldc 217, 2) := by decide +kernel
theorem dX4_requireInPool_13 : decode cX4_requireInPool 13 = .ok (.invokespecial 72, 3) := by decide +kernel
theorem dX4_requireInPool_16 : decode cX4_requireInPool 16 = .ok (.athrow, 1) := by decide +kernel
theorem dX4_requireInPool_17 : decode cX4_requireInPool 17 = .ok (.return_, 1) := by decide +kernel
theorem dX4_strategyAt_0 : decode cX4_strategyAt 0 = .ok (.iload_n 1, 1) := by decide +kernel
theorem dX4_strategyAt_1 : decode cX4_strategyAt 1 = .ok (.ifCond .lt 14, 3) := by decide +kernel
theorem dX4_strategyAt_4 : decode cX4_strategyAt 4 = .ok (.iload_n 1, 1) := by decide +kernel
theorem dX4_strategyAt_5 : decode cX4_strategyAt 5 = .ok (.aload_n 0, 1) := by decide +kernel
theorem dX4_strategyAt_6 : decode cX4_strategyAt 6 = .ok (.getfield 29, 3) := by decide +kernel
theorem dX4_strategyAt_9 : decode cX4_strategyAt 9 = .ok (.invokevirtual 94, 3) := by decide +kernel
theorem dX4_strategyAt_12 : decode cX4_strategyAt 12 = .ok (.if_icmp .lt 13, 3) := by decide +kernel
theorem dX4_strategyAt_15 : decode cX4_strategyAt 15 = .ok (.new 219, 3) := by decide +kernel
theorem dX4_strategyAt_18 : decode cX4_strategyAt 18 = .ok (.dup, 1) := by decide +kernel
theorem dX4_strategyAt_19 : decode cX4_strategyAt 19 = .ok (.ldc 221, 2) := by decide +kernel
theorem dX4_strategyAt_21 : decode cX4_strategyAt 21 = .ok (.invokespecial 223, 3) := by decide +kernel
theorem dX4_strategyAt_24 : decode cX4_strategyAt 24 = .ok (.athrow, 1) := by decide +kernel
theorem dX4_strategyAt_25 : decode cX4_strategyAt 25 = .ok (.aload_n 0, 1) := by decide +kernel
theorem dX4_strategyAt_26 : decode cX4_strategyAt 26 = .ok (.getfield 29, 3) := by decide +kernel
theorem dX4_strategyAt_29 : decode cX4_strategyAt 29 = .ok (.iload_n 1, 1) := by decide +kernel
theorem dX4_strategyAt_30 : decode cX4_strategyAt 30 = .ok (.invokevirtual 119, 3) := by decide +kernel
theorem dX4_strategyAt_33 : decode cX4_strategyAt 33 = .ok (.checkcast 111, 3) := by decide +kernel
theorem dX4_strategyAt_36 : decode cX4_strategyAt 36 = .ok (.areturn, 1) := by decide +kernel
theorem dX4_numberOf_0 : decode cX4_numberOf 0 = .ok (.iconst 0, 1) := by decide +kernel
theorem dX4_numberOf_1 : decode cX4_numberOf 1 = .ok (.istore_n 2, 1) := by decide +kernel
theorem dX4_numberOf_2 : decode cX4_numberOf 2 = .ok (.iload_n 2, 1) := by decide +kernel
theorem dX4_numberOf_3 : decode cX4_numberOf 3 = .ok (.aload_n 0, 1) := by decide +kernel
theorem dX4_numberOf_4 : decode cX4_numberOf 4 = .ok (.getfield 29, 3) := by decide +kernel
theorem dX4_numberOf_7 : decode cX4_numberOf 7 = .ok (.invokevirtual 94, 3) := by decide +kernel
theorem dX4_numberOf_10 : decode cX4_numberOf 10 = .ok (.if_icmp .ge 32, 3) := by decide +kernel
theorem dX4_numberOf_13 : decode cX4_numberOf 13 = .ok (.aload_n 0, 1) := by decide +kernel
theorem dX4_numberOf_14 : decode cX4_numberOf 14 = .ok (.getfield 29, 3) := by decide +kernel
theorem dX4_numberOf_17 : decode cX4_numberOf 17 = .ok (.iload_n 2, 1) := by decide +kernel
theorem dX4_numberOf_18 : decode cX4_numberOf 18 = .ok (.invokevirtual 119, 3) := by decide +kernel
theorem dX4_numberOf_21 : decode cX4_numberOf 21 = .ok (.checkcast 111, 3) := by decide +kernel
theorem dX4_numberOf_24 : decode cX4_numberOf 24 = .ok (.getfield 135, 3) := by decide +kernel
theorem dX4_numberOf_27 : decode cX4_numberOf 27 = .ok (.aload_n 1, 1) := by decide +kernel
theorem dX4_numberOf_28 : decode cX4_numberOf 28 = .ok (.invokevirtual 224, 3) := by decide +kernel
theorem dX4_numberOf_31 : decode cX4_numberOf 31 = .ok (.ifCond .eq 5, 3) := by decide +kernel
theorem dX4_numberOf_34 : decode cX4_numberOf 34 = .ok (.iload_n 2, 1) := by decide +kernel
theorem dX4_numberOf_35 : decode cX4_numberOf 35 = .ok (.ireturn, 1) := by decide +kernel
theorem dX4_numberOf_36 : decode cX4_numberOf 36 = .ok (.iinc 2 1, 3) := by decide +kernel
theorem dX4_numberOf_39 : decode cX4_numberOf 39 = .ok (.goto (-37), 3) := by decide +kernel
theorem dX4_numberOf_42 : decode cX4_numberOf 42 = .ok (.iconst (-1), 1) := by decide +kernel
theorem dX4_numberOf_43 : decode cX4_numberOf 43 = .ok (.ireturn, 1) := by decide +kernel
theorem dX4_keep_0 : decode cX4_keep 0 = .ok (.aload_n 0, 1) := by decide +kernel
theorem dX4_keep_1 : decode cX4_keep 1 = .ok (.getfield 29, 3) := by decide +kernel
theorem dX4_keep_4 : decode cX4_keep 4 = .ok (.invokevirtual 94, 3) := by decide +kernel
theorem dX4_keep_7 : decode cX4_keep 7 = .ok (.istore 4, 2) := by decide +kernel
theorem dX4_keep_9 : decode cX4_keep 9 = .ok (.new 111, 3) := by decide +kernel
theorem dX4_keep_12 : decode cX4_keep 12 = .ok (.dup, 1) := by decide +kernel
theorem dX4_keep_13 : decode cX4_keep 13 = .ok (.iload 4, 2) := by decide +kernel
theorem dX4_keep_15 : decode cX4_keep 15 = .ok (.aload_n 1, 1) := by decide +kernel
theorem dX4_keep_16 : decode cX4_keep 16 = .ok (.invokevirtual 228, 3) := by decide +kernel
theorem dX4_keep_19 : decode cX4_keep 19 = .ok (.iload_n 2, 1) := by decide +kernel
theorem dX4_keep_20 : decode cX4_keep 20 = .ok (.iload_n 3, 1) := by decide +kernel
theorem dX4_keep_21 : decode cX4_keep 21 = .ok (.invokespecial 232, 3) := by decide +kernel
theorem dX4_keep_24 : decode cX4_keep 24 = .ok (.astore 5, 2) := by decide +kernel
theorem dX4_keep_26 : decode cX4_keep 26 = .ok (.aload 5, 2) := by decide +kernel
theorem dX4_keep_28 : decode cX4_keep 28 = .ok (.aload_n 1, 1) := by decide +kernel
theorem dX4_keep_29 : decode cX4_keep 29 = .ok (.getfield 235, 3) := by decide +kernel
theorem dX4_keep_32 : decode cX4_keep 32 = .ok (.aload_n 0, 1) := by decide +kernel
theorem dX4_keep_33 : decode cX4_keep 33 = .ok (.iload_n 2, 1) := by decide +kernel
theorem dX4_keep_34 : decode cX4_keep 34 = .ok (.invokevirtual 238, 3) := by decide +kernel
theorem dX4_keep_37 : decode cX4_keep 37 = .ok (.ior, 1) := by decide +kernel
theorem dX4_keep_38 : decode cX4_keep 38 = .ok (.aload_n 0, 1) := by decide +kernel
theorem dX4_keep_39 : decode cX4_keep 39 = .ok (.iload_n 3, 1) := by decide +kernel
theorem dX4_keep_40 : decode cX4_keep 40 = .ok (.invokevirtual 238, 3) := by decide +kernel
theorem dX4_keep_43 : decode cX4_keep 43 = .ok (.ior, 1) := by decide +kernel
theorem dX4_keep_44 : decode cX4_keep 44 = .ok (.putfield 156, 3) := by decide +kernel
theorem dX4_keep_47 : decode cX4_keep 47 = .ok (.iconst 0, 1) := by decide +kernel
theorem dX4_keep_48 : decode cX4_keep 48 = .ok (.istore 6, 2) := by decide +kernel
theorem dX4_keep_50 : decode cX4_keep 50 = .ok (.iload 6, 2) := by decide +kernel
theorem dX4_keep_52 : decode cX4_keep 52 = .ok (.bipush 100, 2) := by decide +kernel
theorem dX4_keep_54 : decode cX4_keep 54 = .ok (.if_icmp .ge 29, 3) := by decide +kernel
theorem dX4_keep_57 : decode cX4_keep 57 = .ok (.aload 5, 2) := by decide +kernel
theorem dX4_keep_59 : decode cX4_keep 59 = .ok (.getfield 240, 3) := by decide +kernel
theorem dX4_keep_62 : decode cX4_keep 62 = .ok (.iload 6, 2) := by decide +kernel
theorem dX4_keep_64 : decode cX4_keep 64 = .ok (.aload_n 1, 1) := by decide +kernel
theorem dX4_keep_65 : decode cX4_keep 65 = .ok (.iload 6, 2) := by decide +kernel
theorem dX4_keep_67 : decode cX4_keep 67 = .ok (.aload_n 0, 1) := by decide +kernel
theorem dX4_keep_68 : decode cX4_keep 68 = .ok (.getfield 22, 3) := by decide +kernel
theorem dX4_keep_71 : decode cX4_keep 71 = .ok (.invokevirtual 243, 3) := by decide +kernel
theorem dX4_keep_74 : decode cX4_keep 74 = .ok (.invokevirtual 161, 3) := by decide +kernel
theorem dX4_keep_77 : decode cX4_keep 77 = .ok (.iinc 6 1, 3) := by decide +kernel
theorem dX4_keep_80 : decode cX4_keep 80 = .ok (.goto (-30), 3) := by decide +kernel
theorem dX4_keep_83 : decode cX4_keep 83 = .ok (.aload 5, 2) := by decide +kernel
theorem dX4_keep_85 : decode cX4_keep 85 = .ok (.aload_n 0, 1) := by decide +kernel
theorem dX4_keep_86 : decode cX4_keep 86 = .ok (.aload 5, 2) := by decide +kernel
theorem dX4_keep_88 : decode cX4_keep 88 = .ok (.invokevirtual 246, 3) := by decide +kernel
theorem dX4_keep_91 : decode cX4_keep 91 = .ok (.putfield 116, 3) := by decide +kernel
theorem dX4_keep_94 : decode cX4_keep 94 = .ok (.aload_n 0, 1) := by decide +kernel
theorem dX4_keep_95 : decode cX4_keep 95 = .ok (.getfield 29, 3) := by decide +kernel
theorem dX4_keep_98 : decode cX4_keep 98 = .ok (.aload 5, 2) := by decide +kernel
theorem dX4_keep_100 : decode cX4_keep 100 = .ok (.invokevirtual 250, 3) := by decide +kernel
theorem dX4_keep_103 : decode cX4_keep 103 = .ok (.pop, 1) := by decide +kernel
theorem dX4_keep_104 : decode cX4_keep 104 = .ok (.iload 4, 2) := by decide +kernel
theorem dX4_keep_106 : decode cX4_keep 106 = .ok (.ireturn, 1) := by decide +kernel
theorem dX4_stepsOfLine_0 : decode cX4_stepsOfLine 0 = .ok (.iload_n 1, 1) := by decide +kernel
theorem dX4_stepsOfLine_1 : decode cX4_stepsOfLine 1 = .ok (.ifCond .lt 14, 3) := by decide +kernel
theorem dX4_stepsOfLine_4 : decode cX4_stepsOfLine 4 = .ok (.iload_n 1, 1) := by decide +kernel
theorem dX4_stepsOfLine_5 : decode cX4_stepsOfLine 5 = .ok (.aload_n 0, 1) := by decide +kernel
theorem dX4_stepsOfLine_6 : decode cX4_stepsOfLine 6 = .ok (.getfield 29, 3) := by decide +kernel
theorem dX4_stepsOfLine_9 : decode cX4_stepsOfLine 9 = .ok (.invokevirtual 94, 3) := by decide +kernel
theorem dX4_stepsOfLine_12 : decode cX4_stepsOfLine 12 = .ok (.if_icmp .lt 5, 3) := by decide +kernel
theorem dX4_stepsOfLine_15 : decode cX4_stepsOfLine 15 = .ok (.iconst 0, 1) := by decide +kernel
theorem dX4_stepsOfLine_16 : decode cX4_stepsOfLine 16 = .ok (.ireturn, 1) := by decide +kernel
theorem dX4_stepsOfLine_17 : decode cX4_stepsOfLine 17 = .ok (.aload_n 0, 1) := by decide +kernel
theorem dX4_stepsOfLine_18 : decode cX4_stepsOfLine 18 = .ok (.getfield 29, 3) := by decide +kernel
theorem dX4_stepsOfLine_21 : decode cX4_stepsOfLine 21 = .ok (.iload_n 1, 1) := by decide +kernel
theorem dX4_stepsOfLine_22 : decode cX4_stepsOfLine 22 = .ok (.invokevirtual 119, 3) := by decide +kernel
theorem dX4_stepsOfLine_25 : decode cX4_stepsOfLine 25 = .ok (.checkcast 111, 3) := by decide +kernel
theorem dX4_stepsOfLine_28 : decode cX4_stepsOfLine 28 = .ok (.getfield 156, 3) := by decide +kernel
theorem dX4_stepsOfLine_31 : decode cX4_stepsOfLine 31 = .ok (.ireturn, 1) := by decide +kernel
theorem dX4_kindOf_0 : decode cX4_kindOf 0 = .ok (.iconst 0, 1) := by decide +kernel
theorem dX4_kindOf_1 : decode cX4_kindOf 1 = .ok (.istore_n 2, 1) := by decide +kernel
theorem dX4_kindOf_2 : decode cX4_kindOf 2 = .ok (.iload_n 2, 1) := by decide +kernel
theorem dX4_kindOf_3 : decode cX4_kindOf 3 = .ok (.aload_n 0, 1) := by decide +kernel
theorem dX4_kindOf_4 : decode cX4_kindOf 4 = .ok (.getfield 29, 3) := by decide +kernel
theorem dX4_kindOf_7 : decode cX4_kindOf 7 = .ok (.invokevirtual 94, 3) := by decide +kernel
theorem dX4_kindOf_10 : decode cX4_kindOf 10 = .ok (.if_icmp .ge 40, 3) := by decide +kernel
theorem dX4_kindOf_13 : decode cX4_kindOf 13 = .ok (.aload_n 0, 1) := by decide +kernel
theorem dX4_kindOf_14 : decode cX4_kindOf 14 = .ok (.getfield 29, 3) := by decide +kernel
theorem dX4_kindOf_17 : decode cX4_kindOf 17 = .ok (.iload_n 2, 1) := by decide +kernel
theorem dX4_kindOf_18 : decode cX4_kindOf 18 = .ok (.invokevirtual 119, 3) := by decide +kernel
theorem dX4_kindOf_21 : decode cX4_kindOf 21 = .ok (.checkcast 111, 3) := by decide +kernel
theorem dX4_kindOf_24 : decode cX4_kindOf 24 = .ok (.astore_n 3, 1) := by decide +kernel
theorem dX4_kindOf_25 : decode cX4_kindOf 25 = .ok (.aload_n 3, 1) := by decide +kernel
theorem dX4_kindOf_26 : decode cX4_kindOf 26 = .ok (.getfield 240, 3) := by decide +kernel
theorem dX4_kindOf_29 : decode cX4_kindOf 29 = .ok (.aload_n 1, 1) := by decide +kernel
theorem dX4_kindOf_30 : decode cX4_kindOf 30 = .ok (.getfield 240, 3) := by decide +kernel
theorem dX4_kindOf_33 : decode cX4_kindOf 33 = .ok (.invokevirtual 253, 3) := by decide +kernel
theorem dX4_kindOf_36 : decode cX4_kindOf 36 = .ok (.ifCond .eq 8, 3) := by decide +kernel
theorem dX4_kindOf_39 : decode cX4_kindOf 39 = .ok (.aload_n 3, 1) := by decide +kernel
theorem dX4_kindOf_40 : decode cX4_kindOf 40 = .ok (.getfield 116, 3) := by decide +kernel
theorem dX4_kindOf_43 : decode cX4_kindOf 43 = .ok (.ireturn, 1) := by decide +kernel
theorem dX4_kindOf_44 : decode cX4_kindOf 44 = .ok (.iinc 2 1, 3) := by decide +kernel
theorem dX4_kindOf_47 : decode cX4_kindOf 47 = .ok (.goto (-45), 3) := by decide +kernel
theorem dX4_kindOf_50 : decode cX4_kindOf 50 = .ok (.aload_n 1, 1) := by decide +kernel
theorem dX4_kindOf_51 : decode cX4_kindOf 51 = .ok (.getfield 256, 3) := by decide +kernel
theorem dX4_kindOf_54 : decode cX4_kindOf 54 = .ok (.ireturn, 1) := by decide +kernel
theorem dX4_bitOf_0 : decode cX4_bitOf 0 = .ok (.iconst 1, 1) := by decide +kernel
theorem dX4_bitOf_1 : decode cX4_bitOf 1 = .ok (.iload_n 0, 1) := by decide +kernel
theorem dX4_bitOf_2 : decode cX4_bitOf 2 = .ok (.ishl, 1) := by decide +kernel
theorem dX4_bitOf_3 : decode cX4_bitOf 3 = .ok (.ireturn, 1) := by decide +kernel
theorem dX4_poolSize_0 : decode cX4_poolSize 0 = .ok (.iconst 0, 1) := by decide +kernel
theorem dX4_poolSize_1 : decode cX4_poolSize 1 = .ok (.istore_n 1, 1) := by decide +kernel
theorem dX4_poolSize_2 : decode cX4_poolSize 2 = .ok (.iconst 0, 1) := by decide +kernel
theorem dX4_poolSize_3 : decode cX4_poolSize 3 = .ok (.istore_n 2, 1) := by decide +kernel
theorem dX4_poolSize_4 : decode cX4_poolSize 4 = .ok (.iload_n 2, 1) := by decide +kernel
theorem dX4_poolSize_5 : decode cX4_poolSize 5 = .ok (.aload_n 0, 1) := by decide +kernel
theorem dX4_poolSize_6 : decode cX4_poolSize 6 = .ok (.getfield 29, 3) := by decide +kernel
theorem dX4_poolSize_9 : decode cX4_poolSize 9 = .ok (.invokevirtual 94, 3) := by decide +kernel
theorem dX4_poolSize_12 : decode cX4_poolSize 12 = .ok (.if_icmp .ge 29, 3) := by decide +kernel
theorem dX4_poolSize_15 : decode cX4_poolSize 15 = .ok (.aload_n 0, 1) := by decide +kernel
theorem dX4_poolSize_16 : decode cX4_poolSize 16 = .ok (.getfield 29, 3) := by decide +kernel
theorem dX4_poolSize_19 : decode cX4_poolSize 19 = .ok (.iload_n 2, 1) := by decide +kernel
theorem dX4_poolSize_20 : decode cX4_poolSize 20 = .ok (.invokevirtual 119, 3) := by decide +kernel
theorem dX4_poolSize_23 : decode cX4_poolSize 23 = .ok (.checkcast 111, 3) := by decide +kernel
theorem dX4_poolSize_26 : decode cX4_poolSize 26 = .ok (.getfield 129, 3) := by decide +kernel
theorem dX4_poolSize_29 : decode cX4_poolSize 29 = .ok (.ifCond .eq 6, 3) := by decide +kernel
theorem dX4_poolSize_32 : decode cX4_poolSize 32 = .ok (.iinc 1 1, 3) := by decide +kernel
theorem dX4_poolSize_35 : decode cX4_poolSize 35 = .ok (.iinc 2 1, 3) := by decide +kernel
theorem dX4_poolSize_38 : decode cX4_poolSize 38 = .ok (.goto (-34), 3) := by decide +kernel
theorem dX4_poolSize_41 : decode cX4_poolSize 41 = .ok (.iload_n 1, 1) := by decide +kernel
theorem dX4_poolSize_42 : decode cX4_poolSize 42 = .ok (.ireturn, 1) := by decide +kernel
theorem dX4_wins_0 : decode cX4_wins 0 = .ok (.iload_n 1, 1) := by decide +kernel
theorem dX4_wins_1 : decode cX4_wins 1 = .ok (.iload_n 3, 1) := by decide +kernel
theorem dX4_wins_2 : decode cX4_wins 2 = .ok (.if_icmp .gt 13, 3) := by decide +kernel
theorem dX4_wins_5 : decode cX4_wins 5 = .ok (.iload_n 1, 1) := by decide +kernel
theorem dX4_wins_6 : decode cX4_wins 6 = .ok (.iload_n 3, 1) := by decide +kernel
theorem dX4_wins_7 : decode cX4_wins 7 = .ok (.if_icmp .ne 12, 3) := by decide +kernel
theorem dX4_wins_10 : decode cX4_wins 10 = .ok (.iload_n 0, 1) := by decide +kernel
theorem dX4_wins_11 : decode cX4_wins 11 = .ok (.iload_n 2, 1) := by decide +kernel
theorem dX4_wins_12 : decode cX4_wins 12 = .ok (.if_icmp .ge 7, 3) := by decide +kernel
theorem dX4_wins_15 : decode cX4_wins 15 = .ok (.iconst 1, 1) := by decide +kernel
theorem dX4_wins_16 : decode cX4_wins 16 = .ok (.goto 4, 3) := by decide +kernel
theorem dX4_wins_19 : decode cX4_wins 19 = .ok (.iconst 0, 1) := by decide +kernel
theorem dX4_wins_20 : decode cX4_wins 20 = .ok (.ireturn, 1) := by decide +kernel
theorem dX4_paid_0 : decode cX4_paid 0 = .ok (.iload_n 0, 1) := by decide +kernel
theorem dX4_paid_1 : decode cX4_paid 1 = .ok (.iconst 3, 1) := by decide +kernel
theorem dX4_paid_2 : decode cX4_paid 2 = .ok (.if_icmp .ne 5, 3) := by decide +kernel
theorem dX4_paid_5 : decode cX4_paid 5 = .ok (.iload_n 2, 1) := by decide +kernel
theorem dX4_paid_6 : decode cX4_paid 6 = .ok (.ireturn, 1) := by decide +kernel
theorem dX4_paid_7 : decode cX4_paid 7 = .ok (.iload_n 1, 1) := by decide +kernel
theorem dX4_paid_8 : decode cX4_paid 8 = .ok (.ifCond .ne 5, 3) := by decide +kernel
theorem dX4_paid_11 : decode cX4_paid 11 = .ok (.iconst 0, 1) := by decide +kernel
theorem dX4_paid_12 : decode cX4_paid 12 = .ok (.ireturn, 1) := by decide +kernel
theorem dX4_paid_13 : decode cX4_paid 13 = .ok (.iload_n 0, 1) := by decide +kernel
theorem dX4_paid_14 : decode cX4_paid 14 = .ok (.lookupswitch 34 #[(1, 26), (2, 28)], 26) := by decide +kernel
theorem dX4_paid_40 : decode cX4_paid 40 = .ok (.iload_n 3, 1) := by decide +kernel
theorem dX4_paid_41 : decode cX4_paid 41 = .ok (.ireturn, 1) := by decide +kernel
theorem dX4_paid_42 : decode cX4_paid 42 = .ok (.iload_n 2, 1) := by decide +kernel
theorem dX4_paid_43 : decode cX4_paid 43 = .ok (.iload_n 3, 1) := by decide +kernel
theorem dX4_paid_44 : decode cX4_paid 44 = .ok (.iadd, 1) := by decide +kernel
theorem dX4_paid_45 : decode cX4_paid 45 = .ok (.iconst 2, 1) := by decide +kernel
theorem dX4_paid_46 : decode cX4_paid 46 = .ok (.idiv, 1) := by decide +kernel
theorem dX4_paid_47 : decode cX4_paid 47 = .ok (.ireturn, 1) := by decide +kernel
theorem dX4_paid_48 : decode cX4_paid 48 = .ok (.iload_n 2, 1) := by decide +kernel
theorem dX4_paid_49 : decode cX4_paid 49 = .ok (.ireturn, 1) := by decide +kernel
theorem dX4_profitOf_0 : decode cX4_profitOf 0 = .ok (.iload_n 1, 1) := by decide +kernel
theorem dX4_profitOf_1 : decode cX4_profitOf 1 = .ok (.ifCond .eq 7, 3) := by decide +kernel
theorem dX4_profitOf_4 : decode cX4_profitOf 4 = .ok (.iload_n 2, 1) := by decide +kernel
theorem dX4_profitOf_5 : decode cX4_profitOf 5 = .ok (.goto 4, 3) := by decide +kernel
theorem dX4_profitOf_8 : decode cX4_profitOf 8 = .ok (.iconst 0, 1) := by decide +kernel
theorem dX4_profitOf_9 : decode cX4_profitOf 9 = .ok (.iload_n 0, 1) := by decide +kernel
theorem dX4_profitOf_10 : decode cX4_profitOf 10 = .ok (.iload_n 1, 1) := by decide +kernel
theorem dX4_profitOf_11 : decode cX4_profitOf 11 = .ok (.iload_n 3, 1) := by decide +kernel
theorem dX4_profitOf_12 : decode cX4_profitOf 12 = .ok (.iload 4, 2) := by decide +kernel
theorem dX4_profitOf_14 : decode cX4_profitOf 14 = .ok (.invokestatic 259, 3) := by decide +kernel
theorem dX4_profitOf_17 : decode cX4_profitOf 17 = .ok (.isub, 1) := by decide +kernel
theorem dX4_profitOf_18 : decode cX4_profitOf 18 = .ok (.ireturn, 1) := by decide +kernel
theorem dX4_profitAgainst_0 : decode cX4_profitAgainst 0 = .ok (.aload_n 1, 1) := by decide +kernel
theorem dX4_profitAgainst_1 : decode cX4_profitAgainst 1 = .ok (.iload_n 3, 1) := by decide +kernel
theorem dX4_profitAgainst_2 : decode cX4_profitAgainst 2 = .ok (.invokevirtual 110, 3) := by decide +kernel
theorem dX4_profitAgainst_5 : decode cX4_profitAgainst 5 = .ok (.istore 5, 2) := by decide +kernel
theorem dX4_profitAgainst_7 : decode cX4_profitAgainst 7 = .ok (.aload_n 2, 1) := by decide +kernel
theorem dX4_profitAgainst_8 : decode cX4_profitAgainst 8 = .ok (.iload 4, 2) := by decide +kernel
theorem dX4_profitAgainst_10 : decode cX4_profitAgainst 10 = .ok (.invokevirtual 110, 3) := by decide +kernel
theorem dX4_profitAgainst_13 : decode cX4_profitAgainst 13 = .ok (.istore 6, 2) := by decide +kernel
theorem dX4_profitAgainst_15 : decode cX4_profitAgainst 15 = .ok (.iload_n 0, 1) := by decide +kernel
theorem dX4_profitAgainst_16 : decode cX4_profitAgainst 16 = .ok (.aload_n 1, 1) := by decide +kernel
theorem dX4_profitAgainst_17 : decode cX4_profitAgainst 17 = .ok (.getfield 256, 3) := by decide +kernel
theorem dX4_profitAgainst_20 : decode cX4_profitAgainst 20 = .ok (.iload 5, 2) := by decide +kernel
theorem dX4_profitAgainst_22 : decode cX4_profitAgainst 22 = .ok (.aload_n 2, 1) := by decide +kernel
theorem dX4_profitAgainst_23 : decode cX4_profitAgainst 23 = .ok (.getfield 256, 3) := by decide +kernel
theorem dX4_profitAgainst_26 : decode cX4_profitAgainst 26 = .ok (.iload 6, 2) := by decide +kernel
theorem dX4_profitAgainst_28 : decode cX4_profitAgainst 28 = .ok (.invokestatic 263, 3) := by decide +kernel
theorem dX4_profitAgainst_31 : decode cX4_profitAgainst 31 = .ok (.iload_n 3, 1) := by decide +kernel
theorem dX4_profitAgainst_32 : decode cX4_profitAgainst 32 = .ok (.iload 5, 2) := by decide +kernel
theorem dX4_profitAgainst_34 : decode cX4_profitAgainst 34 = .ok (.iload 6, 2) := by decide +kernel
theorem dX4_profitAgainst_36 : decode cX4_profitAgainst 36 = .ok (.invokestatic 267, 3) := by decide +kernel
theorem dX4_profitAgainst_39 : decode cX4_profitAgainst 39 = .ok (.ireturn, 1) := by decide +kernel
theorem dX4_worthByStrategies_0 : decode cX4_worthByStrategies 0 = .ok (.iconst 0, 1) := by decide +kernel
theorem dX4_worthByStrategies_1 : decode cX4_worthByStrategies 1 = .ok (.istore_n 3, 1) := by decide +kernel
theorem dX4_worthByStrategies_2 : decode cX4_worthByStrategies 2 = .ok (.iconst 0, 1) := by decide +kernel
theorem dX4_worthByStrategies_3 : decode cX4_worthByStrategies 3 = .ok (.istore 4, 2) := by decide +kernel
theorem dX4_worthByStrategies_5 : decode cX4_worthByStrategies 5 = .ok (.iload 4, 2) := by decide +kernel
theorem dX4_worthByStrategies_7 : decode cX4_worthByStrategies 7 = .ok (.aload_n 0, 1) := by decide +kernel
theorem dX4_worthByStrategies_8 : decode cX4_worthByStrategies 8 = .ok (.getfield 29, 3) := by decide +kernel
theorem dX4_worthByStrategies_11 : decode cX4_worthByStrategies 11 = .ok (.invokevirtual 94, 3) := by decide +kernel
theorem dX4_worthByStrategies_14 : decode cX4_worthByStrategies 14 = .ok (.if_icmp .ge 54, 3) := by decide +kernel
theorem dX4_worthByStrategies_17 : decode cX4_worthByStrategies 17 = .ok (.aload_n 0, 1) := by decide +kernel
theorem dX4_worthByStrategies_18 : decode cX4_worthByStrategies 18 = .ok (.getfield 29, 3) := by decide +kernel
theorem dX4_worthByStrategies_21 : decode cX4_worthByStrategies 21 = .ok (.iload 4, 2) := by decide +kernel
theorem dX4_worthByStrategies_23 : decode cX4_worthByStrategies 23 = .ok (.invokevirtual 119, 3) := by decide +kernel
theorem dX4_worthByStrategies_26 : decode cX4_worthByStrategies 26 = .ok (.checkcast 111, 3) := by decide +kernel
theorem dX4_worthByStrategies_29 : decode cX4_worthByStrategies 29 = .ok (.astore 5, 2) := by decide +kernel
theorem dX4_worthByStrategies_31 : decode cX4_worthByStrategies 31 = .ok (.aload 5, 2) := by decide +kernel
theorem dX4_worthByStrategies_33 : decode cX4_worthByStrategies 33 = .ok (.getfield 129, 3) := by decide +kernel
theorem dX4_worthByStrategies_36 : decode cX4_worthByStrategies 36 = .ok (.ifCond .eq 26, 3) := by decide +kernel
theorem dX4_worthByStrategies_39 : decode cX4_worthByStrategies 39 = .ok (.aload 5, 2) := by decide +kernel
theorem dX4_worthByStrategies_41 : decode cX4_worthByStrategies 41 = .ok (.getfield 256, 3) := by decide +kernel
theorem dX4_worthByStrategies_44 : decode cX4_worthByStrategies 44 = .ok (.aload_n 2, 1) := by decide +kernel
theorem dX4_worthByStrategies_45 : decode cX4_worthByStrategies 45 = .ok (.getfield 256, 3) := by decide +kernel
theorem dX4_worthByStrategies_48 : decode cX4_worthByStrategies 48 = .ok (.if_icmp .eq 14, 3) := by decide +kernel
theorem dX4_worthByStrategies_51 : decode cX4_worthByStrategies 51 = .ok (.iload_n 3, 1) := by decide +kernel
theorem dX4_worthByStrategies_52 : decode cX4_worthByStrategies 52 = .ok (.aload_n 0, 1) := by decide +kernel
theorem dX4_worthByStrategies_53 : decode cX4_worthByStrategies 53 = .ok (.iload_n 1, 1) := by decide +kernel
theorem dX4_worthByStrategies_54 : decode cX4_worthByStrategies 54 = .ok (.aload_n 2, 1) := by decide +kernel
theorem dX4_worthByStrategies_55 : decode cX4_worthByStrategies 55 = .ok (.aload 5, 2) := by decide +kernel
theorem dX4_worthByStrategies_57 : decode cX4_worthByStrategies 57 = .ok (.invokevirtual 271, 3) := by decide +kernel
theorem dX4_worthByStrategies_60 : decode cX4_worthByStrategies 60 = .ok (.iadd, 1) := by decide +kernel
theorem dX4_worthByStrategies_61 : decode cX4_worthByStrategies 61 = .ok (.istore_n 3, 1) := by decide +kernel
theorem dX4_worthByStrategies_62 : decode cX4_worthByStrategies 62 = .ok (.iinc 4 1, 3) := by decide +kernel
theorem dX4_worthByStrategies_65 : decode cX4_worthByStrategies 65 = .ok (.goto (-60), 3) := by decide +kernel
theorem dX4_worthByStrategies_68 : decode cX4_worthByStrategies 68 = .ok (.iload_n 3, 1) := by decide +kernel
theorem dX4_worthByStrategies_69 : decode cX4_worthByStrategies 69 = .ok (.ireturn, 1) := by decide +kernel
theorem dX4_profitOfRounds_0 : decode cX4_profitOfRounds 0 = .ok (.iconst 0, 1) := by decide +kernel
theorem dX4_profitOfRounds_1 : decode cX4_profitOfRounds 1 = .ok (.istore 4, 2) := by decide +kernel
theorem dX4_profitOfRounds_3 : decode cX4_profitOfRounds 3 = .ok (.iconst 0, 1) := by decide +kernel
theorem dX4_profitOfRounds_4 : decode cX4_profitOfRounds 4 = .ok (.istore 5, 2) := by decide +kernel
theorem dX4_profitOfRounds_6 : decode cX4_profitOfRounds 6 = .ok (.iload 5, 2) := by decide +kernel
theorem dX4_profitOfRounds_8 : decode cX4_profitOfRounds 8 = .ok (.aload_n 0, 1) := by decide +kernel
theorem dX4_profitOfRounds_9 : decode cX4_profitOfRounds 9 = .ok (.getfield 49, 3) := by decide +kernel
theorem dX4_profitOfRounds_12 : decode cX4_profitOfRounds 12 = .ok (.if_icmp .ge 61, 3) := by decide +kernel
theorem dX4_profitOfRounds_15 : decode cX4_profitOfRounds 15 = .ok (.aload_n 0, 1) := by decide +kernel
theorem dX4_profitOfRounds_16 : decode cX4_profitOfRounds 16 = .ok (.getfield 42, 3) := by decide +kernel
theorem dX4_profitOfRounds_19 : decode cX4_profitOfRounds 19 = .ok (.iload 5, 2) := by decide +kernel
theorem dX4_profitOfRounds_21 : decode cX4_profitOfRounds 21 = .ok (.invokevirtual 181, 3) := by decide +kernel
theorem dX4_profitOfRounds_24 : decode cX4_profitOfRounds 24 = .ok (.istore 6, 2) := by decide +kernel
theorem dX4_profitOfRounds_26 : decode cX4_profitOfRounds 26 = .ok (.aload_n 0, 1) := by decide +kernel
theorem dX4_profitOfRounds_27 : decode cX4_profitOfRounds 27 = .ok (.getfield 46, 3) := by decide +kernel
theorem dX4_profitOfRounds_30 : decode cX4_profitOfRounds 30 = .ok (.iload 5, 2) := by decide +kernel
theorem dX4_profitOfRounds_32 : decode cX4_profitOfRounds 32 = .ok (.invokevirtual 181, 3) := by decide +kernel
theorem dX4_profitOfRounds_35 : decode cX4_profitOfRounds 35 = .ok (.istore 7, 2) := by decide +kernel
theorem dX4_profitOfRounds_37 : decode cX4_profitOfRounds 37 = .ok (.iload 4, 2) := by decide +kernel
theorem dX4_profitOfRounds_39 : decode cX4_profitOfRounds 39 = .ok (.iload_n 1, 1) := by decide +kernel
theorem dX4_profitOfRounds_40 : decode cX4_profitOfRounds 40 = .ok (.aload_n 2, 1) := by decide +kernel
theorem dX4_profitOfRounds_41 : decode cX4_profitOfRounds 41 = .ok (.aload_n 3, 1) := by decide +kernel
theorem dX4_profitOfRounds_42 : decode cX4_profitOfRounds 42 = .ok (.iload 6, 2) := by decide +kernel
theorem dX4_profitOfRounds_44 : decode cX4_profitOfRounds 44 = .ok (.iload 7, 2) := by decide +kernel
theorem dX4_profitOfRounds_46 : decode cX4_profitOfRounds 46 = .ok (.invokestatic 173, 3) := by decide +kernel
theorem dX4_profitOfRounds_49 : decode cX4_profitOfRounds 49 = .ok (.iadd, 1) := by decide +kernel
theorem dX4_profitOfRounds_50 : decode cX4_profitOfRounds 50 = .ok (.istore 4, 2) := by decide +kernel
theorem dX4_profitOfRounds_52 : decode cX4_profitOfRounds 52 = .ok (.iload 4, 2) := by decide +kernel
theorem dX4_profitOfRounds_54 : decode cX4_profitOfRounds 54 = .ok (.iload_n 1, 1) := by decide +kernel
theorem dX4_profitOfRounds_55 : decode cX4_profitOfRounds 55 = .ok (.aload_n 2, 1) := by decide +kernel
theorem dX4_profitOfRounds_56 : decode cX4_profitOfRounds 56 = .ok (.aload_n 3, 1) := by decide +kernel
theorem dX4_profitOfRounds_57 : decode cX4_profitOfRounds 57 = .ok (.iload 7, 2) := by decide +kernel
theorem dX4_profitOfRounds_59 : decode cX4_profitOfRounds 59 = .ok (.iload 6, 2) := by decide +kernel
theorem dX4_profitOfRounds_61 : decode cX4_profitOfRounds 61 = .ok (.invokestatic 173, 3) := by decide +kernel
theorem dX4_profitOfRounds_64 : decode cX4_profitOfRounds 64 = .ok (.iadd, 1) := by decide +kernel
theorem dX4_profitOfRounds_65 : decode cX4_profitOfRounds 65 = .ok (.istore 4, 2) := by decide +kernel
theorem dX4_profitOfRounds_67 : decode cX4_profitOfRounds 67 = .ok (.iinc 5 1, 3) := by decide +kernel
theorem dX4_profitOfRounds_70 : decode cX4_profitOfRounds 70 = .ok (.goto (-64), 3) := by decide +kernel
theorem dX4_profitOfRounds_73 : decode cX4_profitOfRounds 73 = .ok (.iload 4, 2) := by decide +kernel
theorem dX4_profitOfRounds_75 : decode cX4_profitOfRounds 75 = .ok (.ireturn, 1) := by decide +kernel
theorem dX4_layBids_0 : decode cX4_layBids 0 = .ok (.iconst 0, 1) := by decide +kernel
theorem dX4_layBids_1 : decode cX4_layBids 1 = .ok (.istore_n 3, 1) := by decide +kernel
theorem dX4_layBids_2 : decode cX4_layBids 2 = .ok (.iload_n 3, 1) := by decide +kernel
theorem dX4_layBids_3 : decode cX4_layBids 3 = .ok (.aload_n 0, 1) := by decide +kernel
theorem dX4_layBids_4 : decode cX4_layBids 4 = .ok (.getfield 29, 3) := by decide +kernel
theorem dX4_layBids_7 : decode cX4_layBids 7 = .ok (.invokevirtual 94, 3) := by decide +kernel
theorem dX4_layBids_10 : decode cX4_layBids 10 = .ok (.if_icmp .ge 41, 3) := by decide +kernel
theorem dX4_layBids_13 : decode cX4_layBids 13 = .ok (.aload_n 0, 1) := by decide +kernel
theorem dX4_layBids_14 : decode cX4_layBids 14 = .ok (.getfield 29, 3) := by decide +kernel
theorem dX4_layBids_17 : decode cX4_layBids 17 = .ok (.iload_n 3, 1) := by decide +kernel
theorem dX4_layBids_18 : decode cX4_layBids 18 = .ok (.invokevirtual 119, 3) := by decide +kernel
theorem dX4_layBids_21 : decode cX4_layBids 21 = .ok (.checkcast 111, 3) := by decide +kernel
theorem dX4_layBids_24 : decode cX4_layBids 24 = .ok (.astore 4, 2) := by decide +kernel
theorem dX4_layBids_26 : decode cX4_layBids 26 = .ok (.aload 4, 2) := by decide +kernel
theorem dX4_layBids_28 : decode cX4_layBids 28 = .ok (.getfield 129, 3) := by decide +kernel
theorem dX4_layBids_31 : decode cX4_layBids 31 = .ok (.ifCond .eq 14, 3) := by decide +kernel
theorem dX4_layBids_34 : decode cX4_layBids 34 = .ok (.aload_n 2, 1) := by decide +kernel
theorem dX4_layBids_35 : decode cX4_layBids 35 = .ok (.iload_n 3, 1) := by decide +kernel
theorem dX4_layBids_36 : decode cX4_layBids 36 = .ok (.aload 4, 2) := by decide +kernel
theorem dX4_layBids_38 : decode cX4_layBids 38 = .ok (.iload_n 1, 1) := by decide +kernel
theorem dX4_layBids_39 : decode cX4_layBids 39 = .ok (.invokevirtual 110, 3) := by decide +kernel
theorem dX4_layBids_42 : decode cX4_layBids 42 = .ok (.invokevirtual 161, 3) := by decide +kernel
theorem dX4_layBids_45 : decode cX4_layBids 45 = .ok (.iinc 3 1, 3) := by decide +kernel
theorem dX4_layBids_48 : decode cX4_layBids 48 = .ok (.goto (-46), 3) := by decide +kernel
theorem dX4_layBids_51 : decode cX4_layBids 51 = .ok (.return_, 1) := by decide +kernel
theorem dX4_profitInRows_0 : decode cX4_profitInRows 0 = .ok (.aload 4, 2) := by decide +kernel
theorem dX4_profitInRows_2 : decode cX4_profitInRows 2 = .ok (.iload_n 2, 1) := by decide +kernel
theorem dX4_profitInRows_3 : decode cX4_profitInRows 3 = .ok (.invokevirtual 181, 3) := by decide +kernel
theorem dX4_profitInRows_6 : decode cX4_profitInRows 6 = .ok (.istore 6, 2) := by decide +kernel
theorem dX4_profitInRows_8 : decode cX4_profitInRows 8 = .ok (.iconst 0, 1) := by decide +kernel
theorem dX4_profitInRows_9 : decode cX4_profitInRows 9 = .ok (.istore 7, 2) := by decide +kernel
theorem dX4_profitInRows_11 : decode cX4_profitInRows 11 = .ok (.iconst 0, 1) := by decide +kernel
theorem dX4_profitInRows_12 : decode cX4_profitInRows 12 = .ok (.istore 8, 2) := by decide +kernel
theorem dX4_profitInRows_14 : decode cX4_profitInRows 14 = .ok (.iload 8, 2) := by decide +kernel
theorem dX4_profitInRows_16 : decode cX4_profitInRows 16 = .ok (.aload_n 0, 1) := by decide +kernel
theorem dX4_profitInRows_17 : decode cX4_profitInRows 17 = .ok (.getfield 29, 3) := by decide +kernel
theorem dX4_profitInRows_20 : decode cX4_profitInRows 20 = .ok (.invokevirtual 94, 3) := by decide +kernel
theorem dX4_profitInRows_23 : decode cX4_profitInRows 23 = .ok (.if_icmp .ge 66, 3) := by decide +kernel
theorem dX4_profitInRows_26 : decode cX4_profitInRows 26 = .ok (.aload_n 0, 1) := by decide +kernel
theorem dX4_profitInRows_27 : decode cX4_profitInRows 27 = .ok (.getfield 29, 3) := by decide +kernel
theorem dX4_profitInRows_30 : decode cX4_profitInRows 30 = .ok (.iload 8, 2) := by decide +kernel
theorem dX4_profitInRows_32 : decode cX4_profitInRows 32 = .ok (.invokevirtual 119, 3) := by decide +kernel
theorem dX4_profitInRows_35 : decode cX4_profitInRows 35 = .ok (.checkcast 111, 3) := by decide +kernel
theorem dX4_profitInRows_38 : decode cX4_profitInRows 38 = .ok (.getfield 129, 3) := by decide +kernel
theorem dX4_profitInRows_41 : decode cX4_profitInRows 41 = .ok (.ifCond .eq 42, 3) := by decide +kernel
theorem dX4_profitInRows_44 : decode cX4_profitInRows 44 = .ok (.iload 8, 2) := by decide +kernel
theorem dX4_profitInRows_46 : decode cX4_profitInRows 46 = .ok (.iload_n 2, 1) := by decide +kernel
theorem dX4_profitInRows_47 : decode cX4_profitInRows 47 = .ok (.if_icmp .eq 36, 3) := by decide +kernel
theorem dX4_profitInRows_50 : decode cX4_profitInRows 50 = .ok (.aload 5, 2) := by decide +kernel
theorem dX4_profitInRows_52 : decode cX4_profitInRows 52 = .ok (.iload 8, 2) := by decide +kernel
theorem dX4_profitInRows_54 : decode cX4_profitInRows 54 = .ok (.invokevirtual 181, 3) := by decide +kernel
theorem dX4_profitInRows_57 : decode cX4_profitInRows 57 = .ok (.istore 9, 2) := by decide +kernel
theorem dX4_profitInRows_59 : decode cX4_profitInRows 59 = .ok (.iload 7, 2) := by decide +kernel
theorem dX4_profitInRows_61 : decode cX4_profitInRows 61 = .ok (.iload_n 1, 1) := by decide +kernel
theorem dX4_profitInRows_62 : decode cX4_profitInRows 62 = .ok (.iload_n 2, 1) := by decide +kernel
theorem dX4_profitInRows_63 : decode cX4_profitInRows 63 = .ok (.iload 6, 2) := by decide +kernel
theorem dX4_profitInRows_65 : decode cX4_profitInRows 65 = .ok (.iload 8, 2) := by decide +kernel
theorem dX4_profitInRows_67 : decode cX4_profitInRows 67 = .ok (.iload 9, 2) := by decide +kernel
theorem dX4_profitInRows_69 : decode cX4_profitInRows 69 = .ok (.invokestatic 263, 3) := by decide +kernel
theorem dX4_profitInRows_72 : decode cX4_profitInRows 72 = .ok (.iload_n 3, 1) := by decide +kernel
theorem dX4_profitInRows_73 : decode cX4_profitInRows 73 = .ok (.iload 6, 2) := by decide +kernel
theorem dX4_profitInRows_75 : decode cX4_profitInRows 75 = .ok (.iload 9, 2) := by decide +kernel
theorem dX4_profitInRows_77 : decode cX4_profitInRows 77 = .ok (.invokestatic 267, 3) := by decide +kernel
theorem dX4_profitInRows_80 : decode cX4_profitInRows 80 = .ok (.iadd, 1) := by decide +kernel
theorem dX4_profitInRows_81 : decode cX4_profitInRows 81 = .ok (.istore 7, 2) := by decide +kernel
theorem dX4_profitInRows_83 : decode cX4_profitInRows 83 = .ok (.iinc 8 1, 3) := by decide +kernel
theorem dX4_profitInRows_86 : decode cX4_profitInRows 86 = .ok (.goto (-72), 3) := by decide +kernel
theorem dX4_profitInRows_89 : decode cX4_profitInRows 89 = .ok (.iload 7, 2) := by decide +kernel
theorem dX4_profitInRows_91 : decode cX4_profitInRows 91 = .ok (.ireturn, 1) := by decide +kernel
theorem dX4_layWorths_0 : decode cX4_layWorths 0 = .ok (.iconst 0, 1) := by decide +kernel
theorem dX4_layWorths_1 : decode cX4_layWorths 1 = .ok (.istore_n 2, 1) := by decide +kernel
theorem dX4_layWorths_2 : decode cX4_layWorths 2 = .ok (.iload_n 2, 1) := by decide +kernel
theorem dX4_layWorths_3 : decode cX4_layWorths 3 = .ok (.aload_n 0, 1) := by decide +kernel
theorem dX4_layWorths_4 : decode cX4_layWorths 4 = .ok (.getfield 29, 3) := by decide +kernel
theorem dX4_layWorths_7 : decode cX4_layWorths 7 = .ok (.invokevirtual 94, 3) := by decide +kernel
theorem dX4_layWorths_10 : decode cX4_layWorths 10 = .ok (.if_icmp .ge 42, 3) := by decide +kernel
theorem dX4_layWorths_13 : decode cX4_layWorths 13 = .ok (.aload_n 0, 1) := by decide +kernel
theorem dX4_layWorths_14 : decode cX4_layWorths 14 = .ok (.getfield 29, 3) := by decide +kernel
theorem dX4_layWorths_17 : decode cX4_layWorths 17 = .ok (.iload_n 2, 1) := by decide +kernel
theorem dX4_layWorths_18 : decode cX4_layWorths 18 = .ok (.invokevirtual 119, 3) := by decide +kernel
theorem dX4_layWorths_21 : decode cX4_layWorths 21 = .ok (.checkcast 111, 3) := by decide +kernel
theorem dX4_layWorths_24 : decode cX4_layWorths 24 = .ok (.astore_n 3, 1) := by decide +kernel
theorem dX4_layWorths_25 : decode cX4_layWorths 25 = .ok (.aload_n 3, 1) := by decide +kernel
theorem dX4_layWorths_26 : decode cX4_layWorths 26 = .ok (.getfield 129, 3) := by decide +kernel
theorem dX4_layWorths_29 : decode cX4_layWorths 29 = .ok (.ifCond .eq 17, 3) := by decide +kernel
theorem dX4_layWorths_32 : decode cX4_layWorths 32 = .ok (.aload_n 0, 1) := by decide +kernel
theorem dX4_layWorths_33 : decode cX4_layWorths 33 = .ok (.getfield 58, 3) := by decide +kernel
theorem dX4_layWorths_36 : decode cX4_layWorths 36 = .ok (.iload_n 2, 1) := by decide +kernel
theorem dX4_layWorths_37 : decode cX4_layWorths 37 = .ok (.aload_n 0, 1) := by decide +kernel
theorem dX4_layWorths_38 : decode cX4_layWorths 38 = .ok (.iload_n 1, 1) := by decide +kernel
theorem dX4_layWorths_39 : decode cX4_layWorths 39 = .ok (.aload_n 3, 1) := by decide +kernel
theorem dX4_layWorths_40 : decode cX4_layWorths 40 = .ok (.invokevirtual 177, 3) := by decide +kernel
theorem dX4_layWorths_43 : decode cX4_layWorths 43 = .ok (.invokevirtual 161, 3) := by decide +kernel
theorem dX4_layWorths_46 : decode cX4_layWorths 46 = .ok (.iinc 2 1, 3) := by decide +kernel
theorem dX4_layWorths_49 : decode cX4_layWorths 49 = .ok (.goto (-47), 3) := by decide +kernel
theorem dX4_layWorths_52 : decode cX4_layWorths 52 = .ok (.return_, 1) := by decide +kernel
theorem dX4_strongestBut_0 : decode cX4_strongestBut 0 = .ok (.iconst (-1), 1) := by decide +kernel
theorem dX4_strongestBut_1 : decode cX4_strongestBut 1 = .ok (.istore_n 2, 1) := by decide +kernel
theorem dX4_strongestBut_2 : decode cX4_strongestBut 2 = .ok (.iconst 0, 1) := by decide +kernel
theorem dX4_strongestBut_3 : decode cX4_strongestBut 3 = .ok (.istore_n 3, 1) := by decide +kernel
theorem dX4_strongestBut_4 : decode cX4_strongestBut 4 = .ok (.iload_n 3, 1) := by decide +kernel
theorem dX4_strongestBut_5 : decode cX4_strongestBut 5 = .ok (.aload_n 0, 1) := by decide +kernel
theorem dX4_strongestBut_6 : decode cX4_strongestBut 6 = .ok (.getfield 29, 3) := by decide +kernel
theorem dX4_strongestBut_9 : decode cX4_strongestBut 9 = .ok (.invokevirtual 94, 3) := by decide +kernel
theorem dX4_strongestBut_12 : decode cX4_strongestBut 12 = .ok (.if_icmp .ge 57, 3) := by decide +kernel
theorem dX4_strongestBut_15 : decode cX4_strongestBut 15 = .ok (.aload_n 0, 1) := by decide +kernel
theorem dX4_strongestBut_16 : decode cX4_strongestBut 16 = .ok (.getfield 29, 3) := by decide +kernel
theorem dX4_strongestBut_19 : decode cX4_strongestBut 19 = .ok (.iload_n 3, 1) := by decide +kernel
theorem dX4_strongestBut_20 : decode cX4_strongestBut 20 = .ok (.invokevirtual 119, 3) := by decide +kernel
theorem dX4_strongestBut_23 : decode cX4_strongestBut 23 = .ok (.checkcast 111, 3) := by decide +kernel
theorem dX4_strongestBut_26 : decode cX4_strongestBut 26 = .ok (.getfield 129, 3) := by decide +kernel
theorem dX4_strongestBut_29 : decode cX4_strongestBut 29 = .ok (.ifCond .eq 34, 3) := by decide +kernel
theorem dX4_strongestBut_32 : decode cX4_strongestBut 32 = .ok (.iload_n 3, 1) := by decide +kernel
theorem dX4_strongestBut_33 : decode cX4_strongestBut 33 = .ok (.iload_n 1, 1) := by decide +kernel
theorem dX4_strongestBut_34 : decode cX4_strongestBut 34 = .ok (.if_icmp .eq 29, 3) := by decide +kernel
theorem dX4_strongestBut_37 : decode cX4_strongestBut 37 = .ok (.iload_n 2, 1) := by decide +kernel
theorem dX4_strongestBut_38 : decode cX4_strongestBut 38 = .ok (.iconst (-1), 1) := by decide +kernel
theorem dX4_strongestBut_39 : decode cX4_strongestBut 39 = .ok (.if_icmp .eq 22, 3) := by decide +kernel
theorem dX4_strongestBut_42 : decode cX4_strongestBut 42 = .ok (.aload_n 0, 1) := by decide +kernel
theorem dX4_strongestBut_43 : decode cX4_strongestBut 43 = .ok (.getfield 58, 3) := by decide +kernel
theorem dX4_strongestBut_46 : decode cX4_strongestBut 46 = .ok (.iload_n 3, 1) := by decide +kernel
theorem dX4_strongestBut_47 : decode cX4_strongestBut 47 = .ok (.invokevirtual 181, 3) := by decide +kernel
theorem dX4_strongestBut_50 : decode cX4_strongestBut 50 = .ok (.aload_n 0, 1) := by decide +kernel
theorem dX4_strongestBut_51 : decode cX4_strongestBut 51 = .ok (.getfield 58, 3) := by decide +kernel
theorem dX4_strongestBut_54 : decode cX4_strongestBut 54 = .ok (.iload_n 2, 1) := by decide +kernel
theorem dX4_strongestBut_55 : decode cX4_strongestBut 55 = .ok (.invokevirtual 181, 3) := by decide +kernel
theorem dX4_strongestBut_58 : decode cX4_strongestBut 58 = .ok (.if_icmp .le 5, 3) := by decide +kernel
theorem dX4_strongestBut_61 : decode cX4_strongestBut 61 = .ok (.iload_n 3, 1) := by decide +kernel
theorem dX4_strongestBut_62 : decode cX4_strongestBut 62 = .ok (.istore_n 2, 1) := by decide +kernel
theorem dX4_strongestBut_63 : decode cX4_strongestBut 63 = .ok (.iinc 3 1, 3) := by decide +kernel
theorem dX4_strongestBut_66 : decode cX4_strongestBut 66 = .ok (.goto (-62), 3) := by decide +kernel
theorem dX4_strongestBut_69 : decode cX4_strongestBut 69 = .ok (.iload_n 2, 1) := by decide +kernel
theorem dX4_strongestBut_70 : decode cX4_strongestBut 70 = .ok (.ireturn, 1) := by decide +kernel
theorem dX4_weakest_0 : decode cX4_weakest 0 = .ok (.iconst (-1), 1) := by decide +kernel
theorem dX4_weakest_1 : decode cX4_weakest 1 = .ok (.istore_n 1, 1) := by decide +kernel
theorem dX4_weakest_2 : decode cX4_weakest 2 = .ok (.iconst 0, 1) := by decide +kernel
theorem dX4_weakest_3 : decode cX4_weakest 3 = .ok (.istore_n 2, 1) := by decide +kernel
theorem dX4_weakest_4 : decode cX4_weakest 4 = .ok (.iload_n 2, 1) := by decide +kernel
theorem dX4_weakest_5 : decode cX4_weakest 5 = .ok (.aload_n 0, 1) := by decide +kernel
theorem dX4_weakest_6 : decode cX4_weakest 6 = .ok (.getfield 29, 3) := by decide +kernel
theorem dX4_weakest_9 : decode cX4_weakest 9 = .ok (.invokevirtual 94, 3) := by decide +kernel
theorem dX4_weakest_12 : decode cX4_weakest 12 = .ok (.if_icmp .ge 52, 3) := by decide +kernel
theorem dX4_weakest_15 : decode cX4_weakest 15 = .ok (.aload_n 0, 1) := by decide +kernel
theorem dX4_weakest_16 : decode cX4_weakest 16 = .ok (.getfield 29, 3) := by decide +kernel
theorem dX4_weakest_19 : decode cX4_weakest 19 = .ok (.iload_n 2, 1) := by decide +kernel
theorem dX4_weakest_20 : decode cX4_weakest 20 = .ok (.invokevirtual 119, 3) := by decide +kernel
theorem dX4_weakest_23 : decode cX4_weakest 23 = .ok (.checkcast 111, 3) := by decide +kernel
theorem dX4_weakest_26 : decode cX4_weakest 26 = .ok (.getfield 129, 3) := by decide +kernel
theorem dX4_weakest_29 : decode cX4_weakest 29 = .ok (.ifCond .eq 29, 3) := by decide +kernel
theorem dX4_weakest_32 : decode cX4_weakest 32 = .ok (.iload_n 1, 1) := by decide +kernel
theorem dX4_weakest_33 : decode cX4_weakest 33 = .ok (.iconst (-1), 1) := by decide +kernel
theorem dX4_weakest_34 : decode cX4_weakest 34 = .ok (.if_icmp .eq 22, 3) := by decide +kernel
theorem dX4_weakest_37 : decode cX4_weakest 37 = .ok (.aload_n 0, 1) := by decide +kernel
theorem dX4_weakest_38 : decode cX4_weakest 38 = .ok (.getfield 58, 3) := by decide +kernel
theorem dX4_weakest_41 : decode cX4_weakest 41 = .ok (.iload_n 2, 1) := by decide +kernel
theorem dX4_weakest_42 : decode cX4_weakest 42 = .ok (.invokevirtual 181, 3) := by decide +kernel
theorem dX4_weakest_45 : decode cX4_weakest 45 = .ok (.aload_n 0, 1) := by decide +kernel
theorem dX4_weakest_46 : decode cX4_weakest 46 = .ok (.getfield 58, 3) := by decide +kernel
theorem dX4_weakest_49 : decode cX4_weakest 49 = .ok (.iload_n 1, 1) := by decide +kernel
theorem dX4_weakest_50 : decode cX4_weakest 50 = .ok (.invokevirtual 181, 3) := by decide +kernel
theorem dX4_weakest_53 : decode cX4_weakest 53 = .ok (.if_icmp .gt 5, 3) := by decide +kernel
theorem dX4_weakest_56 : decode cX4_weakest 56 = .ok (.iload_n 2, 1) := by decide +kernel
theorem dX4_weakest_57 : decode cX4_weakest 57 = .ok (.istore_n 1, 1) := by decide +kernel
theorem dX4_weakest_58 : decode cX4_weakest 58 = .ok (.iinc 2 1, 3) := by decide +kernel
theorem dX4_weakest_61 : decode cX4_weakest 61 = .ok (.goto (-57), 3) := by decide +kernel
theorem dX4_weakest_64 : decode cX4_weakest 64 = .ok (.iload_n 1, 1) := by decide +kernel
theorem dX4_weakest_65 : decode cX4_weakest 65 = .ok (.ireturn, 1) := by decide +kernel
theorem dX4_cross_0 : decode cX4_cross 0 = .ok (.aload_n 0, 1) := by decide +kernel
theorem dX4_cross_1 : decode cX4_cross 1 = .ok (.getfield 16, 3) := by decide +kernel
theorem dX4_cross_4 : decode cX4_cross 4 = .ok (.invokevirtual 82, 3) := by decide +kernel
theorem dX4_cross_7 : decode cX4_cross 7 = .ok (.aload_n 0, 1) := by decide +kernel
theorem dX4_cross_8 : decode cX4_cross 8 = .ok (.getfield 16, 3) := by decide +kernel
theorem dX4_cross_11 : decode cX4_cross 11 = .ok (.aload_n 1, 1) := by decide +kernel
theorem dX4_cross_12 : decode cX4_cross 12 = .ok (.iconst 0, 1) := by decide +kernel
theorem dX4_cross_13 : decode cX4_cross 13 = .ok (.aload_n 1, 1) := by decide +kernel
theorem dX4_cross_14 : decode cX4_cross 14 = .ok (.invokevirtual 78, 3) := by decide +kernel
theorem dX4_cross_17 : decode cX4_cross 17 = .ok (.iconst 1, 1) := by decide +kernel
theorem dX4_cross_18 : decode cX4_cross 18 = .ok (.iadd, 1) := by decide +kernel
theorem dX4_cross_19 : decode cX4_cross 19 = .ok (.iconst 2, 1) := by decide +kernel
theorem dX4_cross_20 : decode cX4_cross 20 = .ok (.idiv, 1) := by decide +kernel
theorem dX4_cross_21 : decode cX4_cross 21 = .ok (.invokevirtual 275, 3) := by decide +kernel
theorem dX4_cross_24 : decode cX4_cross 24 = .ok (.aload_n 0, 1) := by decide +kernel
theorem dX4_cross_25 : decode cX4_cross 25 = .ok (.getfield 16, 3) := by decide +kernel
theorem dX4_cross_28 : decode cX4_cross 28 = .ok (.aload_n 2, 1) := by decide +kernel
theorem dX4_cross_29 : decode cX4_cross 29 = .ok (.aload_n 2, 1) := by decide +kernel
theorem dX4_cross_30 : decode cX4_cross 30 = .ok (.invokevirtual 78, 3) := by decide +kernel
theorem dX4_cross_33 : decode cX4_cross 33 = .ok (.aload_n 2, 1) := by decide +kernel
theorem dX4_cross_34 : decode cX4_cross 34 = .ok (.invokevirtual 78, 3) := by decide +kernel
theorem dX4_cross_37 : decode cX4_cross 37 = .ok (.iconst 2, 1) := by decide +kernel
theorem dX4_cross_38 : decode cX4_cross 38 = .ok (.idiv, 1) := by decide +kernel
theorem dX4_cross_39 : decode cX4_cross 39 = .ok (.isub, 1) := by decide +kernel
theorem dX4_cross_40 : decode cX4_cross 40 = .ok (.aload_n 2, 1) := by decide +kernel
theorem dX4_cross_41 : decode cX4_cross 41 = .ok (.invokevirtual 78, 3) := by decide +kernel
theorem dX4_cross_44 : decode cX4_cross 44 = .ok (.invokevirtual 275, 3) := by decide +kernel
theorem dX4_cross_47 : decode cX4_cross 47 = .ok (.return_, 1) := by decide +kernel
theorem dX4_letChildJoin_0 : decode cX4_letChildJoin 0 = .ok (.aload_n 0, 1) := by decide +kernel
theorem dX4_letChildJoin_1 : decode cX4_letChildJoin 1 = .ok (.getfield 16, 3) := by decide +kernel
theorem dX4_letChildJoin_4 : decode cX4_letChildJoin 4 = .ok (.invokevirtual 85, 3) := by decide +kernel
theorem dX4_letChildJoin_7 : decode cX4_letChildJoin 7 = .ok (.ifCond .eq 17, 3) := by decide +kernel
theorem dX4_letChildJoin_10 : decode cX4_letChildJoin 10 = .ok (.aload_n 0, 1) := by decide +kernel
theorem dX4_letChildJoin_11 : decode cX4_letChildJoin 11 = .ok (.getfield 16, 3) := by decide +kernel
theorem dX4_letChildJoin_14 : decode cX4_letChildJoin 14 = .ok (.aload_n 0, 1) := by decide +kernel
theorem dX4_letChildJoin_15 : decode cX4_letChildJoin 15 = .ok (.getfield 33, 3) := by decide +kernel
theorem dX4_letChildJoin_18 : decode cX4_letChildJoin 18 = .ok (.invokevirtual 138, 3) := by decide +kernel
theorem dX4_letChildJoin_21 : decode cX4_letChildJoin 21 = .ok (.ifCond .eq 5, 3) := by decide +kernel
theorem dX4_letChildJoin_24 : decode cX4_letChildJoin 24 = .ok (.iconst (-1), 1) := by decide +kernel
theorem dX4_letChildJoin_25 : decode cX4_letChildJoin 25 = .ok (.ireturn, 1) := by decide +kernel
theorem dX4_letChildJoin_26 : decode cX4_letChildJoin 26 = .ok (.aload_n 0, 1) := by decide +kernel
theorem dX4_letChildJoin_27 : decode cX4_letChildJoin 27 = .ok (.aload_n 0, 1) := by decide +kernel
theorem dX4_letChildJoin_28 : decode cX4_letChildJoin 28 = .ok (.getfield 16, 3) := by decide +kernel
theorem dX4_letChildJoin_31 : decode cX4_letChildJoin 31 = .ok (.invokevirtual 90, 3) := by decide +kernel
theorem dX4_letChildJoin_34 : decode cX4_letChildJoin 34 = .ok (.istore_n 3, 1) := by decide +kernel
theorem dX4_letChildJoin_35 : decode cX4_letChildJoin 35 = .ok (.iload_n 3, 1) := by decide +kernel
theorem dX4_letChildJoin_36 : decode cX4_letChildJoin 36 = .ok (.iconst (-1), 1) := by decide +kernel
theorem dX4_letChildJoin_37 : decode cX4_letChildJoin 37 = .ok (.if_icmp .ne 14, 3) := by decide +kernel
theorem dX4_letChildJoin_40 : decode cX4_letChildJoin 40 = .ok (.aload_n 0, 1) := by decide +kernel
theorem dX4_letChildJoin_41 : decode cX4_letChildJoin 41 = .ok (.aload_n 0, 1) := by decide +kernel
theorem dX4_letChildJoin_42 : decode cX4_letChildJoin 42 = .ok (.getfield 16, 3) := by decide +kernel
theorem dX4_letChildJoin_45 : decode cX4_letChildJoin 45 = .ok (.iload_n 1, 1) := by decide +kernel
theorem dX4_letChildJoin_46 : decode cX4_letChildJoin 46 = .ok (.iload_n 2, 1) := by decide +kernel
theorem dX4_letChildJoin_47 : decode cX4_letChildJoin 47 = .ok (.invokevirtual 99, 3) := by decide +kernel
theorem dX4_letChildJoin_50 : decode cX4_letChildJoin 50 = .ok (.istore_n 3, 1) := by decide +kernel
theorem dX4_letChildJoin_51 : decode cX4_letChildJoin 51 = .ok (.aload_n 0, 1) := by decide +kernel
theorem dX4_letChildJoin_52 : decode cX4_letChildJoin 52 = .ok (.iload_n 3, 1) := by decide +kernel
theorem dX4_letChildJoin_53 : decode cX4_letChildJoin 53 = .ok (.invokevirtual 103, 3) := by decide +kernel
theorem dX4_letChildJoin_56 : decode cX4_letChildJoin 56 = .ok (.astore 4, 2) := by decide +kernel
theorem dX4_letChildJoin_58 : decode cX4_letChildJoin 58 = .ok (.aload 4, 2) := by decide +kernel
theorem dX4_letChildJoin_60 : decode cX4_letChildJoin 60 = .ok (.getfield 129, 3) := by decide +kernel
theorem dX4_letChildJoin_63 : decode cX4_letChildJoin 63 = .ok (.ifCond .eq 5, 3) := by decide +kernel
theorem dX4_letChildJoin_66 : decode cX4_letChildJoin 66 = .ok (.iconst (-1), 1) := by decide +kernel
theorem dX4_letChildJoin_67 : decode cX4_letChildJoin 67 = .ok (.ireturn, 1) := by decide +kernel
theorem dX4_letChildJoin_68 : decode cX4_letChildJoin 68 = .ok (.aload 4, 2) := by decide +kernel
theorem dX4_letChildJoin_70 : decode cX4_letChildJoin 70 = .ok (.iconst 1, 1) := by decide +kernel
theorem dX4_letChildJoin_71 : decode cX4_letChildJoin 71 = .ok (.putfield 129, 3) := by decide +kernel
theorem dX4_letChildJoin_74 : decode cX4_letChildJoin 74 = .ok (.iload_n 3, 1) := by decide +kernel
theorem dX4_letChildJoin_75 : decode cX4_letChildJoin 75 = .ok (.ireturn, 1) := by decide +kernel
