theorem d_H_copyContents_37 : decode prog_11_method_4_code 37 = .ok (.aload_n 0, 1) := by decide +kernel
theorem d_H_copyContents_38 : decode prog_11_method_4_code 38 = .ok (.getfield 22, 3) := by decide +kernel
theorem d_H_copyContents_41 : decode prog_11_method_4_code 41 = .ok (.iconst 0, 1) := by decide +kernel
theorem d_H_copyContents_42 : decode prog_11_method_4_code 42 = .ok (.iconst 3, 1) := by decide +kernel
theorem d_H_copyContents_43 : decode prog_11_method_4_code 43 = .ok (.invokestatic 25, 3) := by decide +kernel
theorem d_H_copyContents_46 : decode prog_11_method_4_code 46 = .ok (.return_, 1) := by decide +kernel
theorem d_R_changeStore_0 : decode prog_9_method_2_code 0 = .ok (.aload_n 1, 1) := by decide +kernel
theorem d_R_changeStore_1 : decode prog_9_method_2_code 1 = .ok (.getfield 25, 3) := by decide +kernel
theorem d_R_changeStore_4 : decode prog_9_method_2_code 4 = .ok (.aload_n 0, 1) := by decide +kernel
theorem d_R_changeStore_5 : decode prog_9_method_2_code 5 = .ok (.getfield 19, 3) := by decide +kernel
theorem d_R_changeStore_8 : decode prog_9_method_2_code 8 = .ok (.invokestatic 31, 3) := by decide +kernel
theorem d_R_changeStore_11 : decode prog_9_method_2_code 11 = .ok (.aaload, 1) := by decide +kernel
theorem d_R_changeStore_12 : decode prog_9_method_2_code 12 = .ok (.aload_n 0, 1) := by decide +kernel
theorem d_R_changeStore_13 : decode prog_9_method_2_code 13 = .ok (.invokevirtual 37, 3) := by decide +kernel
theorem d_R_changeStore_16 : decode prog_9_method_2_code 16 = .ok (.return_, 1) := by decide +kernel
theorem d_S_shardOf_0 : decode prog_1_method_21_code 0 = .ok (.iload_n 0, 1) := by decide +kernel
theorem d_S_shardOf_1 : decode prog_1_method_21_code 1 = .ok (.bipush 8, 2) := by decide +kernel
theorem d_S_shardOf_3 : decode prog_1_method_21_code 3 = .ok (.irem, 1) := by decide +kernel
theorem d_S_shardOf_4 : decode prog_1_method_21_code 4 = .ok (.ireturn, 1) := by decide +kernel
theorem d_H_serve_0 : decode prog_11_method_5_code 0 = .ok (.aload_n 0, 1) := by decide +kernel
theorem d_H_serve_1 : decode prog_11_method_5_code 1 = .ok (.getfield 9, 3) := by decide +kernel
theorem d_H_serve_4 : decode prog_11_method_5_code 4 = .ok (.iconst 1, 1) := by decide +kernel
theorem d_H_serve_5 : decode prog_11_method_5_code 5 = .ok (.if_icmp .ne 19, 3) := by decide +kernel
theorem d_H_serve_8 : decode prog_11_method_5_code 8 = .ok (.aload_n 1, 1) := by decide +kernel
theorem d_H_serve_9 : decode prog_11_method_5_code 9 = .ok (.getfield 31, 3) := by decide +kernel
theorem d_H_serve_12 : decode prog_11_method_5_code 12 = .ok (.aload_n 0, 1) := by decide +kernel
theorem d_H_serve_13 : decode prog_11_method_5_code 13 = .ok (.getfield 19, 3) := by decide +kernel
theorem d_H_serve_16 : decode prog_11_method_5_code 16 = .ok (.aload_n 1, 1) := by decide +kernel
theorem d_H_serve_17 : decode prog_11_method_5_code 17 = .ok (.getfield 36, 3) := by decide +kernel
theorem d_H_serve_20 : decode prog_11_method_5_code 20 = .ok (.iaload, 1) := by decide +kernel
theorem d_H_serve_21 : decode prog_11_method_5_code 21 = .ok (.if_icmp .gt 4, 3) := by decide +kernel
theorem d_H_serve_24 : decode prog_11_method_5_code 24 = .ok (.return_, 1) := by decide +kernel
theorem d_H_serve_25 : decode prog_11_method_5_code 25 = .ok (.aload_n 1, 1) := by decide +kernel
theorem d_H_serve_26 : decode prog_11_method_5_code 26 = .ok (.getfield 39, 3) := by decide +kernel
theorem d_H_serve_29 : decode prog_11_method_5_code 29 = .ok (.invokestatic 42, 3) := by decide +kernel
theorem d_H_serve_32 : decode prog_11_method_5_code 32 = .ok (.istore_n 2, 1) := by decide +kernel
theorem d_H_serve_33 : decode prog_11_method_5_code 33 = .ok (.aload_n 1, 1) := by decide +kernel
theorem d_H_serve_34 : decode prog_11_method_5_code 34 = .ok (.getfield 46, 3) := by decide +kernel
theorem d_H_serve_37 : decode prog_11_method_5_code 37 = .ok (.iconst 1, 1) := by decide +kernel
theorem d_H_serve_38 : decode prog_11_method_5_code 38 = .ok (.if_icmp .ne 16, 3) := by decide +kernel
theorem d_H_serve_41 : decode prog_11_method_5_code 41 = .ok (.aload_n 0, 1) := by decide +kernel
theorem d_H_serve_42 : decode prog_11_method_5_code 42 = .ok (.getfield 15, 3) := by decide +kernel
theorem d_H_serve_45 : decode prog_11_method_5_code 45 = .ok (.iload_n 2, 1) := by decide +kernel
theorem d_H_serve_46 : decode prog_11_method_5_code 46 = .ok (.aload_n 1, 1) := by decide +kernel
theorem d_H_serve_47 : decode prog_11_method_5_code 47 = .ok (.getfield 49, 3) := by decide +kernel
theorem d_H_serve_50 : decode prog_11_method_5_code 50 = .ok (.iastore, 1) := by decide +kernel
theorem d_H_serve_51 : decode prog_11_method_5_code 51 = .ok (.goto 32, 3) := by decide +kernel
theorem d_H_serve_54 : decode prog_11_method_5_code 54 = .ok (.aload_n 1, 1) := by decide +kernel
theorem d_H_serve_55 : decode prog_11_method_5_code 55 = .ok (.getfield 46, 3) := by decide +kernel
theorem d_H_serve_58 : decode prog_11_method_5_code 58 = .ok (.iconst 2, 1) := by decide +kernel
theorem d_H_serve_59 : decode prog_11_method_5_code 59 = .ok (.if_icmp .ne 24, 3) := by decide +kernel
theorem d_H_serve_62 : decode prog_11_method_5_code 62 = .ok (.aload_n 0, 1) := by decide +kernel
theorem d_H_serve_63 : decode prog_11_method_5_code 63 = .ok (.getfield 15, 3) := by decide +kernel
theorem d_H_serve_66 : decode prog_11_method_5_code 66 = .ok (.iload_n 2, 1) := by decide +kernel
theorem d_H_serve_67 : decode prog_11_method_5_code 67 = .ok (.aload_n 0, 1) := by decide +kernel
theorem d_H_serve_68 : decode prog_11_method_5_code 68 = .ok (.getfield 15, 3) := by decide +kernel
theorem d_H_serve_71 : decode prog_11_method_5_code 71 = .ok (.iload_n 2, 1) := by decide +kernel
theorem d_H_serve_72 : decode prog_11_method_5_code 72 = .ok (.iaload, 1) := by decide +kernel
theorem d_H_serve_73 : decode prog_11_method_5_code 73 = .ok (.aload_n 1, 1) := by decide +kernel
theorem d_H_serve_74 : decode prog_11_method_5_code 74 = .ok (.getfield 49, 3) := by decide +kernel
theorem d_H_serve_77 : decode prog_11_method_5_code 77 = .ok (.iadd, 1) := by decide +kernel
theorem d_H_serve_78 : decode prog_11_method_5_code 78 = .ok (.sipush 1000, 3) := by decide +kernel
theorem d_H_serve_81 : decode prog_11_method_5_code 81 = .ok (.irem, 1) := by decide +kernel
theorem d_H_serve_82 : decode prog_11_method_5_code 82 = .ok (.iastore, 1) := by decide +kernel
theorem d_H_serve_83 : decode prog_11_method_5_code 83 = .ok (.aload_n 0, 1) := by decide +kernel
theorem d_H_serve_84 : decode prog_11_method_5_code 84 = .ok (.getfield 19, 3) := by decide +kernel
theorem d_H_serve_87 : decode prog_11_method_5_code 87 = .ok (.aload_n 1, 1) := by decide +kernel
theorem d_H_serve_88 : decode prog_11_method_5_code 88 = .ok (.getfield 36, 3) := by decide +kernel
theorem d_H_serve_91 : decode prog_11_method_5_code 91 = .ok (.aload_n 1, 1) := by decide +kernel
theorem d_H_serve_92 : decode prog_11_method_5_code 92 = .ok (.getfield 31, 3) := by decide +kernel
theorem d_H_serve_95 : decode prog_11_method_5_code 95 = .ok (.iastore, 1) := by decide +kernel
theorem d_H_serve_96 : decode prog_11_method_5_code 96 = .ok (.aload_n 0, 1) := by decide +kernel
theorem d_H_serve_97 : decode prog_11_method_5_code 97 = .ok (.getfield 22, 3) := by decide +kernel
theorem d_H_serve_100 : decode prog_11_method_5_code 100 = .ok (.aload_n 1, 1) := by decide +kernel
theorem d_H_serve_101 : decode prog_11_method_5_code 101 = .ok (.getfield 36, 3) := by decide +kernel
theorem d_H_serve_104 : decode prog_11_method_5_code 104 = .ok (.aload_n 0, 1) := by decide +kernel
theorem d_H_serve_105 : decode prog_11_method_5_code 105 = .ok (.getfield 15, 3) := by decide +kernel
theorem d_H_serve_108 : decode prog_11_method_5_code 108 = .ok (.iload_n 2, 1) := by decide +kernel
theorem d_H_serve_109 : decode prog_11_method_5_code 109 = .ok (.iaload, 1) := by decide +kernel
theorem d_H_serve_110 : decode prog_11_method_5_code 110 = .ok (.iastore, 1) := by decide +kernel
theorem d_H_serve_111 : decode prog_11_method_5_code 111 = .ok (.return_, 1) := by decide +kernel
theorem d_S_placeInShard_0 : decode prog_1_method_22_code 0 = .ok (.iload_n 0, 1) := by decide +kernel
theorem d_S_placeInShard_1 : decode prog_1_method_22_code 1 = .ok (.bipush 8, 2) := by decide +kernel
theorem d_S_placeInShard_3 : decode prog_1_method_22_code 3 = .ok (.idiv, 1) := by decide +kernel
theorem d_S_placeInShard_4 : decode prog_1_method_22_code 4 = .ok (.ireturn, 1) := by decide +kernel
theorem d_E_changeStore_0 : decode prog_6_method_3_code 0 = .ok (.return_, 1) := by decide +kernel
theorem d_J_max_0 : decode prog_15_method_65_code 0 = .ok (.iload_n 0, 1) := by decide +kernel
theorem d_J_max_1 : decode prog_15_method_65_code 1 = .ok (.iload_n 1, 1) := by decide +kernel
theorem d_J_max_2 : decode prog_15_method_65_code 2 = .ok (.if_icmp .lt 7, 3) := by decide +kernel
theorem d_J_max_5 : decode prog_15_method_65_code 5 = .ok (.iload_n 0, 1) := by decide +kernel
theorem d_J_max_6 : decode prog_15_method_65_code 6 = .ok (.goto 4, 3) := by decide +kernel
theorem d_J_max_9 : decode prog_15_method_65_code 9 = .ok (.iload_n 1, 1) := by decide +kernel
theorem d_J_max_10 : decode prog_15_method_65_code 10 = .ok (.ireturn, 1) := by decide +kernel
theorem d_S_change_0 : decode prog_1_method_6_code 0 = .ok (.aload_n 0, 1) := by decide +kernel
theorem d_S_change_1 : decode prog_1_method_6_code 1 = .ok (.iload_n 1, 1) := by decide +kernel
theorem d_S_change_2 : decode prog_1_method_6_code 2 = .ok (.invokevirtual 97, 3) := by decide +kernel
theorem d_S_change_5 : decode prog_1_method_6_code 5 = .ok (.astore 5, 2) := by decide +kernel
theorem d_S_change_7 : decode prog_1_method_6_code 7 = .ok (.aload 5, 2) := by decide +kernel
theorem d_S_change_9 : decode prog_1_method_6_code 9 = .ok (.ifnull 13, 3) := by decide +kernel
theorem d_S_change_12 : decode prog_1_method_6_code 12 = .ok (.iload_n 2, 1) := by decide +kernel
theorem d_S_change_13 : decode prog_1_method_6_code 13 = .ok (.iload_n 3, 1) := by decide +kernel
theorem d_S_change_14 : decode prog_1_method_6_code 14 = .ok (.iload 4, 2) := by decide +kernel
theorem d_S_change_16 : decode prog_1_method_6_code 16 = .ok (.invokestatic 101, 3) := by decide +kernel
theorem d_S_change_19 : decode prog_1_method_6_code 19 = .ok (.ifCond .ne 5, 3) := by decide +kernel
theorem d_S_change_22 : decode prog_1_method_6_code 22 = .ok (.iconst (-1), 1) := by decide +kernel
theorem d_S_change_23 : decode prog_1_method_6_code 23 = .ok (.ireturn, 1) := by decide +kernel
theorem d_S_change_24 : decode prog_1_method_6_code 24 = .ok (.aload 5, 2) := by decide +kernel
theorem d_S_change_26 : decode prog_1_method_6_code 26 = .ok (.getfield 105, 3) := by decide +kernel
theorem d_S_change_29 : decode prog_1_method_6_code 29 = .ok (.ifCond .ne 6, 3) := by decide +kernel
theorem d_S_change_32 : decode prog_1_method_6_code 32 = .ok (.bipush (-2), 2) := by decide +kernel
theorem d_S_change_34 : decode prog_1_method_6_code 34 = .ok (.ireturn, 1) := by decide +kernel
theorem d_S_change_35 : decode prog_1_method_6_code 35 = .ok (.aload 5, 2) := by decide +kernel
theorem d_S_change_37 : decode prog_1_method_6_code 37 = .ok (.new 106, 3) := by decide +kernel
theorem d_S_change_40 : decode prog_1_method_6_code 40 = .ok (.dup, 1) := by decide +kernel
theorem d_S_change_41 : decode prog_1_method_6_code 41 = .ok (.aload 5, 2) := by decide +kernel
theorem d_S_change_43 : decode prog_1_method_6_code 43 = .ok (.getfield 108, 3) := by decide +kernel
theorem d_S_change_46 : decode prog_1_method_6_code 46 = .ok (.iload_n 2, 1) := by decide +kernel
theorem d_S_change_47 : decode prog_1_method_6_code 47 = .ok (.iload_n 3, 1) := by decide +kernel
theorem d_S_change_48 : decode prog_1_method_6_code 48 = .ok (.iload 4, 2) := by decide +kernel
theorem d_S_change_50 : decode prog_1_method_6_code 50 = .ok (.invokespecial 109, 3) := by decide +kernel
theorem d_S_change_53 : decode prog_1_method_6_code 53 = .ok (.invokevirtual 112, 3) := by decide +kernel
theorem d_S_change_56 : decode prog_1_method_6_code 56 = .ok (.ireturn, 1) := by decide +kernel
theorem d_S_upService_0 : decode prog_1_method_32_code 0 = .ok (.aload_n 0, 1) := by decide +kernel
theorem d_S_upService_1 : decode prog_1_method_32_code 1 = .ok (.iload_n 1, 1) := by decide +kernel
theorem d_S_upService_2 : decode prog_1_method_32_code 2 = .ok (.invokevirtual 192, 3) := by decide +kernel
theorem d_S_upService_5 : decode prog_1_method_32_code 5 = .ok (.astore_n 2, 1) := by decide +kernel
theorem d_S_upService_6 : decode prog_1_method_32_code 6 = .ok (.aload_n 2, 1) := by decide +kernel
theorem d_S_upService_7 : decode prog_1_method_32_code 7 = .ok (.ifnull 14, 3) := by decide +kernel
theorem d_S_upService_10 : decode prog_1_method_32_code 10 = .ok (.aload_n 2, 1) := by decide +kernel
theorem d_S_upService_11 : decode prog_1_method_32_code 11 = .ok (.getfield 217, 3) := by decide +kernel
theorem d_S_upService_14 : decode prog_1_method_32_code 14 = .ok (.ifCond .eq 7, 3) := by decide +kernel
theorem d_S_upService_17 : decode prog_1_method_32_code 17 = .ok (.aload_n 2, 1) := by decide +kernel
theorem d_S_upService_18 : decode prog_1_method_32_code 18 = .ok (.goto 4, 3) := by decide +kernel
theorem d_S_upService_21 : decode prog_1_method_32_code 21 = .ok (.aconst_null, 1) := by decide +kernel
theorem d_S_upService_22 : decode prog_1_method_32_code 22 = .ok (.areturn, 1) := by decide +kernel
theorem d_S_anyService_0 : decode prog_1_method_29_code 0 = .ok (.iload_n 1, 1) := by decide +kernel
theorem d_S_anyService_1 : decode prog_1_method_29_code 1 = .ok (.ifCond .lt 17, 3) := by decide +kernel
theorem d_S_anyService_4 : decode prog_1_method_29_code 4 = .ok (.iload_n 1, 1) := by decide +kernel
theorem d_S_anyService_5 : decode prog_1_method_29_code 5 = .ok (.iconst 3, 1) := by decide +kernel
theorem d_S_anyService_6 : decode prog_1_method_29_code 6 = .ok (.if_icmp .ge 12, 3) := by decide +kernel
theorem d_S_anyService_9 : decode prog_1_method_29_code 9 = .ok (.aload_n 0, 1) := by decide +kernel
theorem d_S_anyService_10 : decode prog_1_method_29_code 10 = .ok (.getfield 17, 3) := by decide +kernel
theorem d_S_anyService_13 : decode prog_1_method_29_code 13 = .ok (.iload_n 1, 1) := by decide +kernel
theorem d_S_anyService_14 : decode prog_1_method_29_code 14 = .ok (.aaload, 1) := by decide +kernel
theorem d_S_anyService_15 : decode prog_1_method_29_code 15 = .ok (.goto 4, 3) := by decide +kernel
theorem d_S_anyService_18 : decode prog_1_method_29_code 18 = .ok (.aconst_null, 1) := by decide +kernel
theorem d_S_anyService_19 : decode prog_1_method_29_code 19 = .ok (.areturn, 1) := by decide +kernel
theorem d_S_isChange_0 : decode prog_1_method_27_code 0 = .ok (.iload_n 0, 1) := by decide +kernel
theorem d_S_isChange_1 : decode prog_1_method_27_code 1 = .ok (.iconst 2, 1) := by decide +kernel
theorem d_S_isChange_2 : decode prog_1_method_27_code 2 = .ok (.if_icmp .ne 23, 3) := by decide +kernel
theorem d_S_isChange_5 : decode prog_1_method_27_code 5 = .ok (.iload_n 1, 1) := by decide +kernel
theorem d_S_isChange_6 : decode prog_1_method_27_code 6 = .ok (.invokestatic 151, 3) := by decide +kernel
theorem d_S_isChange_9 : decode prog_1_method_27_code 9 = .ok (.ifCond .eq 14, 3) := by decide +kernel
theorem d_S_isChange_12 : decode prog_1_method_27_code 12 = .ok (.iload_n 2, 1) := by decide +kernel
theorem d_S_isChange_13 : decode prog_1_method_27_code 13 = .ok (.invokestatic 214, 3) := by decide +kernel
theorem d_S_isChange_16 : decode prog_1_method_27_code 16 = .ok (.ifCond .eq 7, 3) := by decide +kernel
theorem d_S_isChange_19 : decode prog_1_method_27_code 19 = .ok (.iconst 1, 1) := by decide +kernel
theorem d_S_isChange_20 : decode prog_1_method_27_code 20 = .ok (.goto 4, 3) := by decide +kernel
theorem d_S_isChange_23 : decode prog_1_method_27_code 23 = .ok (.iconst 0, 1) := by decide +kernel
theorem d_S_isChange_24 : decode prog_1_method_27_code 24 = .ok (.ireturn, 1) := by decide +kernel
theorem d_S_isChange_25 : decode prog_1_method_27_code 25 = .ok (.iload_n 0, 1) := by decide +kernel
theorem d_S_isChange_26 : decode prog_1_method_27_code 26 = .ok (.ifCond .eq 8, 3) := by decide +kernel
theorem d_S_isChange_29 : decode prog_1_method_27_code 29 = .ok (.iload_n 0, 1) := by decide +kernel
theorem d_S_isChange_30 : decode prog_1_method_27_code 30 = .ok (.iconst 1, 1) := by decide +kernel
theorem d_S_isChange_31 : decode prog_1_method_27_code 31 = .ok (.if_icmp .ne 14, 3) := by decide +kernel
theorem d_S_isChange_34 : decode prog_1_method_27_code 34 = .ok (.iload_n 1, 1) := by decide +kernel
theorem d_S_isChange_35 : decode prog_1_method_27_code 35 = .ok (.invokestatic 214, 3) := by decide +kernel
theorem d_S_isChange_38 : decode prog_1_method_27_code 38 = .ok (.ifCond .eq 7, 3) := by decide +kernel
theorem d_S_isChange_41 : decode prog_1_method_27_code 41 = .ok (.iconst 1, 1) := by decide +kernel
theorem d_S_isChange_42 : decode prog_1_method_27_code 42 = .ok (.goto 4, 3) := by decide +kernel
theorem d_S_isChange_45 : decode prog_1_method_27_code 45 = .ok (.iconst 0, 1) := by decide +kernel
theorem d_S_isChange_46 : decode prog_1_method_27_code 46 = .ok (.ireturn, 1) := by decide +kernel
theorem d_S_isShard_0 : decode prog_1_method_23_code 0 = .ok (.iload_n 0, 1) := by decide +kernel
theorem d_S_isShard_1 : decode prog_1_method_23_code 1 = .ok (.ifCond .lt 13, 3) := by decide +kernel
theorem d_S_isShard_4 : decode prog_1_method_23_code 4 = .ok (.iload_n 0, 1) := by decide +kernel
theorem d_S_isShard_5 : decode prog_1_method_23_code 5 = .ok (.bipush 8, 2) := by decide +kernel
theorem d_S_isShard_7 : decode prog_1_method_23_code 7 = .ok (.if_icmp .ge 7, 3) := by decide +kernel
theorem d_S_isShard_10 : decode prog_1_method_23_code 10 = .ok (.iconst 1, 1) := by decide +kernel
theorem d_S_isShard_11 : decode prog_1_method_23_code 11 = .ok (.goto 4, 3) := by decide +kernel
theorem d_S_isShard_14 : decode prog_1_method_23_code 14 = .ok (.iconst 0, 1) := by decide +kernel
theorem d_S_isShard_15 : decode prog_1_method_23_code 15 = .ok (.ireturn, 1) := by decide +kernel
theorem d_S_isOwningGroup_0 : decode prog_1_method_26_code 0 = .ok (.iload_n 0, 1) := by decide +kernel
theorem d_S_isOwningGroup_1 : decode prog_1_method_26_code 1 = .ok (.iconst 1, 1) := by decide +kernel
theorem d_S_isOwningGroup_2 : decode prog_1_method_26_code 2 = .ok (.if_icmp .lt 12, 3) := by decide +kernel
theorem d_S_isOwningGroup_5 : decode prog_1_method_26_code 5 = .ok (.iload_n 0, 1) := by decide +kernel
theorem d_S_isOwningGroup_6 : decode prog_1_method_26_code 6 = .ok (.iconst 4, 1) := by decide +kernel
theorem d_S_isOwningGroup_7 : decode prog_1_method_26_code 7 = .ok (.if_icmp .ge 7, 3) := by decide +kernel
theorem d_S_isOwningGroup_10 : decode prog_1_method_26_code 10 = .ok (.iconst 1, 1) := by decide +kernel
theorem d_S_isOwningGroup_11 : decode prog_1_method_26_code 11 = .ok (.goto 4, 3) := by decide +kernel
theorem d_S_isOwningGroup_14 : decode prog_1_method_26_code 14 = .ok (.iconst 0, 1) := by decide +kernel
theorem d_S_isOwningGroup_15 : decode prog_1_method_26_code 15 = .ok (.ireturn, 1) := by decide +kernel
theorem d_G_init_0 : decode prog_2_method_1_code 0 = .ok (.aload_n 0, 1) := by decide +kernel
theorem d_G_init_1 : decode prog_2_method_1_code 1 = .ok (.iload_n 1, 1) := by decide +kernel
theorem d_G_init_2 : decode prog_2_method_1_code 2 = .ok (.invokespecial 3, 3) := by decide +kernel
theorem d_G_init_5 : decode prog_2_method_1_code 5 = .ok (.aload_n 0, 1) := by decide +kernel
theorem d_G_init_6 : decode prog_2_method_1_code 6 = .ok (.iload_n 2, 1) := by decide +kernel
theorem d_G_init_7 : decode prog_2_method_1_code 7 = .ok (.putfield 9, 3) := by decide +kernel
theorem d_G_init_10 : decode prog_2_method_1_code 10 = .ok (.aload_n 0, 1) := by decide +kernel
theorem d_G_init_11 : decode prog_2_method_1_code 11 = .ok (.iload_n 3, 1) := by decide +kernel
theorem d_G_init_12 : decode prog_2_method_1_code 12 = .ok (.putfield 15, 3) := by decide +kernel
theorem d_G_init_15 : decode prog_2_method_1_code 15 = .ok (.aload_n 0, 1) := by decide +kernel
theorem d_G_init_16 : decode prog_2_method_1_code 16 = .ok (.iload 4, 2) := by decide +kernel
theorem d_G_init_18 : decode prog_2_method_1_code 18 = .ok (.putfield 18, 3) := by decide +kernel
theorem d_G_init_21 : decode prog_2_method_1_code 21 = .ok (.return_, 1) := by decide +kernel
