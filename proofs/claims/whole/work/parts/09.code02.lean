theorem d_N_copyNextFrom_0 : decode prog_8_method_10_code 0 = .ok (.aload_n 0, 1) := by decide +kernel
theorem d_N_copyNextFrom_1 : decode prog_8_method_10_code 1 = .ok (.aload_n 0, 1) := by decide +kernel
theorem d_N_copyNextFrom_2 : decode prog_8_method_10_code 2 = .ok (.aload_n 1, 1) := by decide +kernel
theorem d_N_copyNextFrom_3 : decode prog_8_method_10_code 3 = .ok (.invokevirtual 44, 3) := by decide +kernel
theorem d_N_copyNextFrom_6 : decode prog_8_method_10_code 6 = .ok (.putfield 40, 3) := by decide +kernel
theorem d_N_copyNextFrom_9 : decode prog_8_method_10_code 9 = .ok (.aload_n 0, 1) := by decide +kernel
theorem d_N_copyNextFrom_10 : decode prog_8_method_10_code 10 = .ok (.getfield 40, 3) := by decide +kernel
theorem d_N_copyNextFrom_13 : decode prog_8_method_10_code 13 = .ok (.aload_n 1, 1) := by decide +kernel
theorem d_N_copyNextFrom_14 : decode prog_8_method_10_code 14 = .ok (.getfield 40, 3) := by decide +kernel
theorem d_N_copyNextFrom_17 : decode prog_8_method_10_code 17 = .ok (.if_icmp .ge 17, 3) := by decide +kernel
theorem d_N_copyNextFrom_20 : decode prog_8_method_10_code 20 = .ok (.aload_n 0, 1) := by decide +kernel
theorem d_N_copyNextFrom_21 : decode prog_8_method_10_code 21 = .ok (.aload_n 1, 1) := by decide +kernel
theorem d_N_copyNextFrom_22 : decode prog_8_method_10_code 22 = .ok (.getfield 17, 3) := by decide +kernel
theorem d_N_copyNextFrom_25 : decode prog_8_method_10_code 25 = .ok (.aload_n 0, 1) := by decide +kernel
theorem d_N_copyNextFrom_26 : decode prog_8_method_10_code 26 = .ok (.getfield 40, 3) := by decide +kernel
theorem d_N_copyNextFrom_29 : decode prog_8_method_10_code 29 = .ok (.aaload, 1) := by decide +kernel
theorem d_N_copyNextFrom_30 : decode prog_8_method_10_code 30 = .ok (.invokevirtual 48, 3) := by decide +kernel
theorem d_N_copyNextFrom_33 : decode prog_8_method_10_code 33 = .ok (.pop, 1) := by decide +kernel
theorem d_N_copyNextFrom_34 : decode prog_8_method_10_code 34 = .ok (.return_, 1) := by decide +kernel
theorem d_N_countSame_0 : decode prog_8_method_11_code 0 = .ok (.aload_n 0, 1) := by decide +kernel
theorem d_N_countSame_1 : decode prog_8_method_11_code 1 = .ok (.getfield 40, 3) := by decide +kernel
theorem d_N_countSame_4 : decode prog_8_method_11_code 4 = .ok (.aload_n 1, 1) := by decide +kernel
theorem d_N_countSame_5 : decode prog_8_method_11_code 5 = .ok (.getfield 40, 3) := by decide +kernel
theorem d_N_countSame_8 : decode prog_8_method_11_code 8 = .ok (.invokestatic 52, 3) := by decide +kernel
theorem d_N_countSame_11 : decode prog_8_method_11_code 11 = .ok (.istore_n 2, 1) := by decide +kernel
theorem d_N_countSame_12 : decode prog_8_method_11_code 12 = .ok (.iconst 0, 1) := by decide +kernel
theorem d_N_countSame_13 : decode prog_8_method_11_code 13 = .ok (.istore_n 3, 1) := by decide +kernel
theorem d_N_countSame_14 : decode prog_8_method_11_code 14 = .ok (.iload_n 3, 1) := by decide +kernel
theorem d_N_countSame_15 : decode prog_8_method_11_code 15 = .ok (.iload_n 2, 1) := by decide +kernel
theorem d_N_countSame_16 : decode prog_8_method_11_code 16 = .ok (.if_icmp .ge 30, 3) := by decide +kernel
theorem d_N_countSame_19 : decode prog_8_method_11_code 19 = .ok (.aload_n 0, 1) := by decide +kernel
theorem d_N_countSame_20 : decode prog_8_method_11_code 20 = .ok (.getfield 17, 3) := by decide +kernel
theorem d_N_countSame_23 : decode prog_8_method_11_code 23 = .ok (.iload_n 3, 1) := by decide +kernel
theorem d_N_countSame_24 : decode prog_8_method_11_code 24 = .ok (.aaload, 1) := by decide +kernel
theorem d_N_countSame_25 : decode prog_8_method_11_code 25 = .ok (.getfield 43, 3) := by decide +kernel
theorem d_N_countSame_28 : decode prog_8_method_11_code 28 = .ok (.aload_n 1, 1) := by decide +kernel
theorem d_N_countSame_29 : decode prog_8_method_11_code 29 = .ok (.getfield 17, 3) := by decide +kernel
theorem d_N_countSame_32 : decode prog_8_method_11_code 32 = .ok (.iload_n 3, 1) := by decide +kernel
theorem d_N_countSame_33 : decode prog_8_method_11_code 33 = .ok (.aaload, 1) := by decide +kernel
theorem d_N_countSame_34 : decode prog_8_method_11_code 34 = .ok (.getfield 43, 3) := by decide +kernel
theorem d_N_countSame_37 : decode prog_8_method_11_code 37 = .ok (.if_icmp .ne 9, 3) := by decide +kernel
theorem d_N_countSame_40 : decode prog_8_method_11_code 40 = .ok (.iinc 3 1, 3) := by decide +kernel
theorem d_N_countSame_43 : decode prog_8_method_11_code 43 = .ok (.goto (-29), 3) := by decide +kernel
theorem d_N_countSame_46 : decode prog_8_method_11_code 46 = .ok (.iload_n 3, 1) := by decide +kernel
theorem d_N_countSame_47 : decode prog_8_method_11_code 47 = .ok (.ireturn, 1) := by decide +kernel
theorem d_J_min_0 : decode prog_15_method_69_code 0 = .ok (.iload_n 0, 1) := by decide +kernel
theorem d_J_min_1 : decode prog_15_method_69_code 1 = .ok (.iload_n 1, 1) := by decide +kernel
theorem d_J_min_2 : decode prog_15_method_69_code 2 = .ok (.if_icmp .gt 7, 3) := by decide +kernel
theorem d_J_min_5 : decode prog_15_method_69_code 5 = .ok (.iload_n 0, 1) := by decide +kernel
theorem d_J_min_6 : decode prog_15_method_69_code 6 = .ok (.goto 4, 3) := by decide +kernel
theorem d_J_min_9 : decode prog_15_method_69_code 9 = .ok (.iload_n 1, 1) := by decide +kernel
theorem d_J_min_10 : decode prog_15_method_69_code 10 = .ok (.ireturn, 1) := by decide +kernel
theorem d_S_countAgreed_0 : decode prog_1_method_36_code 0 = .ok (.aload_n 1, 1) := by decide +kernel
theorem d_S_countAgreed_1 : decode prog_1_method_36_code 1 = .ok (.getfield 94, 3) := by decide +kernel
theorem d_S_countAgreed_4 : decode prog_1_method_36_code 4 = .ok (.iconst 1, 1) := by decide +kernel
theorem d_S_countAgreed_5 : decode prog_1_method_36_code 5 = .ok (.isub, 1) := by decide +kernel
theorem d_S_countAgreed_6 : decode prog_1_method_36_code 6 = .ok (.istore_n 3, 1) := by decide +kernel
theorem d_S_countAgreed_7 : decode prog_1_method_36_code 7 = .ok (.iload_n 3, 1) := by decide +kernel
theorem d_S_countAgreed_8 : decode prog_1_method_36_code 8 = .ok (.ifCond .lt 39, 3) := by decide +kernel
theorem d_S_countAgreed_11 : decode prog_1_method_36_code 11 = .ok (.aload_n 1, 1) := by decide +kernel
theorem d_S_countAgreed_12 : decode prog_1_method_36_code 12 = .ok (.iload_n 3, 1) := by decide +kernel
theorem d_S_countAgreed_13 : decode prog_1_method_36_code 13 = .ok (.aload_n 1, 1) := by decide +kernel
theorem d_S_countAgreed_14 : decode prog_1_method_36_code 14 = .ok (.getfield 54, 3) := by decide +kernel
theorem d_S_countAgreed_17 : decode prog_1_method_36_code 17 = .ok (.invokevirtual 229, 3) := by decide +kernel
theorem d_S_countAgreed_20 : decode prog_1_method_36_code 20 = .ok (.ifCond .eq 21, 3) := by decide +kernel
theorem d_S_countAgreed_23 : decode prog_1_method_36_code 23 = .ok (.aload_n 0, 1) := by decide +kernel
theorem d_S_countAgreed_24 : decode prog_1_method_36_code 24 = .ok (.iload_n 2, 1) := by decide +kernel
theorem d_S_countAgreed_25 : decode prog_1_method_36_code 25 = .ok (.iload_n 3, 1) := by decide +kernel
theorem d_S_countAgreed_26 : decode prog_1_method_36_code 26 = .ok (.aload_n 1, 1) := by decide +kernel
theorem d_S_countAgreed_27 : decode prog_1_method_36_code 27 = .ok (.getfield 54, 3) := by decide +kernel
theorem d_S_countAgreed_30 : decode prog_1_method_36_code 30 = .ok (.invokevirtual 232, 3) := by decide +kernel
theorem d_S_countAgreed_33 : decode prog_1_method_36_code 33 = .ok (.iconst 2, 1) := by decide +kernel
theorem d_S_countAgreed_34 : decode prog_1_method_36_code 34 = .ok (.if_icmp .lt 7, 3) := by decide +kernel
theorem d_S_countAgreed_37 : decode prog_1_method_36_code 37 = .ok (.iload_n 3, 1) := by decide +kernel
theorem d_S_countAgreed_38 : decode prog_1_method_36_code 38 = .ok (.iconst 1, 1) := by decide +kernel
theorem d_S_countAgreed_39 : decode prog_1_method_36_code 39 = .ok (.iadd, 1) := by decide +kernel
theorem d_S_countAgreed_40 : decode prog_1_method_36_code 40 = .ok (.ireturn, 1) := by decide +kernel
theorem d_S_countAgreed_41 : decode prog_1_method_36_code 41 = .ok (.iinc 3 (-1), 3) := by decide +kernel
theorem d_S_countAgreed_44 : decode prog_1_method_36_code 44 = .ok (.goto (-37), 3) := by decide +kernel
theorem d_S_countAgreed_47 : decode prog_1_method_36_code 47 = .ok (.iconst 0, 1) := by decide +kernel
theorem d_S_countAgreed_48 : decode prog_1_method_36_code 48 = .ok (.ireturn, 1) := by decide +kernel
theorem d_N_hasEntry_0 : decode prog_8_method_8_code 0 = .ok (.iload_n 1, 1) := by decide +kernel
theorem d_N_hasEntry_1 : decode prog_8_method_8_code 1 = .ok (.aload_n 0, 1) := by decide +kernel
theorem d_N_hasEntry_2 : decode prog_8_method_8_code 2 = .ok (.getfield 40, 3) := by decide +kernel
theorem d_N_hasEntry_5 : decode prog_8_method_8_code 5 = .ok (.if_icmp .ge 20, 3) := by decide +kernel
theorem d_N_hasEntry_8 : decode prog_8_method_8_code 8 = .ok (.aload_n 0, 1) := by decide +kernel
theorem d_N_hasEntry_9 : decode prog_8_method_8_code 9 = .ok (.getfield 17, 3) := by decide +kernel
theorem d_N_hasEntry_12 : decode prog_8_method_8_code 12 = .ok (.iload_n 1, 1) := by decide +kernel
theorem d_N_hasEntry_13 : decode prog_8_method_8_code 13 = .ok (.aaload, 1) := by decide +kernel
theorem d_N_hasEntry_14 : decode prog_8_method_8_code 14 = .ok (.getfield 43, 3) := by decide +kernel
theorem d_N_hasEntry_17 : decode prog_8_method_8_code 17 = .ok (.iload_n 2, 1) := by decide +kernel
theorem d_N_hasEntry_18 : decode prog_8_method_8_code 18 = .ok (.if_icmp .ne 7, 3) := by decide +kernel
theorem d_N_hasEntry_21 : decode prog_8_method_8_code 21 = .ok (.iconst 1, 1) := by decide +kernel
theorem d_N_hasEntry_22 : decode prog_8_method_8_code 22 = .ok (.goto 4, 3) := by decide +kernel
theorem d_N_hasEntry_25 : decode prog_8_method_8_code 25 = .ok (.iconst 0, 1) := by decide +kernel
theorem d_N_hasEntry_26 : decode prog_8_method_8_code 26 = .ok (.ireturn, 1) := by decide +kernel
theorem d_S_countCopies_0 : decode prog_1_method_37_code 0 = .ok (.iconst 0, 1) := by decide +kernel
theorem d_S_countCopies_1 : decode prog_1_method_37_code 1 = .ok (.istore 4, 2) := by decide +kernel
theorem d_S_countCopies_3 : decode prog_1_method_37_code 3 = .ok (.iconst 0, 1) := by decide +kernel
theorem d_S_countCopies_4 : decode prog_1_method_37_code 4 = .ok (.istore 5, 2) := by decide +kernel
theorem d_S_countCopies_6 : decode prog_1_method_37_code 6 = .ok (.iload 5, 2) := by decide +kernel
theorem d_S_countCopies_8 : decode prog_1_method_37_code 8 = .ok (.iconst 3, 1) := by decide +kernel
theorem d_S_countCopies_9 : decode prog_1_method_37_code 9 = .ok (.if_icmp .ge 31, 3) := by decide +kernel
theorem d_S_countCopies_12 : decode prog_1_method_37_code 12 = .ok (.aload_n 0, 1) := by decide +kernel
theorem d_S_countCopies_13 : decode prog_1_method_37_code 13 = .ok (.getfield 11, 3) := by decide +kernel
theorem d_S_countCopies_16 : decode prog_1_method_37_code 16 = .ok (.iload_n 1, 1) := by decide +kernel
theorem d_S_countCopies_17 : decode prog_1_method_37_code 17 = .ok (.iconst 3, 1) := by decide +kernel
theorem d_S_countCopies_18 : decode prog_1_method_37_code 18 = .ok (.imul, 1) := by decide +kernel
theorem d_S_countCopies_19 : decode prog_1_method_37_code 19 = .ok (.iload 5, 2) := by decide +kernel
theorem d_S_countCopies_21 : decode prog_1_method_37_code 21 = .ok (.iadd, 1) := by decide +kernel
theorem d_S_countCopies_22 : decode prog_1_method_37_code 22 = .ok (.aaload, 1) := by decide +kernel
theorem d_S_countCopies_23 : decode prog_1_method_37_code 23 = .ok (.iload_n 2, 1) := by decide +kernel
theorem d_S_countCopies_24 : decode prog_1_method_37_code 24 = .ok (.iload_n 3, 1) := by decide +kernel
theorem d_S_countCopies_25 : decode prog_1_method_37_code 25 = .ok (.invokevirtual 229, 3) := by decide +kernel
theorem d_S_countCopies_28 : decode prog_1_method_37_code 28 = .ok (.ifCond .eq 6, 3) := by decide +kernel
theorem d_S_countCopies_31 : decode prog_1_method_37_code 31 = .ok (.iinc 4 1, 3) := by decide +kernel
theorem d_S_countCopies_34 : decode prog_1_method_37_code 34 = .ok (.iinc 5 1, 3) := by decide +kernel
theorem d_S_countCopies_37 : decode prog_1_method_37_code 37 = .ok (.goto (-31), 3) := by decide +kernel
theorem d_S_countCopies_40 : decode prog_1_method_37_code 40 = .ok (.iload 4, 2) := by decide +kernel
theorem d_S_countCopies_42 : decode prog_1_method_37_code 42 = .ok (.ireturn, 1) := by decide +kernel
theorem d_N_learn_0 : decode prog_8_method_12_code 0 = .ok (.iload_n 1, 1) := by decide +kernel
theorem d_N_learn_1 : decode prog_8_method_12_code 1 = .ok (.aload_n 0, 1) := by decide +kernel
theorem d_N_learn_2 : decode prog_8_method_12_code 2 = .ok (.getfield 40, 3) := by decide +kernel
theorem d_N_learn_5 : decode prog_8_method_12_code 5 = .ok (.invokestatic 52, 3) := by decide +kernel
theorem d_N_learn_8 : decode prog_8_method_12_code 8 = .ok (.istore_n 2, 1) := by decide +kernel
theorem d_N_learn_9 : decode prog_8_method_12_code 9 = .ok (.aload_n 0, 1) := by decide +kernel
theorem d_N_learn_10 : decode prog_8_method_12_code 10 = .ok (.getfield 58, 3) := by decide +kernel
theorem d_N_learn_13 : decode prog_8_method_12_code 13 = .ok (.istore_n 3, 1) := by decide +kernel
theorem d_N_learn_14 : decode prog_8_method_12_code 14 = .ok (.iload_n 3, 1) := by decide +kernel
theorem d_N_learn_15 : decode prog_8_method_12_code 15 = .ok (.iload_n 2, 1) := by decide +kernel
theorem d_N_learn_16 : decode prog_8_method_12_code 16 = .ok (.if_icmp .ge 19, 3) := by decide +kernel
theorem d_N_learn_19 : decode prog_8_method_12_code 19 = .ok (.aload_n 0, 1) := by decide +kernel
theorem d_N_learn_20 : decode prog_8_method_12_code 20 = .ok (.aload_n 0, 1) := by decide +kernel
theorem d_N_learn_21 : decode prog_8_method_12_code 21 = .ok (.getfield 17, 3) := by decide +kernel
theorem d_N_learn_24 : decode prog_8_method_12_code 24 = .ok (.iload_n 3, 1) := by decide +kernel
theorem d_N_learn_25 : decode prog_8_method_12_code 25 = .ok (.aaload, 1) := by decide +kernel
theorem d_N_learn_26 : decode prog_8_method_12_code 26 = .ok (.invokevirtual 61, 3) := by decide +kernel
theorem d_N_learn_29 : decode prog_8_method_12_code 29 = .ok (.iinc 3 1, 3) := by decide +kernel
theorem d_N_learn_32 : decode prog_8_method_12_code 32 = .ok (.goto (-18), 3) := by decide +kernel
theorem d_N_learn_35 : decode prog_8_method_12_code 35 = .ok (.aload_n 0, 1) := by decide +kernel
theorem d_N_learn_36 : decode prog_8_method_12_code 36 = .ok (.aload_n 0, 1) := by decide +kernel
theorem d_N_learn_37 : decode prog_8_method_12_code 37 = .ok (.getfield 58, 3) := by decide +kernel
theorem d_N_learn_40 : decode prog_8_method_12_code 40 = .ok (.iload_n 2, 1) := by decide +kernel
theorem d_N_learn_41 : decode prog_8_method_12_code 41 = .ok (.invokestatic 65, 3) := by decide +kernel
theorem d_N_learn_44 : decode prog_8_method_12_code 44 = .ok (.putfield 58, 3) := by decide +kernel
theorem d_N_learn_47 : decode prog_8_method_12_code 47 = .ok (.return_, 1) := by decide +kernel
theorem d_V_carryOut_0 : decode prog_10_method_2_code 0 = .ok (.aload_n 1, 1) := by decide +kernel
theorem d_V_carryOut_1 : decode prog_10_method_2_code 1 = .ok (.aload_n 0, 1) := by decide +kernel
theorem d_V_carryOut_2 : decode prog_10_method_2_code 2 = .ok (.invokevirtual 17, 3) := by decide +kernel
theorem d_V_carryOut_5 : decode prog_10_method_2_code 5 = .ok (.return_, 1) := by decide +kernel
theorem d_G_changeService_0 : decode prog_2_method_2_code 0 = .ok (.aload_n 1, 1) := by decide +kernel
theorem d_G_changeService_1 : decode prog_2_method_2_code 1 = .ok (.getfield 21, 3) := by decide +kernel
theorem d_G_changeService_4 : decode prog_2_method_2_code 4 = .ok (.aload_n 1, 1) := by decide +kernel
theorem d_G_changeService_5 : decode prog_2_method_2_code 5 = .ok (.getfield 27, 3) := by decide +kernel
theorem d_G_changeService_8 : decode prog_2_method_2_code 8 = .ok (.aaload, 1) := by decide +kernel
theorem d_G_changeService_9 : decode prog_2_method_2_code 9 = .ok (.astore_n 2, 1) := by decide +kernel
theorem d_G_changeService_10 : decode prog_2_method_2_code 10 = .ok (.aload_n 1, 1) := by decide +kernel
theorem d_G_changeService_11 : decode prog_2_method_2_code 11 = .ok (.invokevirtual 30, 3) := by decide +kernel
theorem d_G_changeService_14 : decode prog_2_method_2_code 14 = .ok (.ifCond .ne 11, 3) := by decide +kernel
theorem d_G_changeService_17 : decode prog_2_method_2_code 17 = .ok (.aload_n 0, 1) := by decide +kernel
theorem d_G_changeService_18 : decode prog_2_method_2_code 18 = .ok (.aload_n 2, 1) := by decide +kernel
theorem d_G_changeService_19 : decode prog_2_method_2_code 19 = .ok (.invokevirtual 34, 3) := by decide +kernel
theorem d_G_changeService_22 : decode prog_2_method_2_code 22 = .ok (.ifCond .ne 4, 3) := by decide +kernel
theorem d_G_changeService_25 : decode prog_2_method_2_code 25 = .ok (.return_, 1) := by decide +kernel
theorem d_G_changeService_26 : decode prog_2_method_2_code 26 = .ok (.new 38, 3) := by decide +kernel
theorem d_G_changeService_29 : decode prog_2_method_2_code 29 = .ok (.dup, 1) := by decide +kernel
theorem d_G_changeService_30 : decode prog_2_method_2_code 30 = .ok (.aload_n 2, 1) := by decide +kernel
theorem d_G_changeService_31 : decode prog_2_method_2_code 31 = .ok (.invokespecial 40, 3) := by decide +kernel
theorem d_G_changeService_34 : decode prog_2_method_2_code 34 = .ok (.astore_n 3, 1) := by decide +kernel
theorem d_G_changeService_35 : decode prog_2_method_2_code 35 = .ok (.aload_n 0, 1) := by decide +kernel
theorem d_G_changeService_36 : decode prog_2_method_2_code 36 = .ok (.getfield 9, 3) := by decide +kernel
theorem d_G_changeService_39 : decode prog_2_method_2_code 39 = .ok (.ifCond .ne 14, 3) := by decide +kernel
theorem d_G_changeService_42 : decode prog_2_method_2_code 42 = .ok (.aload_n 3, 1) := by decide +kernel
theorem d_G_changeService_43 : decode prog_2_method_2_code 43 = .ok (.aload_n 0, 1) := by decide +kernel
theorem d_G_changeService_44 : decode prog_2_method_2_code 44 = .ok (.getfield 15, 3) := by decide +kernel
theorem d_G_changeService_47 : decode prog_2_method_2_code 47 = .ok (.invokevirtual 43, 3) := by decide +kernel
theorem d_G_changeService_50 : decode prog_2_method_2_code 50 = .ok (.goto 34, 3) := by decide +kernel
theorem d_G_changeService_53 : decode prog_2_method_2_code 53 = .ok (.aload_n 0, 1) := by decide +kernel
theorem d_G_changeService_54 : decode prog_2_method_2_code 54 = .ok (.getfield 9, 3) := by decide +kernel
theorem d_G_changeService_57 : decode prog_2_method_2_code 57 = .ok (.iconst 1, 1) := by decide +kernel
theorem d_G_changeService_58 : decode prog_2_method_2_code 58 = .ok (.if_icmp .ne 14, 3) := by decide +kernel
theorem d_G_changeService_61 : decode prog_2_method_2_code 61 = .ok (.aload_n 3, 1) := by decide +kernel
theorem d_G_changeService_62 : decode prog_2_method_2_code 62 = .ok (.aload_n 0, 1) := by decide +kernel
theorem d_G_changeService_63 : decode prog_2_method_2_code 63 = .ok (.getfield 15, 3) := by decide +kernel
theorem d_G_changeService_66 : decode prog_2_method_2_code 66 = .ok (.invokevirtual 46, 3) := by decide +kernel
theorem d_G_changeService_69 : decode prog_2_method_2_code 69 = .ok (.goto 15, 3) := by decide +kernel
theorem d_G_changeService_72 : decode prog_2_method_2_code 72 = .ok (.aload_n 3, 1) := by decide +kernel
theorem d_G_changeService_73 : decode prog_2_method_2_code 73 = .ok (.aload_n 0, 1) := by decide +kernel
theorem d_G_changeService_74 : decode prog_2_method_2_code 74 = .ok (.getfield 15, 3) := by decide +kernel
theorem d_G_changeService_77 : decode prog_2_method_2_code 77 = .ok (.aload_n 0, 1) := by decide +kernel
theorem d_G_changeService_78 : decode prog_2_method_2_code 78 = .ok (.getfield 18, 3) := by decide +kernel
theorem d_G_changeService_81 : decode prog_2_method_2_code 81 = .ok (.invokevirtual 49, 3) := by decide +kernel
theorem d_G_changeService_84 : decode prog_2_method_2_code 84 = .ok (.aload_n 1, 1) := by decide +kernel
theorem d_G_changeService_85 : decode prog_2_method_2_code 85 = .ok (.aload_n 3, 1) := by decide +kernel
theorem d_G_changeService_86 : decode prog_2_method_2_code 86 = .ok (.invokevirtual 53, 3) := by decide +kernel
theorem d_G_changeService_89 : decode prog_2_method_2_code 89 = .ok (.return_, 1) := by decide +kernel
theorem d_V_isComplete_0 : decode prog_10_method_4_code 0 = .ok (.aload_n 0, 1) := by decide +kernel
theorem d_V_isComplete_1 : decode prog_10_method_4_code 1 = .ok (.getfield 23, 3) := by decide +kernel
theorem d_V_isComplete_4 : decode prog_10_method_4_code 4 = .ok (.iconst 1, 1) := by decide +kernel
theorem d_V_isComplete_5 : decode prog_10_method_4_code 5 = .ok (.iadd, 1) := by decide +kernel
theorem d_V_isComplete_6 : decode prog_10_method_4_code 6 = .ok (.bipush 16, 2) := by decide +kernel
theorem d_V_isComplete_8 : decode prog_10_method_4_code 8 = .ok (.if_icmp .ne 7, 3) := by decide +kernel
theorem d_V_isComplete_11 : decode prog_10_method_4_code 11 = .ok (.iconst 1, 1) := by decide +kernel
theorem d_V_isComplete_12 : decode prog_10_method_4_code 12 = .ok (.goto 4, 3) := by decide +kernel
theorem d_V_isComplete_15 : decode prog_10_method_4_code 15 = .ok (.iconst 0, 1) := by decide +kernel
theorem d_V_isComplete_16 : decode prog_10_method_4_code 16 = .ok (.ireturn, 1) := by decide +kernel
theorem d_G_isAllowed_0 : decode prog_2_method_3_code 0 = .ok (.aload_n 0, 1) := by decide +kernel
theorem d_G_isAllowed_1 : decode prog_2_method_3_code 1 = .ok (.getfield 9, 3) := by decide +kernel
theorem d_G_isAllowed_4 : decode prog_2_method_3_code 4 = .ok (.ifCond .ne 21, 3) := by decide +kernel
theorem d_G_isAllowed_7 : decode prog_2_method_3_code 7 = .ok (.aload_n 1, 1) := by decide +kernel
theorem d_G_isAllowed_8 : decode prog_2_method_3_code 8 = .ok (.getfield 56, 3) := by decide +kernel
theorem d_G_isAllowed_11 : decode prog_2_method_3_code 11 = .ok (.aload_n 0, 1) := by decide +kernel
theorem d_G_isAllowed_12 : decode prog_2_method_3_code 12 = .ok (.getfield 15, 3) := by decide +kernel
theorem d_G_isAllowed_15 : decode prog_2_method_3_code 15 = .ok (.baload, 1) := by decide +kernel
theorem d_G_isAllowed_16 : decode prog_2_method_3_code 16 = .ok (.ifCond .ne 7, 3) := by decide +kernel
theorem d_G_isAllowed_19 : decode prog_2_method_3_code 19 = .ok (.iconst 1, 1) := by decide +kernel
theorem d_G_isAllowed_20 : decode prog_2_method_3_code 20 = .ok (.goto 4, 3) := by decide +kernel
theorem d_G_isAllowed_23 : decode prog_2_method_3_code 23 = .ok (.iconst 0, 1) := by decide +kernel
theorem d_G_isAllowed_24 : decode prog_2_method_3_code 24 = .ok (.ireturn, 1) := by decide +kernel
theorem d_G_isAllowed_25 : decode prog_2_method_3_code 25 = .ok (.aload_n 0, 1) := by decide +kernel
theorem d_G_isAllowed_26 : decode prog_2_method_3_code 26 = .ok (.getfield 9, 3) := by decide +kernel
theorem d_G_isAllowed_29 : decode prog_2_method_3_code 29 = .ok (.iconst 1, 1) := by decide +kernel
theorem d_G_isAllowed_30 : decode prog_2_method_3_code 30 = .ok (.if_icmp .ne 29, 3) := by decide +kernel
theorem d_G_isAllowed_33 : decode prog_2_method_3_code 33 = .ok (.aload_n 1, 1) := by decide +kernel
theorem d_G_isAllowed_34 : decode prog_2_method_3_code 34 = .ok (.getfield 56, 3) := by decide +kernel
theorem d_G_isAllowed_37 : decode prog_2_method_3_code 37 = .ok (.aload_n 0, 1) := by decide +kernel
theorem d_G_isAllowed_38 : decode prog_2_method_3_code 38 = .ok (.getfield 15, 3) := by decide +kernel
theorem d_G_isAllowed_41 : decode prog_2_method_3_code 41 = .ok (.baload, 1) := by decide +kernel
theorem d_G_isAllowed_42 : decode prog_2_method_3_code 42 = .ok (.ifCond .eq 15, 3) := by decide +kernel
theorem d_G_isAllowed_45 : decode prog_2_method_3_code 45 = .ok (.aload_n 1, 1) := by decide +kernel
theorem d_G_isAllowed_46 : decode prog_2_method_3_code 46 = .ok (.invokevirtual 60, 3) := by decide +kernel
theorem d_G_isAllowed_49 : decode prog_2_method_3_code 49 = .ok (.iconst 1, 1) := by decide +kernel
theorem d_G_isAllowed_50 : decode prog_2_method_3_code 50 = .ok (.if_icmp .le 7, 3) := by decide +kernel
theorem d_G_isAllowed_53 : decode prog_2_method_3_code 53 = .ok (.iconst 1, 1) := by decide +kernel
theorem d_G_isAllowed_54 : decode prog_2_method_3_code 54 = .ok (.goto 4, 3) := by decide +kernel
theorem d_G_isAllowed_57 : decode prog_2_method_3_code 57 = .ok (.iconst 0, 1) := by decide +kernel
theorem d_G_isAllowed_58 : decode prog_2_method_3_code 58 = .ok (.ireturn, 1) := by decide +kernel
theorem d_G_isAllowed_59 : decode prog_2_method_3_code 59 = .ok (.aload_n 1, 1) := by decide +kernel
theorem d_G_isAllowed_60 : decode prog_2_method_3_code 60 = .ok (.getfield 56, 3) := by decide +kernel
theorem d_G_isAllowed_63 : decode prog_2_method_3_code 63 = .ok (.aload_n 0, 1) := by decide +kernel
theorem d_G_isAllowed_64 : decode prog_2_method_3_code 64 = .ok (.getfield 18, 3) := by decide +kernel
theorem d_G_isAllowed_67 : decode prog_2_method_3_code 67 = .ok (.baload, 1) := by decide +kernel
theorem d_G_isAllowed_68 : decode prog_2_method_3_code 68 = .ok (.ireturn, 1) := by decide +kernel
theorem d_C_countMembers_0 : decode prog_3_method_3_code 0 = .ok (.iconst 0, 1) := by decide +kernel
theorem d_C_countMembers_1 : decode prog_3_method_3_code 1 = .ok (.istore_n 1, 1) := by decide +kernel
theorem d_C_countMembers_2 : decode prog_3_method_3_code 2 = .ok (.aload_n 0, 1) := by decide +kernel
theorem d_C_countMembers_3 : decode prog_3_method_3_code 3 = .ok (.getfield 9, 3) := by decide +kernel
theorem d_C_countMembers_6 : decode prog_3_method_3_code 6 = .ok (.astore_n 2, 1) := by decide +kernel
theorem d_C_countMembers_7 : decode prog_3_method_3_code 7 = .ok (.aload_n 2, 1) := by decide +kernel
theorem d_C_countMembers_8 : decode prog_3_method_3_code 8 = .ok (.arraylength, 1) := by decide +kernel
