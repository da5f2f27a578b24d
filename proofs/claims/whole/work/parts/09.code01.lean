theorem d_S_elect_39 : decode prog_1_method_4_code 39 = .ok (.invokevirtual 64, 3) := by decide +kernel
theorem d_S_elect_42 : decode prog_1_method_4_code 42 = .ok (.iconst 2, 1) := by decide +kernel
theorem d_S_elect_43 : decode prog_1_method_4_code 43 = .ok (.if_icmp .ge 5, 3) := by decide +kernel
theorem d_S_elect_46 : decode prog_1_method_4_code 46 = .ok (.iconst 0, 1) := by decide +kernel
theorem d_S_elect_47 : decode prog_1_method_4_code 47 = .ok (.ireturn, 1) := by decide +kernel
theorem d_S_elect_48 : decode prog_1_method_4_code 48 = .ok (.aload_n 2, 1) := by decide +kernel
theorem d_S_elect_49 : decode prog_1_method_4_code 49 = .ok (.iconst 1, 1) := by decide +kernel
theorem d_S_elect_50 : decode prog_1_method_4_code 50 = .ok (.putfield 48, 3) := by decide +kernel
theorem d_S_elect_53 : decode prog_1_method_4_code 53 = .ok (.aload_n 2, 1) := by decide +kernel
theorem d_S_elect_54 : decode prog_1_method_4_code 54 = .ok (.new 68, 3) := by decide +kernel
theorem d_S_elect_57 : decode prog_1_method_4_code 57 = .ok (.dup, 1) := by decide +kernel
theorem d_S_elect_58 : decode prog_1_method_4_code 58 = .ok (.iload_n 3, 1) := by decide +kernel
theorem d_S_elect_59 : decode prog_1_method_4_code 59 = .ok (.invokespecial 70, 3) := by decide +kernel
theorem d_S_elect_62 : decode prog_1_method_4_code 62 = .ok (.invokevirtual 73, 3) := by decide +kernel
theorem d_S_elect_65 : decode prog_1_method_4_code 65 = .ok (.pop, 1) := by decide +kernel
theorem d_S_elect_66 : decode prog_1_method_4_code 66 = .ok (.iload_n 3, 1) := by decide +kernel
theorem d_S_elect_67 : decode prog_1_method_4_code 67 = .ok (.ireturn, 1) := by decide +kernel
theorem d_J_floorMod_0 : decode prog_15_method_50_code 0 = .ok (.iload_n 0, 1) := by decide +kernel
theorem d_J_floorMod_1 : decode prog_15_method_50_code 1 = .ok (.iload_n 1, 1) := by decide +kernel
theorem d_J_floorMod_2 : decode prog_15_method_50_code 2 = .ok (.irem, 1) := by decide +kernel
theorem d_J_floorMod_3 : decode prog_15_method_50_code 3 = .ok (.istore_n 2, 1) := by decide +kernel
theorem d_J_floorMod_4 : decode prog_15_method_50_code 4 = .ok (.iload_n 0, 1) := by decide +kernel
theorem d_J_floorMod_5 : decode prog_15_method_50_code 5 = .ok (.iload_n 1, 1) := by decide +kernel
theorem d_J_floorMod_6 : decode prog_15_method_50_code 6 = .ok (.ixor, 1) := by decide +kernel
theorem d_J_floorMod_7 : decode prog_15_method_50_code 7 = .ok (.ifCond .ge 11, 3) := by decide +kernel
theorem d_J_floorMod_10 : decode prog_15_method_50_code 10 = .ok (.iload_n 2, 1) := by decide +kernel
theorem d_J_floorMod_11 : decode prog_15_method_50_code 11 = .ok (.ifCond .eq 7, 3) := by decide +kernel
theorem d_J_floorMod_14 : decode prog_15_method_50_code 14 = .ok (.iload_n 2, 1) := by decide +kernel
theorem d_J_floorMod_15 : decode prog_15_method_50_code 15 = .ok (.iload_n 1, 1) := by decide +kernel
theorem d_J_floorMod_16 : decode prog_15_method_50_code 16 = .ok (.iadd, 1) := by decide +kernel
theorem d_J_floorMod_17 : decode prog_15_method_50_code 17 = .ok (.ireturn, 1) := by decide +kernel
theorem d_J_floorMod_18 : decode prog_15_method_50_code 18 = .ok (.iload_n 2, 1) := by decide +kernel
theorem d_J_floorMod_19 : decode prog_15_method_50_code 19 = .ok (.ireturn, 1) := by decide +kernel
theorem d_S_countGrants_0 : decode prog_1_method_35_code 0 = .ok (.iconst 0, 1) := by decide +kernel
theorem d_S_countGrants_1 : decode prog_1_method_35_code 1 = .ok (.istore 4, 2) := by decide +kernel
theorem d_S_countGrants_3 : decode prog_1_method_35_code 3 = .ok (.iconst 0, 1) := by decide +kernel
theorem d_S_countGrants_4 : decode prog_1_method_35_code 4 = .ok (.istore 5, 2) := by decide +kernel
theorem d_S_countGrants_6 : decode prog_1_method_35_code 6 = .ok (.iload 5, 2) := by decide +kernel
theorem d_S_countGrants_8 : decode prog_1_method_35_code 8 = .ok (.iconst 3, 1) := by decide +kernel
theorem d_S_countGrants_9 : decode prog_1_method_35_code 9 = .ok (.if_icmp .ge 31, 3) := by decide +kernel
theorem d_S_countGrants_12 : decode prog_1_method_35_code 12 = .ok (.aload_n 0, 1) := by decide +kernel
theorem d_S_countGrants_13 : decode prog_1_method_35_code 13 = .ok (.getfield 11, 3) := by decide +kernel
theorem d_S_countGrants_16 : decode prog_1_method_35_code 16 = .ok (.iload_n 2, 1) := by decide +kernel
theorem d_S_countGrants_17 : decode prog_1_method_35_code 17 = .ok (.iconst 3, 1) := by decide +kernel
theorem d_S_countGrants_18 : decode prog_1_method_35_code 18 = .ok (.imul, 1) := by decide +kernel
theorem d_S_countGrants_19 : decode prog_1_method_35_code 19 = .ok (.iload 5, 2) := by decide +kernel
theorem d_S_countGrants_21 : decode prog_1_method_35_code 21 = .ok (.iadd, 1) := by decide +kernel
theorem d_S_countGrants_22 : decode prog_1_method_35_code 22 = .ok (.aaload, 1) := by decide +kernel
theorem d_S_countGrants_23 : decode prog_1_method_35_code 23 = .ok (.aload_n 1, 1) := by decide +kernel
theorem d_S_countGrants_24 : decode prog_1_method_35_code 24 = .ok (.iload_n 3, 1) := by decide +kernel
theorem d_S_countGrants_25 : decode prog_1_method_35_code 25 = .ok (.invokevirtual 225, 3) := by decide +kernel
theorem d_S_countGrants_28 : decode prog_1_method_35_code 28 = .ok (.ifCond .eq 6, 3) := by decide +kernel
theorem d_S_countGrants_31 : decode prog_1_method_35_code 31 = .ok (.iinc 4 1, 3) := by decide +kernel
theorem d_S_countGrants_34 : decode prog_1_method_35_code 34 = .ok (.iinc 5 1, 3) := by decide +kernel
theorem d_S_countGrants_37 : decode prog_1_method_35_code 37 = .ok (.goto (-31), 3) := by decide +kernel
theorem d_S_countGrants_40 : decode prog_1_method_35_code 40 = .ok (.iload 4, 2) := by decide +kernel
theorem d_S_countGrants_42 : decode prog_1_method_35_code 42 = .ok (.ireturn, 1) := by decide +kernel
theorem d_N_grants_0 : decode prog_8_method_5_code 0 = .ok (.aload_n 0, 1) := by decide +kernel
theorem d_N_grants_1 : decode prog_8_method_5_code 1 = .ok (.getfield 9, 3) := by decide +kernel
theorem d_N_grants_4 : decode prog_8_method_5_code 4 = .ok (.ifCond .eq 19, 3) := by decide +kernel
theorem d_N_grants_7 : decode prog_8_method_5_code 7 = .ok (.aload_n 0, 1) := by decide +kernel
theorem d_N_grants_8 : decode prog_8_method_5_code 8 = .ok (.getfield 21, 3) := by decide +kernel
theorem d_N_grants_11 : decode prog_8_method_5_code 11 = .ok (.iload_n 2, 1) := by decide +kernel
theorem d_N_grants_12 : decode prog_8_method_5_code 12 = .ok (.if_icmp .ge 11, 3) := by decide +kernel
theorem d_N_grants_15 : decode prog_8_method_5_code 15 = .ok (.aload_n 1, 1) := by decide +kernel
theorem d_N_grants_16 : decode prog_8_method_5_code 16 = .ok (.aload_n 0, 1) := by decide +kernel
theorem d_N_grants_17 : decode prog_8_method_5_code 17 = .ok (.invokevirtual 28, 3) := by decide +kernel
theorem d_N_grants_20 : decode prog_8_method_5_code 20 = .ok (.ifCond .eq 5, 3) := by decide +kernel
theorem d_N_grants_23 : decode prog_8_method_5_code 23 = .ok (.iconst 0, 1) := by decide +kernel
theorem d_N_grants_24 : decode prog_8_method_5_code 24 = .ok (.ireturn, 1) := by decide +kernel
theorem d_N_grants_25 : decode prog_8_method_5_code 25 = .ok (.aload_n 0, 1) := by decide +kernel
theorem d_N_grants_26 : decode prog_8_method_5_code 26 = .ok (.iload_n 2, 1) := by decide +kernel
theorem d_N_grants_27 : decode prog_8_method_5_code 27 = .ok (.invokevirtual 32, 3) := by decide +kernel
theorem d_N_grants_30 : decode prog_8_method_5_code 30 = .ok (.iconst 1, 1) := by decide +kernel
theorem d_N_grants_31 : decode prog_8_method_5_code 31 = .ok (.ireturn, 1) := by decide +kernel
theorem d_N_isBehind_0 : decode prog_8_method_6_code 0 = .ok (.aload_n 0, 1) := by decide +kernel
theorem d_N_isBehind_1 : decode prog_8_method_6_code 1 = .ok (.invokevirtual 36, 3) := by decide +kernel
theorem d_N_isBehind_4 : decode prog_8_method_6_code 4 = .ok (.istore_n 2, 1) := by decide +kernel
theorem d_N_isBehind_5 : decode prog_8_method_6_code 5 = .ok (.aload_n 1, 1) := by decide +kernel
theorem d_N_isBehind_6 : decode prog_8_method_6_code 6 = .ok (.invokevirtual 36, 3) := by decide +kernel
theorem d_N_isBehind_9 : decode prog_8_method_6_code 9 = .ok (.istore_n 3, 1) := by decide +kernel
theorem d_N_isBehind_10 : decode prog_8_method_6_code 10 = .ok (.iload_n 2, 1) := by decide +kernel
theorem d_N_isBehind_11 : decode prog_8_method_6_code 11 = .ok (.iload_n 3, 1) := by decide +kernel
theorem d_N_isBehind_12 : decode prog_8_method_6_code 12 = .ok (.if_icmp .lt 19, 3) := by decide +kernel
theorem d_N_isBehind_15 : decode prog_8_method_6_code 15 = .ok (.iload_n 2, 1) := by decide +kernel
theorem d_N_isBehind_16 : decode prog_8_method_6_code 16 = .ok (.iload_n 3, 1) := by decide +kernel
theorem d_N_isBehind_17 : decode prog_8_method_6_code 17 = .ok (.if_icmp .ne 18, 3) := by decide +kernel
theorem d_N_isBehind_20 : decode prog_8_method_6_code 20 = .ok (.aload_n 0, 1) := by decide +kernel
theorem d_N_isBehind_21 : decode prog_8_method_6_code 21 = .ok (.getfield 40, 3) := by decide +kernel
theorem d_N_isBehind_24 : decode prog_8_method_6_code 24 = .ok (.aload_n 1, 1) := by decide +kernel
theorem d_N_isBehind_25 : decode prog_8_method_6_code 25 = .ok (.getfield 40, 3) := by decide +kernel
theorem d_N_isBehind_28 : decode prog_8_method_6_code 28 = .ok (.if_icmp .ge 7, 3) := by decide +kernel
theorem d_N_isBehind_31 : decode prog_8_method_6_code 31 = .ok (.iconst 1, 1) := by decide +kernel
theorem d_N_isBehind_32 : decode prog_8_method_6_code 32 = .ok (.goto 4, 3) := by decide +kernel
theorem d_N_isBehind_35 : decode prog_8_method_6_code 35 = .ok (.iconst 0, 1) := by decide +kernel
theorem d_N_isBehind_36 : decode prog_8_method_6_code 36 = .ok (.ireturn, 1) := by decide +kernel
theorem d_N_lastTerm_0 : decode prog_8_method_7_code 0 = .ok (.aload_n 0, 1) := by decide +kernel
theorem d_N_lastTerm_1 : decode prog_8_method_7_code 1 = .ok (.getfield 40, 3) := by decide +kernel
theorem d_N_lastTerm_4 : decode prog_8_method_7_code 4 = .ok (.ifCond .ne 7, 3) := by decide +kernel
theorem d_N_lastTerm_7 : decode prog_8_method_7_code 7 = .ok (.iconst 0, 1) := by decide +kernel
theorem d_N_lastTerm_8 : decode prog_8_method_7_code 8 = .ok (.goto 17, 3) := by decide +kernel
theorem d_N_lastTerm_11 : decode prog_8_method_7_code 11 = .ok (.aload_n 0, 1) := by decide +kernel
theorem d_N_lastTerm_12 : decode prog_8_method_7_code 12 = .ok (.getfield 17, 3) := by decide +kernel
theorem d_N_lastTerm_15 : decode prog_8_method_7_code 15 = .ok (.aload_n 0, 1) := by decide +kernel
theorem d_N_lastTerm_16 : decode prog_8_method_7_code 16 = .ok (.getfield 40, 3) := by decide +kernel
theorem d_N_lastTerm_19 : decode prog_8_method_7_code 19 = .ok (.iconst 1, 1) := by decide +kernel
theorem d_N_lastTerm_20 : decode prog_8_method_7_code 20 = .ok (.isub, 1) := by decide +kernel
theorem d_N_lastTerm_21 : decode prog_8_method_7_code 21 = .ok (.aaload, 1) := by decide +kernel
theorem d_N_lastTerm_22 : decode prog_8_method_7_code 22 = .ok (.getfield 43, 3) := by decide +kernel
theorem d_N_lastTerm_25 : decode prog_8_method_7_code 25 = .ok (.ireturn, 1) := by decide +kernel
theorem d_N_takeTerm_0 : decode prog_8_method_4_code 0 = .ok (.iload_n 1, 1) := by decide +kernel
theorem d_N_takeTerm_1 : decode prog_8_method_4_code 1 = .ok (.aload_n 0, 1) := by decide +kernel
theorem d_N_takeTerm_2 : decode prog_8_method_4_code 2 = .ok (.getfield 21, 3) := by decide +kernel
theorem d_N_takeTerm_5 : decode prog_8_method_4_code 5 = .ok (.if_icmp .le 13, 3) := by decide +kernel
theorem d_N_takeTerm_8 : decode prog_8_method_4_code 8 = .ok (.aload_n 0, 1) := by decide +kernel
theorem d_N_takeTerm_9 : decode prog_8_method_4_code 9 = .ok (.iload_n 1, 1) := by decide +kernel
theorem d_N_takeTerm_10 : decode prog_8_method_4_code 10 = .ok (.putfield 21, 3) := by decide +kernel
theorem d_N_takeTerm_13 : decode prog_8_method_4_code 13 = .ok (.aload_n 0, 1) := by decide +kernel
theorem d_N_takeTerm_14 : decode prog_8_method_4_code 14 = .ok (.iconst 0, 1) := by decide +kernel
theorem d_N_takeTerm_15 : decode prog_8_method_4_code 15 = .ok (.putfield 25, 3) := by decide +kernel
theorem d_N_takeTerm_18 : decode prog_8_method_4_code 18 = .ok (.return_, 1) := by decide +kernel
theorem d_E_init_0 : decode prog_6_method_1_code 0 = .ok (.aload_n 0, 1) := by decide +kernel
theorem d_E_init_1 : decode prog_6_method_1_code 1 = .ok (.invokespecial 1, 3) := by decide +kernel
theorem d_E_init_4 : decode prog_6_method_1_code 4 = .ok (.aload_n 0, 1) := by decide +kernel
theorem d_E_init_5 : decode prog_6_method_1_code 5 = .ok (.iload_n 1, 1) := by decide +kernel
theorem d_E_init_6 : decode prog_6_method_1_code 6 = .ok (.putfield 7, 3) := by decide +kernel
theorem d_E_init_9 : decode prog_6_method_1_code 9 = .ok (.return_, 1) := by decide +kernel
theorem d_N_write_0 : decode prog_8_method_9_code 0 = .ok (.aload_n 0, 1) := by decide +kernel
theorem d_N_write_1 : decode prog_8_method_9_code 1 = .ok (.getfield 40, 3) := by decide +kernel
theorem d_N_write_4 : decode prog_8_method_9_code 4 = .ok (.bipush 80, 2) := by decide +kernel
theorem d_N_write_6 : decode prog_8_method_9_code 6 = .ok (.if_icmp .ne 6, 3) := by decide +kernel
theorem d_N_write_9 : decode prog_8_method_9_code 9 = .ok (.bipush (-3), 2) := by decide +kernel
theorem d_N_write_11 : decode prog_8_method_9_code 11 = .ok (.ireturn, 1) := by decide +kernel
theorem d_N_write_12 : decode prog_8_method_9_code 12 = .ok (.aload_n 0, 1) := by decide +kernel
theorem d_N_write_13 : decode prog_8_method_9_code 13 = .ok (.getfield 17, 3) := by decide +kernel
theorem d_N_write_16 : decode prog_8_method_9_code 16 = .ok (.aload_n 0, 1) := by decide +kernel
theorem d_N_write_17 : decode prog_8_method_9_code 17 = .ok (.getfield 40, 3) := by decide +kernel
theorem d_N_write_20 : decode prog_8_method_9_code 20 = .ok (.aload_n 1, 1) := by decide +kernel
theorem d_N_write_21 : decode prog_8_method_9_code 21 = .ok (.aastore, 1) := by decide +kernel
theorem d_N_write_22 : decode prog_8_method_9_code 22 = .ok (.aload_n 0, 1) := by decide +kernel
theorem d_N_write_23 : decode prog_8_method_9_code 23 = .ok (.dup, 1) := by decide +kernel
theorem d_N_write_24 : decode prog_8_method_9_code 24 = .ok (.getfield 40, 3) := by decide +kernel
theorem d_N_write_27 : decode prog_8_method_9_code 27 = .ok (.iconst 1, 1) := by decide +kernel
theorem d_N_write_28 : decode prog_8_method_9_code 28 = .ok (.iadd, 1) := by decide +kernel
theorem d_N_write_29 : decode prog_8_method_9_code 29 = .ok (.putfield 40, 3) := by decide +kernel
theorem d_N_write_32 : decode prog_8_method_9_code 32 = .ok (.aload_n 0, 1) := by decide +kernel
theorem d_N_write_33 : decode prog_8_method_9_code 33 = .ok (.getfield 40, 3) := by decide +kernel
theorem d_N_write_36 : decode prog_8_method_9_code 36 = .ok (.ireturn, 1) := by decide +kernel
theorem d_S_ship_0 : decode prog_1_method_5_code 0 = .ok (.aload_n 0, 1) := by decide +kernel
theorem d_S_ship_1 : decode prog_1_method_5_code 1 = .ok (.iload_n 1, 1) := by decide +kernel
theorem d_S_ship_2 : decode prog_1_method_5_code 2 = .ok (.invokevirtual 40, 3) := by decide +kernel
theorem d_S_ship_5 : decode prog_1_method_5_code 5 = .ok (.astore_n 3, 1) := by decide +kernel
theorem d_S_ship_6 : decode prog_1_method_5_code 6 = .ok (.aload_n 0, 1) := by decide +kernel
theorem d_S_ship_7 : decode prog_1_method_5_code 7 = .ok (.iload_n 2, 1) := by decide +kernel
theorem d_S_ship_8 : decode prog_1_method_5_code 8 = .ok (.invokevirtual 40, 3) := by decide +kernel
theorem d_S_ship_11 : decode prog_1_method_5_code 11 = .ok (.astore 4, 2) := by decide +kernel
theorem d_S_ship_13 : decode prog_1_method_5_code 13 = .ok (.aload_n 3, 1) := by decide +kernel
theorem d_S_ship_14 : decode prog_1_method_5_code 14 = .ok (.ifnull 24, 3) := by decide +kernel
theorem d_S_ship_17 : decode prog_1_method_5_code 17 = .ok (.aload 4, 2) := by decide +kernel
theorem d_S_ship_19 : decode prog_1_method_5_code 19 = .ok (.ifnull 19, 3) := by decide +kernel
theorem d_S_ship_22 : decode prog_1_method_5_code 22 = .ok (.iload_n 1, 1) := by decide +kernel
theorem d_S_ship_23 : decode prog_1_method_5_code 23 = .ok (.iload_n 2, 1) := by decide +kernel
theorem d_S_ship_24 : decode prog_1_method_5_code 24 = .ok (.if_icmp .eq 14, 3) := by decide +kernel
theorem d_S_ship_27 : decode prog_1_method_5_code 27 = .ok (.iload_n 1, 1) := by decide +kernel
theorem d_S_ship_28 : decode prog_1_method_5_code 28 = .ok (.invokestatic 33, 3) := by decide +kernel
theorem d_S_ship_31 : decode prog_1_method_5_code 31 = .ok (.iload_n 2, 1) := by decide +kernel
theorem d_S_ship_32 : decode prog_1_method_5_code 32 = .ok (.invokestatic 33, 3) := by decide +kernel
theorem d_S_ship_35 : decode prog_1_method_5_code 35 = .ok (.if_icmp .eq 5, 3) := by decide +kernel
theorem d_S_ship_38 : decode prog_1_method_5_code 38 = .ok (.iconst (-1), 1) := by decide +kernel
theorem d_S_ship_39 : decode prog_1_method_5_code 39 = .ok (.ireturn, 1) := by decide +kernel
theorem d_S_ship_40 : decode prog_1_method_5_code 40 = .ok (.aload_n 3, 1) := by decide +kernel
theorem d_S_ship_41 : decode prog_1_method_5_code 41 = .ok (.getfield 48, 3) := by decide +kernel
theorem d_S_ship_44 : decode prog_1_method_5_code 44 = .ok (.ifCond .ne 6, 3) := by decide +kernel
theorem d_S_ship_47 : decode prog_1_method_5_code 47 = .ok (.bipush (-2), 2) := by decide +kernel
theorem d_S_ship_49 : decode prog_1_method_5_code 49 = .ok (.ireturn, 1) := by decide +kernel
theorem d_S_ship_50 : decode prog_1_method_5_code 50 = .ok (.aload 4, 2) := by decide +kernel
theorem d_S_ship_52 : decode prog_1_method_5_code 52 = .ok (.getfield 54, 3) := by decide +kernel
theorem d_S_ship_55 : decode prog_1_method_5_code 55 = .ok (.aload_n 3, 1) := by decide +kernel
theorem d_S_ship_56 : decode prog_1_method_5_code 56 = .ok (.getfield 54, 3) := by decide +kernel
theorem d_S_ship_59 : decode prog_1_method_5_code 59 = .ok (.if_icmp .le 11, 3) := by decide +kernel
theorem d_S_ship_62 : decode prog_1_method_5_code 62 = .ok (.aload_n 3, 1) := by decide +kernel
theorem d_S_ship_63 : decode prog_1_method_5_code 63 = .ok (.iconst 0, 1) := by decide +kernel
theorem d_S_ship_64 : decode prog_1_method_5_code 64 = .ok (.putfield 48, 3) := by decide +kernel
theorem d_S_ship_67 : decode prog_1_method_5_code 67 = .ok (.bipush (-5), 2) := by decide +kernel
theorem d_S_ship_69 : decode prog_1_method_5_code 69 = .ok (.ireturn, 1) := by decide +kernel
theorem d_S_ship_70 : decode prog_1_method_5_code 70 = .ok (.aload 4, 2) := by decide +kernel
theorem d_S_ship_72 : decode prog_1_method_5_code 72 = .ok (.aload_n 3, 1) := by decide +kernel
theorem d_S_ship_73 : decode prog_1_method_5_code 73 = .ok (.getfield 54, 3) := by decide +kernel
theorem d_S_ship_76 : decode prog_1_method_5_code 76 = .ok (.invokevirtual 77, 3) := by decide +kernel
theorem d_S_ship_79 : decode prog_1_method_5_code 79 = .ok (.aload 4, 2) := by decide +kernel
theorem d_S_ship_81 : decode prog_1_method_5_code 81 = .ok (.aload_n 3, 1) := by decide +kernel
theorem d_S_ship_82 : decode prog_1_method_5_code 82 = .ok (.invokevirtual 80, 3) := by decide +kernel
theorem d_S_ship_85 : decode prog_1_method_5_code 85 = .ok (.aload_n 3, 1) := by decide +kernel
theorem d_S_ship_86 : decode prog_1_method_5_code 86 = .ok (.aload_n 0, 1) := by decide +kernel
theorem d_S_ship_87 : decode prog_1_method_5_code 87 = .ok (.aload_n 3, 1) := by decide +kernel
theorem d_S_ship_88 : decode prog_1_method_5_code 88 = .ok (.iload_n 1, 1) := by decide +kernel
theorem d_S_ship_89 : decode prog_1_method_5_code 89 = .ok (.invokestatic 33, 3) := by decide +kernel
theorem d_S_ship_92 : decode prog_1_method_5_code 92 = .ok (.invokevirtual 84, 3) := by decide +kernel
theorem d_S_ship_95 : decode prog_1_method_5_code 95 = .ok (.invokevirtual 88, 3) := by decide +kernel
theorem d_S_ship_98 : decode prog_1_method_5_code 98 = .ok (.aload 4, 2) := by decide +kernel
theorem d_S_ship_100 : decode prog_1_method_5_code 100 = .ok (.aload_n 3, 1) := by decide +kernel
theorem d_S_ship_101 : decode prog_1_method_5_code 101 = .ok (.getfield 91, 3) := by decide +kernel
theorem d_S_ship_104 : decode prog_1_method_5_code 104 = .ok (.invokevirtual 88, 3) := by decide +kernel
theorem d_S_ship_107 : decode prog_1_method_5_code 107 = .ok (.aload 4, 2) := by decide +kernel
theorem d_S_ship_109 : decode prog_1_method_5_code 109 = .ok (.getfield 94, 3) := by decide +kernel
theorem d_S_ship_112 : decode prog_1_method_5_code 112 = .ok (.ireturn, 1) := by decide +kernel
