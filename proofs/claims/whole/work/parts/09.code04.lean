theorem d_C_leave_0 : decode prog_3_method_5_code 0 = .ok (.aload_n 0, 1) := by decide +kernel
theorem d_C_leave_1 : decode prog_3_method_5_code 1 = .ok (.getfield 9, 3) := by decide +kernel
theorem d_C_leave_4 : decode prog_3_method_5_code 4 = .ok (.iload_n 1, 1) := by decide +kernel
theorem d_C_leave_5 : decode prog_3_method_5_code 5 = .ok (.iconst 0, 1) := by decide +kernel
theorem d_C_leave_6 : decode prog_3_method_5_code 6 = .ok (.bastore, 1) := by decide +kernel
theorem d_C_leave_7 : decode prog_3_method_5_code 7 = .ok (.iconst 0, 1) := by decide +kernel
theorem d_C_leave_8 : decode prog_3_method_5_code 8 = .ok (.istore_n 2, 1) := by decide +kernel
theorem d_C_leave_9 : decode prog_3_method_5_code 9 = .ok (.iload_n 2, 1) := by decide +kernel
theorem d_C_leave_10 : decode prog_3_method_5_code 10 = .ok (.bipush 8, 2) := by decide +kernel
theorem d_C_leave_12 : decode prog_3_method_5_code 12 = .ok (.if_icmp .ge 28, 3) := by decide +kernel
theorem d_C_leave_15 : decode prog_3_method_5_code 15 = .ok (.aload_n 0, 1) := by decide +kernel
theorem d_C_leave_16 : decode prog_3_method_5_code 16 = .ok (.getfield 15, 3) := by decide +kernel
theorem d_C_leave_19 : decode prog_3_method_5_code 19 = .ok (.iload_n 2, 1) := by decide +kernel
theorem d_C_leave_20 : decode prog_3_method_5_code 20 = .ok (.iaload, 1) := by decide +kernel
theorem d_C_leave_21 : decode prog_3_method_5_code 21 = .ok (.iload_n 1, 1) := by decide +kernel
theorem d_C_leave_22 : decode prog_3_method_5_code 22 = .ok (.if_icmp .ne 12, 3) := by decide +kernel
theorem d_C_leave_25 : decode prog_3_method_5_code 25 = .ok (.aload_n 0, 1) := by decide +kernel
theorem d_C_leave_26 : decode prog_3_method_5_code 26 = .ok (.iload_n 2, 1) := by decide +kernel
theorem d_C_leave_27 : decode prog_3_method_5_code 27 = .ok (.aload_n 0, 1) := by decide +kernel
theorem d_C_leave_28 : decode prog_3_method_5_code 28 = .ok (.invokevirtual 39, 3) := by decide +kernel
theorem d_C_leave_31 : decode prog_3_method_5_code 31 = .ok (.invokevirtual 32, 3) := by decide +kernel
theorem d_C_leave_34 : decode prog_3_method_5_code 34 = .ok (.iinc 2 1, 3) := by decide +kernel
theorem d_C_leave_37 : decode prog_3_method_5_code 37 = .ok (.goto (-28), 3) := by decide +kernel
theorem d_C_leave_40 : decode prog_3_method_5_code 40 = .ok (.aload_n 0, 1) := by decide +kernel
theorem d_C_leave_41 : decode prog_3_method_5_code 41 = .ok (.invokevirtual 36, 3) := by decide +kernel
theorem d_C_leave_44 : decode prog_3_method_5_code 44 = .ok (.return_, 1) := by decide +kernel
theorem d_V_add_0 : decode prog_10_method_5_code 0 = .ok (.aload_n 0, 1) := by decide +kernel
theorem d_V_add_1 : decode prog_10_method_5_code 1 = .ok (.dup, 1) := by decide +kernel
theorem d_V_add_2 : decode prog_10_method_5_code 2 = .ok (.getfield 23, 3) := by decide +kernel
theorem d_V_add_5 : decode prog_10_method_5_code 5 = .ok (.iconst 1, 1) := by decide +kernel
theorem d_V_add_6 : decode prog_10_method_5_code 6 = .ok (.iadd, 1) := by decide +kernel
theorem d_V_add_7 : decode prog_10_method_5_code 7 = .ok (.putfield 23, 3) := by decide +kernel
theorem d_V_add_10 : decode prog_10_method_5_code 10 = .ok (.aload_n 0, 1) := by decide +kernel
theorem d_V_add_11 : decode prog_10_method_5_code 11 = .ok (.getfield 11, 3) := by decide +kernel
theorem d_V_add_14 : decode prog_10_method_5_code 14 = .ok (.aload_n 0, 1) := by decide +kernel
theorem d_V_add_15 : decode prog_10_method_5_code 15 = .ok (.getfield 23, 3) := by decide +kernel
theorem d_V_add_18 : decode prog_10_method_5_code 18 = .ok (.aload_n 1, 1) := by decide +kernel
theorem d_V_add_19 : decode prog_10_method_5_code 19 = .ok (.aastore, 1) := by decide +kernel
theorem d_V_add_20 : decode prog_10_method_5_code 20 = .ok (.return_, 1) := by decide +kernel
theorem d_E_changeService_0 : decode prog_6_method_2_code 0 = .ok (.return_, 1) := by decide +kernel
theorem d_T_carryOut_0 : decode prog_12_method_2_code 0 = .ok (.aload_n 1, 1) := by decide +kernel
theorem d_T_carryOut_1 : decode prog_12_method_2_code 1 = .ok (.aload_n 0, 1) := by decide +kernel
theorem d_T_carryOut_2 : decode prog_12_method_2_code 2 = .ok (.invokevirtual 26, 3) := by decide +kernel
theorem d_T_carryOut_5 : decode prog_12_method_2_code 5 = .ok (.return_, 1) := by decide +kernel
theorem d_F_changeStore_0 : decode prog_4_method_2_code 0 = .ok (.aload_n 1, 1) := by decide +kernel
theorem d_F_changeStore_1 : decode prog_4_method_2_code 1 = .ok (.aload_n 0, 1) := by decide +kernel
theorem d_F_changeStore_2 : decode prog_4_method_2_code 2 = .ok (.getfield 7, 3) := by decide +kernel
theorem d_F_changeStore_5 : decode prog_4_method_2_code 5 = .ok (.aload_n 0, 1) := by decide +kernel
theorem d_F_changeStore_6 : decode prog_4_method_2_code 6 = .ok (.getfield 13, 3) := by decide +kernel
theorem d_F_changeStore_9 : decode prog_4_method_2_code 9 = .ok (.invokevirtual 17, 3) := by decide +kernel
theorem d_F_changeStore_12 : decode prog_4_method_2_code 12 = .ok (.return_, 1) := by decide +kernel
theorem d_T_adopt_0 : decode prog_12_method_6_code 0 = .ok (.iload_n 1, 1) := by decide +kernel
theorem d_T_adopt_1 : decode prog_12_method_6_code 1 = .ok (.aload_n 0, 1) := by decide +kernel
theorem d_T_adopt_2 : decode prog_12_method_6_code 2 = .ok (.getfield 32, 3) := by decide +kernel
theorem d_T_adopt_5 : decode prog_12_method_6_code 5 = .ok (.iconst 1, 1) := by decide +kernel
theorem d_T_adopt_6 : decode prog_12_method_6_code 6 = .ok (.iadd, 1) := by decide +kernel
theorem d_T_adopt_7 : decode prog_12_method_6_code 7 = .ok (.if_icmp .ne 10, 3) := by decide +kernel
theorem d_T_adopt_10 : decode prog_12_method_6_code 10 = .ok (.aload_n 0, 1) := by decide +kernel
theorem d_T_adopt_11 : decode prog_12_method_6_code 11 = .ok (.invokevirtual 38, 3) := by decide +kernel
theorem d_T_adopt_14 : decode prog_12_method_6_code 14 = .ok (.ifCond .ne 4, 3) := by decide +kernel
theorem d_T_adopt_17 : decode prog_12_method_6_code 17 = .ok (.return_, 1) := by decide +kernel
theorem d_T_adopt_18 : decode prog_12_method_6_code 18 = .ok (.iconst 0, 1) := by decide +kernel
theorem d_T_adopt_19 : decode prog_12_method_6_code 19 = .ok (.istore_n 3, 1) := by decide +kernel
theorem d_T_adopt_20 : decode prog_12_method_6_code 20 = .ok (.iload_n 3, 1) := by decide +kernel
theorem d_T_adopt_21 : decode prog_12_method_6_code 21 = .ok (.bipush 8, 2) := by decide +kernel
theorem d_T_adopt_23 : decode prog_12_method_6_code 23 = .ok (.if_icmp .ge 34, 3) := by decide +kernel
theorem d_T_adopt_26 : decode prog_12_method_6_code 26 = .ok (.aload_n 0, 1) := by decide +kernel
theorem d_T_adopt_27 : decode prog_12_method_6_code 27 = .ok (.aload_n 0, 1) := by decide +kernel
theorem d_T_adopt_28 : decode prog_12_method_6_code 28 = .ok (.getfield 11, 3) := by decide +kernel
theorem d_T_adopt_31 : decode prog_12_method_6_code 31 = .ok (.iload_n 3, 1) := by decide +kernel
theorem d_T_adopt_32 : decode prog_12_method_6_code 32 = .ok (.aaload, 1) := by decide +kernel
theorem d_T_adopt_33 : decode prog_12_method_6_code 33 = .ok (.aload_n 0, 1) := by decide +kernel
theorem d_T_adopt_34 : decode prog_12_method_6_code 34 = .ok (.getfield 21, 3) := by decide +kernel
theorem d_T_adopt_37 : decode prog_12_method_6_code 37 = .ok (.getfield 42, 3) := by decide +kernel
theorem d_T_adopt_40 : decode prog_12_method_6_code 40 = .ok (.iload_n 3, 1) := by decide +kernel
theorem d_T_adopt_41 : decode prog_12_method_6_code 41 = .ok (.iaload, 1) := by decide +kernel
theorem d_T_adopt_42 : decode prog_12_method_6_code 42 = .ok (.aload_n 2, 1) := by decide +kernel
theorem d_T_adopt_43 : decode prog_12_method_6_code 43 = .ok (.getfield 42, 3) := by decide +kernel
theorem d_T_adopt_46 : decode prog_12_method_6_code 46 = .ok (.iload_n 3, 1) := by decide +kernel
theorem d_T_adopt_47 : decode prog_12_method_6_code 47 = .ok (.iaload, 1) := by decide +kernel
theorem d_T_adopt_48 : decode prog_12_method_6_code 48 = .ok (.invokevirtual 48, 3) := by decide +kernel
theorem d_T_adopt_51 : decode prog_12_method_6_code 51 = .ok (.iinc 3 1, 3) := by decide +kernel
theorem d_T_adopt_54 : decode prog_12_method_6_code 54 = .ok (.goto (-34), 3) := by decide +kernel
theorem d_T_adopt_57 : decode prog_12_method_6_code 57 = .ok (.aload_n 0, 1) := by decide +kernel
theorem d_T_adopt_58 : decode prog_12_method_6_code 58 = .ok (.iload_n 1, 1) := by decide +kernel
theorem d_T_adopt_59 : decode prog_12_method_6_code 59 = .ok (.putfield 32, 3) := by decide +kernel
theorem d_T_adopt_62 : decode prog_12_method_6_code 62 = .ok (.aload_n 0, 1) := by decide +kernel
theorem d_T_adopt_63 : decode prog_12_method_6_code 63 = .ok (.aload_n 2, 1) := by decide +kernel
theorem d_T_adopt_64 : decode prog_12_method_6_code 64 = .ok (.putfield 21, 3) := by decide +kernel
theorem d_T_adopt_67 : decode prog_12_method_6_code 67 = .ok (.return_, 1) := by decide +kernel
theorem d_T_isSettled_0 : decode prog_12_method_4_code 0 = .ok (.aload_n 0, 1) := by decide +kernel
theorem d_T_isSettled_1 : decode prog_12_method_4_code 1 = .ok (.getfield 11, 3) := by decide +kernel
theorem d_T_isSettled_4 : decode prog_12_method_4_code 4 = .ok (.astore_n 1, 1) := by decide +kernel
theorem d_T_isSettled_5 : decode prog_12_method_4_code 5 = .ok (.aload_n 1, 1) := by decide +kernel
theorem d_T_isSettled_6 : decode prog_12_method_4_code 6 = .ok (.arraylength, 1) := by decide +kernel
theorem d_T_isSettled_7 : decode prog_12_method_4_code 7 = .ok (.istore_n 2, 1) := by decide +kernel
theorem d_T_isSettled_8 : decode prog_12_method_4_code 8 = .ok (.iconst 0, 1) := by decide +kernel
theorem d_T_isSettled_9 : decode prog_12_method_4_code 9 = .ok (.istore_n 3, 1) := by decide +kernel
theorem d_T_isSettled_10 : decode prog_12_method_4_code 10 = .ok (.iload_n 3, 1) := by decide +kernel
theorem d_T_isSettled_11 : decode prog_12_method_4_code 11 = .ok (.iload_n 2, 1) := by decide +kernel
theorem d_T_isSettled_12 : decode prog_12_method_4_code 12 = .ok (.if_icmp .ge 34, 3) := by decide +kernel
theorem d_T_isSettled_15 : decode prog_12_method_4_code 15 = .ok (.aload_n 1, 1) := by decide +kernel
theorem d_T_isSettled_16 : decode prog_12_method_4_code 16 = .ok (.iload_n 3, 1) := by decide +kernel
theorem d_T_isSettled_17 : decode prog_12_method_4_code 17 = .ok (.aaload, 1) := by decide +kernel
theorem d_T_isSettled_18 : decode prog_12_method_4_code 18 = .ok (.astore 4, 2) := by decide +kernel
theorem d_T_isSettled_20 : decode prog_12_method_4_code 20 = .ok (.aload 4, 2) := by decide +kernel
theorem d_T_isSettled_22 : decode prog_12_method_4_code 22 = .ok (.getfield 35, 3) := by decide +kernel
theorem d_T_isSettled_25 : decode prog_12_method_4_code 25 = .ok (.iconst 2, 1) := by decide +kernel
theorem d_T_isSettled_26 : decode prog_12_method_4_code 26 = .ok (.if_icmp .eq 12, 3) := by decide +kernel
theorem d_T_isSettled_29 : decode prog_12_method_4_code 29 = .ok (.aload 4, 2) := by decide +kernel
theorem d_T_isSettled_31 : decode prog_12_method_4_code 31 = .ok (.getfield 35, 3) := by decide +kernel
theorem d_T_isSettled_34 : decode prog_12_method_4_code 34 = .ok (.iconst 3, 1) := by decide +kernel
theorem d_T_isSettled_35 : decode prog_12_method_4_code 35 = .ok (.if_icmp .ne 5, 3) := by decide +kernel
theorem d_T_isSettled_38 : decode prog_12_method_4_code 38 = .ok (.iconst 0, 1) := by decide +kernel
theorem d_T_isSettled_39 : decode prog_12_method_4_code 39 = .ok (.ireturn, 1) := by decide +kernel
theorem d_T_isSettled_40 : decode prog_12_method_4_code 40 = .ok (.iinc 3 1, 3) := by decide +kernel
theorem d_T_isSettled_43 : decode prog_12_method_4_code 43 = .ok (.goto (-33), 3) := by decide +kernel
theorem d_T_isSettled_46 : decode prog_12_method_4_code 46 = .ok (.iconst 1, 1) := by decide +kernel
theorem d_T_isSettled_47 : decode prog_12_method_4_code 47 = .ok (.ireturn, 1) := by decide +kernel
theorem d_T_handOver_0 : decode prog_12_method_7_code 0 = .ok (.iload_n 3, 1) := by decide +kernel
theorem d_T_handOver_1 : decode prog_12_method_7_code 1 = .ok (.aload_n 0, 1) := by decide +kernel
theorem d_T_handOver_2 : decode prog_12_method_7_code 2 = .ok (.getfield 17, 3) := by decide +kernel
theorem d_T_handOver_5 : decode prog_12_method_7_code 5 = .ok (.if_icmp .ne 19, 3) := by decide +kernel
theorem d_T_handOver_8 : decode prog_12_method_7_code 8 = .ok (.iload_n 2, 1) := by decide +kernel
theorem d_T_handOver_9 : decode prog_12_method_7_code 9 = .ok (.ifCond .ne 15, 3) := by decide +kernel
theorem d_T_handOver_12 : decode prog_12_method_7_code 12 = .ok (.aload_n 1, 1) := by decide +kernel
theorem d_T_handOver_13 : decode prog_12_method_7_code 13 = .ok (.invokevirtual 52, 3) := by decide +kernel
theorem d_T_handOver_16 : decode prog_12_method_7_code 16 = .ok (.aload_n 1, 1) := by decide +kernel
theorem d_T_handOver_17 : decode prog_12_method_7_code 17 = .ok (.iconst 1, 1) := by decide +kernel
theorem d_T_handOver_18 : decode prog_12_method_7_code 18 = .ok (.putfield 35, 3) := by decide +kernel
theorem d_T_handOver_21 : decode prog_12_method_7_code 21 = .ok (.goto 48, 3) := by decide +kernel
theorem d_T_handOver_24 : decode prog_12_method_7_code 24 = .ok (.iload_n 3, 1) := by decide +kernel
theorem d_T_handOver_25 : decode prog_12_method_7_code 25 = .ok (.aload_n 0, 1) := by decide +kernel
theorem d_T_handOver_26 : decode prog_12_method_7_code 26 = .ok (.getfield 17, 3) := by decide +kernel
theorem d_T_handOver_29 : decode prog_12_method_7_code 29 = .ok (.if_icmp .ne 19, 3) := by decide +kernel
theorem d_T_handOver_32 : decode prog_12_method_7_code 32 = .ok (.iload_n 2, 1) := by decide +kernel
theorem d_T_handOver_33 : decode prog_12_method_7_code 33 = .ok (.aload_n 0, 1) := by decide +kernel
theorem d_T_handOver_34 : decode prog_12_method_7_code 34 = .ok (.getfield 17, 3) := by decide +kernel
theorem d_T_handOver_37 : decode prog_12_method_7_code 37 = .ok (.if_icmp .eq 11, 3) := by decide +kernel
theorem d_T_handOver_40 : decode prog_12_method_7_code 40 = .ok (.aload_n 1, 1) := by decide +kernel
theorem d_T_handOver_41 : decode prog_12_method_7_code 41 = .ok (.iconst 2, 1) := by decide +kernel
theorem d_T_handOver_42 : decode prog_12_method_7_code 42 = .ok (.putfield 35, 3) := by decide +kernel
theorem d_T_handOver_45 : decode prog_12_method_7_code 45 = .ok (.goto 24, 3) := by decide +kernel
theorem d_T_handOver_48 : decode prog_12_method_7_code 48 = .ok (.iload_n 3, 1) := by decide +kernel
theorem d_T_handOver_49 : decode prog_12_method_7_code 49 = .ok (.aload_n 0, 1) := by decide +kernel
theorem d_T_handOver_50 : decode prog_12_method_7_code 50 = .ok (.getfield 17, 3) := by decide +kernel
theorem d_T_handOver_53 : decode prog_12_method_7_code 53 = .ok (.if_icmp .eq 16, 3) := by decide +kernel
theorem d_T_handOver_56 : decode prog_12_method_7_code 56 = .ok (.iload_n 2, 1) := by decide +kernel
theorem d_T_handOver_57 : decode prog_12_method_7_code 57 = .ok (.aload_n 0, 1) := by decide +kernel
theorem d_T_handOver_58 : decode prog_12_method_7_code 58 = .ok (.getfield 17, 3) := by decide +kernel
theorem d_T_handOver_61 : decode prog_12_method_7_code 61 = .ok (.if_icmp .ne 8, 3) := by decide +kernel
theorem d_T_handOver_64 : decode prog_12_method_7_code 64 = .ok (.aload_n 1, 1) := by decide +kernel
theorem d_T_handOver_65 : decode prog_12_method_7_code 65 = .ok (.iconst 3, 1) := by decide +kernel
theorem d_T_handOver_66 : decode prog_12_method_7_code 66 = .ok (.putfield 35, 3) := by decide +kernel
theorem d_T_handOver_69 : decode prog_12_method_7_code 69 = .ok (.return_, 1) := by decide +kernel
theorem d_H_clear_0 : decode prog_11_method_3_code 0 = .ok (.iconst 0, 1) := by decide +kernel
theorem d_H_clear_1 : decode prog_11_method_3_code 1 = .ok (.istore_n 1, 1) := by decide +kernel
theorem d_H_clear_2 : decode prog_11_method_3_code 2 = .ok (.iload_n 1, 1) := by decide +kernel
theorem d_H_clear_3 : decode prog_11_method_3_code 3 = .ok (.aload_n 0, 1) := by decide +kernel
theorem d_H_clear_4 : decode prog_11_method_3_code 4 = .ok (.getfield 15, 3) := by decide +kernel
theorem d_H_clear_7 : decode prog_11_method_3_code 7 = .ok (.arraylength, 1) := by decide +kernel
theorem d_H_clear_8 : decode prog_11_method_3_code 8 = .ok (.if_icmp .ge 16, 3) := by decide +kernel
theorem d_H_clear_11 : decode prog_11_method_3_code 11 = .ok (.aload_n 0, 1) := by decide +kernel
theorem d_H_clear_12 : decode prog_11_method_3_code 12 = .ok (.getfield 15, 3) := by decide +kernel
theorem d_H_clear_15 : decode prog_11_method_3_code 15 = .ok (.iload_n 1, 1) := by decide +kernel
theorem d_H_clear_16 : decode prog_11_method_3_code 16 = .ok (.iconst 0, 1) := by decide +kernel
theorem d_H_clear_17 : decode prog_11_method_3_code 17 = .ok (.iastore, 1) := by decide +kernel
theorem d_H_clear_18 : decode prog_11_method_3_code 18 = .ok (.iinc 1 1, 3) := by decide +kernel
theorem d_H_clear_21 : decode prog_11_method_3_code 21 = .ok (.goto (-19), 3) := by decide +kernel
theorem d_H_clear_24 : decode prog_11_method_3_code 24 = .ok (.iconst 0, 1) := by decide +kernel
theorem d_H_clear_25 : decode prog_11_method_3_code 25 = .ok (.istore_n 1, 1) := by decide +kernel
theorem d_H_clear_26 : decode prog_11_method_3_code 26 = .ok (.iload_n 1, 1) := by decide +kernel
theorem d_H_clear_27 : decode prog_11_method_3_code 27 = .ok (.iconst 3, 1) := by decide +kernel
theorem d_H_clear_28 : decode prog_11_method_3_code 28 = .ok (.if_icmp .ge 23, 3) := by decide +kernel
theorem d_H_clear_31 : decode prog_11_method_3_code 31 = .ok (.aload_n 0, 1) := by decide +kernel
theorem d_H_clear_32 : decode prog_11_method_3_code 32 = .ok (.getfield 19, 3) := by decide +kernel
theorem d_H_clear_35 : decode prog_11_method_3_code 35 = .ok (.iload_n 1, 1) := by decide +kernel
theorem d_H_clear_36 : decode prog_11_method_3_code 36 = .ok (.iconst 0, 1) := by decide +kernel
theorem d_H_clear_37 : decode prog_11_method_3_code 37 = .ok (.iastore, 1) := by decide +kernel
theorem d_H_clear_38 : decode prog_11_method_3_code 38 = .ok (.aload_n 0, 1) := by decide +kernel
theorem d_H_clear_39 : decode prog_11_method_3_code 39 = .ok (.getfield 22, 3) := by decide +kernel
theorem d_H_clear_42 : decode prog_11_method_3_code 42 = .ok (.iload_n 1, 1) := by decide +kernel
theorem d_H_clear_43 : decode prog_11_method_3_code 43 = .ok (.iconst 0, 1) := by decide +kernel
theorem d_H_clear_44 : decode prog_11_method_3_code 44 = .ok (.iastore, 1) := by decide +kernel
theorem d_H_clear_45 : decode prog_11_method_3_code 45 = .ok (.iinc 1 1, 3) := by decide +kernel
theorem d_H_clear_48 : decode prog_11_method_3_code 48 = .ok (.goto (-22), 3) := by decide +kernel
theorem d_H_clear_51 : decode prog_11_method_3_code 51 = .ok (.return_, 1) := by decide +kernel
theorem d_D_changeStore_0 : decode prog_5_method_2_code 0 = .ok (.aload_n 1, 1) := by decide +kernel
theorem d_D_changeStore_1 : decode prog_5_method_2_code 1 = .ok (.getfield 18, 3) := by decide +kernel
theorem d_D_changeStore_4 : decode prog_5_method_2_code 4 = .ok (.aload_n 0, 1) := by decide +kernel
theorem d_D_changeStore_5 : decode prog_5_method_2_code 5 = .ok (.getfield 9, 3) := by decide +kernel
theorem d_D_changeStore_8 : decode prog_5_method_2_code 8 = .ok (.aaload, 1) := by decide +kernel
theorem d_D_changeStore_9 : decode prog_5_method_2_code 9 = .ok (.astore_n 2, 1) := by decide +kernel
theorem d_D_changeStore_10 : decode prog_5_method_2_code 10 = .ok (.aload_n 2, 1) := by decide +kernel
theorem d_D_changeStore_11 : decode prog_5_method_2_code 11 = .ok (.getfield 24, 3) := by decide +kernel
theorem d_D_changeStore_14 : decode prog_5_method_2_code 14 = .ok (.iconst 3, 1) := by decide +kernel
theorem d_D_changeStore_15 : decode prog_5_method_2_code 15 = .ok (.if_icmp .ne 19, 3) := by decide +kernel
theorem d_D_changeStore_18 : decode prog_5_method_2_code 18 = .ok (.aload_n 1, 1) := by decide +kernel
theorem d_D_changeStore_19 : decode prog_5_method_2_code 19 = .ok (.getfield 29, 3) := by decide +kernel
theorem d_D_changeStore_22 : decode prog_5_method_2_code 22 = .ok (.aload_n 0, 1) := by decide +kernel
theorem d_D_changeStore_23 : decode prog_5_method_2_code 23 = .ok (.getfield 15, 3) := by decide +kernel
theorem d_D_changeStore_26 : decode prog_5_method_2_code 26 = .ok (.if_icmp .ne 8, 3) := by decide +kernel
theorem d_D_changeStore_29 : decode prog_5_method_2_code 29 = .ok (.aload_n 2, 1) := by decide +kernel
theorem d_D_changeStore_30 : decode prog_5_method_2_code 30 = .ok (.iconst 0, 1) := by decide +kernel
theorem d_D_changeStore_31 : decode prog_5_method_2_code 31 = .ok (.putfield 24, 3) := by decide +kernel
theorem d_D_changeStore_34 : decode prog_5_method_2_code 34 = .ok (.return_, 1) := by decide +kernel
theorem d_I_changeStore_0 : decode prog_7_method_2_code 0 = .ok (.aload_n 1, 1) := by decide +kernel
theorem d_I_changeStore_1 : decode prog_7_method_2_code 1 = .ok (.getfield 31, 3) := by decide +kernel
theorem d_I_changeStore_4 : decode prog_7_method_2_code 4 = .ok (.aload_n 0, 1) := by decide +kernel
theorem d_I_changeStore_5 : decode prog_7_method_2_code 5 = .ok (.getfield 20, 3) := by decide +kernel
theorem d_I_changeStore_8 : decode prog_7_method_2_code 8 = .ok (.aaload, 1) := by decide +kernel
theorem d_I_changeStore_9 : decode prog_7_method_2_code 9 = .ok (.astore_n 2, 1) := by decide +kernel
theorem d_I_changeStore_10 : decode prog_7_method_2_code 10 = .ok (.aload_n 2, 1) := by decide +kernel
theorem d_I_changeStore_11 : decode prog_7_method_2_code 11 = .ok (.getfield 37, 3) := by decide +kernel
theorem d_I_changeStore_14 : decode prog_7_method_2_code 14 = .ok (.iconst 2, 1) := by decide +kernel
theorem d_I_changeStore_15 : decode prog_7_method_2_code 15 = .ok (.if_icmp .ne 27, 3) := by decide +kernel
theorem d_I_changeStore_18 : decode prog_7_method_2_code 18 = .ok (.aload_n 1, 1) := by decide +kernel
theorem d_I_changeStore_19 : decode prog_7_method_2_code 19 = .ok (.getfield 40, 3) := by decide +kernel
theorem d_I_changeStore_22 : decode prog_7_method_2_code 22 = .ok (.aload_n 0, 1) := by decide +kernel
theorem d_I_changeStore_23 : decode prog_7_method_2_code 23 = .ok (.getfield 24, 3) := by decide +kernel
theorem d_I_changeStore_26 : decode prog_7_method_2_code 26 = .ok (.if_icmp .ne 16, 3) := by decide +kernel
theorem d_I_changeStore_29 : decode prog_7_method_2_code 29 = .ok (.aload_n 2, 1) := by decide +kernel
theorem d_I_changeStore_30 : decode prog_7_method_2_code 30 = .ok (.aload_n 0, 1) := by decide +kernel
theorem d_I_changeStore_31 : decode prog_7_method_2_code 31 = .ok (.getfield 14, 3) := by decide +kernel
theorem d_I_changeStore_34 : decode prog_7_method_2_code 34 = .ok (.invokevirtual 27, 3) := by decide +kernel
theorem d_I_changeStore_37 : decode prog_7_method_2_code 37 = .ok (.aload_n 2, 1) := by decide +kernel
theorem d_I_changeStore_38 : decode prog_7_method_2_code 38 = .ok (.iconst 1, 1) := by decide +kernel
theorem d_I_changeStore_39 : decode prog_7_method_2_code 39 = .ok (.putfield 37, 3) := by decide +kernel
theorem d_I_changeStore_42 : decode prog_7_method_2_code 42 = .ok (.return_, 1) := by decide +kernel
theorem d_H_copyContents_0 : decode prog_11_method_4_code 0 = .ok (.aload_n 1, 1) := by decide +kernel
theorem d_H_copyContents_1 : decode prog_11_method_4_code 1 = .ok (.getfield 15, 3) := by decide +kernel
theorem d_H_copyContents_4 : decode prog_11_method_4_code 4 = .ok (.iconst 0, 1) := by decide +kernel
theorem d_H_copyContents_5 : decode prog_11_method_4_code 5 = .ok (.aload_n 0, 1) := by decide +kernel
theorem d_H_copyContents_6 : decode prog_11_method_4_code 6 = .ok (.getfield 15, 3) := by decide +kernel
theorem d_H_copyContents_9 : decode prog_11_method_4_code 9 = .ok (.iconst 0, 1) := by decide +kernel
theorem d_H_copyContents_10 : decode prog_11_method_4_code 10 = .ok (.aload_n 0, 1) := by decide +kernel
theorem d_H_copyContents_11 : decode prog_11_method_4_code 11 = .ok (.getfield 15, 3) := by decide +kernel
theorem d_H_copyContents_14 : decode prog_11_method_4_code 14 = .ok (.arraylength, 1) := by decide +kernel
theorem d_H_copyContents_15 : decode prog_11_method_4_code 15 = .ok (.invokestatic 25, 3) := by decide +kernel
theorem d_H_copyContents_18 : decode prog_11_method_4_code 18 = .ok (.aload_n 1, 1) := by decide +kernel
theorem d_H_copyContents_19 : decode prog_11_method_4_code 19 = .ok (.getfield 19, 3) := by decide +kernel
theorem d_H_copyContents_22 : decode prog_11_method_4_code 22 = .ok (.iconst 0, 1) := by decide +kernel
theorem d_H_copyContents_23 : decode prog_11_method_4_code 23 = .ok (.aload_n 0, 1) := by decide +kernel
theorem d_H_copyContents_24 : decode prog_11_method_4_code 24 = .ok (.getfield 19, 3) := by decide +kernel
theorem d_H_copyContents_27 : decode prog_11_method_4_code 27 = .ok (.iconst 0, 1) := by decide +kernel
theorem d_H_copyContents_28 : decode prog_11_method_4_code 28 = .ok (.iconst 3, 1) := by decide +kernel
theorem d_H_copyContents_29 : decode prog_11_method_4_code 29 = .ok (.invokestatic 25, 3) := by decide +kernel
theorem d_H_copyContents_32 : decode prog_11_method_4_code 32 = .ok (.aload_n 1, 1) := by decide +kernel
theorem d_H_copyContents_33 : decode prog_11_method_4_code 33 = .ok (.getfield 22, 3) := by decide +kernel
theorem d_H_copyContents_36 : decode prog_11_method_4_code 36 = .ok (.iconst 0, 1) := by decide +kernel
