theorem d_S_confirm_7 : decode prog_1_method_10_code 7 = .ok (.aload_n 0, 1) := by decide +kernel
theorem d_S_confirm_8 : decode prog_1_method_10_code 8 = .ok (.iload_n 3, 1) := by decide +kernel
theorem d_S_confirm_9 : decode prog_1_method_10_code 9 = .ok (.invokevirtual 113, 3) := by decide +kernel
theorem d_S_confirm_12 : decode prog_1_method_10_code 12 = .ok (.astore 5, 2) := by decide +kernel
theorem d_S_confirm_14 : decode prog_1_method_10_code 14 = .ok (.aload 4, 2) := by decide +kernel
theorem d_S_confirm_16 : decode prog_1_method_10_code 16 = .ok (.ifnull 15, 3) := by decide +kernel
theorem d_S_confirm_19 : decode prog_1_method_10_code 19 = .ok (.aload 5, 2) := by decide +kernel
theorem d_S_confirm_21 : decode prog_1_method_10_code 21 = .ok (.ifnull 10, 3) := by decide +kernel
theorem d_S_confirm_24 : decode prog_1_method_10_code 24 = .ok (.iload_n 2, 1) := by decide +kernel
theorem d_S_confirm_25 : decode prog_1_method_10_code 25 = .ok (.invokestatic 151, 3) := by decide +kernel
theorem d_S_confirm_28 : decode prog_1_method_10_code 28 = .ok (.ifCond .ne 5, 3) := by decide +kernel
theorem d_S_confirm_31 : decode prog_1_method_10_code 31 = .ok (.iconst (-1), 1) := by decide +kernel
theorem d_S_confirm_32 : decode prog_1_method_10_code 32 = .ok (.ireturn, 1) := by decide +kernel
theorem d_S_confirm_33 : decode prog_1_method_10_code 33 = .ok (.aload 4, 2) := by decide +kernel
theorem d_S_confirm_35 : decode prog_1_method_10_code 35 = .ok (.getfield 124, 3) := by decide +kernel
theorem d_S_confirm_38 : decode prog_1_method_10_code 38 = .ok (.ifCond .ne 6, 3) := by decide +kernel
theorem d_S_confirm_41 : decode prog_1_method_10_code 41 = .ok (.bipush (-2), 2) := by decide +kernel
theorem d_S_confirm_43 : decode prog_1_method_10_code 43 = .ok (.ireturn, 1) := by decide +kernel
theorem d_S_confirm_44 : decode prog_1_method_10_code 44 = .ok (.aload 4, 2) := by decide +kernel
theorem d_S_confirm_46 : decode prog_1_method_10_code 46 = .ok (.getfield 154, 3) := by decide +kernel
theorem d_S_confirm_49 : decode prog_1_method_10_code 49 = .ok (.iload_n 2, 1) := by decide +kernel
theorem d_S_confirm_50 : decode prog_1_method_10_code 50 = .ok (.aaload, 1) := by decide +kernel
theorem d_S_confirm_51 : decode prog_1_method_10_code 51 = .ok (.getfield 158, 3) := by decide +kernel
theorem d_S_confirm_54 : decode prog_1_method_10_code 54 = .ok (.iconst 3, 1) := by decide +kernel
theorem d_S_confirm_55 : decode prog_1_method_10_code 55 = .ok (.if_icmp .ne 35, 3) := by decide +kernel
theorem d_S_confirm_58 : decode prog_1_method_10_code 58 = .ok (.aload 4, 2) := by decide +kernel
theorem d_S_confirm_60 : decode prog_1_method_10_code 60 = .ok (.getfield 168, 3) := by decide +kernel
theorem d_S_confirm_63 : decode prog_1_method_10_code 63 = .ok (.getfield 172, 3) := by decide +kernel
theorem d_S_confirm_66 : decode prog_1_method_10_code 66 = .ok (.iload_n 2, 1) := by decide +kernel
theorem d_S_confirm_67 : decode prog_1_method_10_code 67 = .ok (.iaload, 1) := by decide +kernel
theorem d_S_confirm_68 : decode prog_1_method_10_code 68 = .ok (.aload 5, 2) := by decide +kernel
theorem d_S_confirm_70 : decode prog_1_method_10_code 70 = .ok (.getfield 176, 3) := by decide +kernel
theorem d_S_confirm_73 : decode prog_1_method_10_code 73 = .ok (.if_icmp .ne 17, 3) := by decide +kernel
theorem d_S_confirm_76 : decode prog_1_method_10_code 76 = .ok (.aload 5, 2) := by decide +kernel
theorem d_S_confirm_78 : decode prog_1_method_10_code 78 = .ok (.iload_n 2, 1) := by decide +kernel
theorem d_S_confirm_79 : decode prog_1_method_10_code 79 = .ok (.aload 4, 2) := by decide +kernel
theorem d_S_confirm_81 : decode prog_1_method_10_code 81 = .ok (.getfield 132, 3) := by decide +kernel
theorem d_S_confirm_84 : decode prog_1_method_10_code 84 = .ok (.invokevirtual 179, 3) := by decide +kernel
theorem d_S_confirm_87 : decode prog_1_method_10_code 87 = .ok (.ifCond .ne 6, 3) := by decide +kernel
theorem d_S_confirm_90 : decode prog_1_method_10_code 90 = .ok (.bipush (-4), 2) := by decide +kernel
theorem d_S_confirm_92 : decode prog_1_method_10_code 92 = .ok (.ireturn, 1) := by decide +kernel
theorem d_S_confirm_93 : decode prog_1_method_10_code 93 = .ok (.aload 4, 2) := by decide +kernel
theorem d_S_confirm_95 : decode prog_1_method_10_code 95 = .ok (.new 183, 3) := by decide +kernel
theorem d_S_confirm_98 : decode prog_1_method_10_code 98 = .ok (.dup, 1) := by decide +kernel
theorem d_S_confirm_99 : decode prog_1_method_10_code 99 = .ok (.aload 4, 2) := by decide +kernel
theorem d_S_confirm_101 : decode prog_1_method_10_code 101 = .ok (.getfield 127, 3) := by decide +kernel
theorem d_S_confirm_104 : decode prog_1_method_10_code 104 = .ok (.iload_n 2, 1) := by decide +kernel
theorem d_S_confirm_105 : decode prog_1_method_10_code 105 = .ok (.aload 4, 2) := by decide +kernel
theorem d_S_confirm_107 : decode prog_1_method_10_code 107 = .ok (.getfield 132, 3) := by decide +kernel
theorem d_S_confirm_110 : decode prog_1_method_10_code 110 = .ok (.invokespecial 185, 3) := by decide +kernel
theorem d_S_confirm_113 : decode prog_1_method_10_code 113 = .ok (.invokevirtual 131, 3) := by decide +kernel
theorem d_S_confirm_116 : decode prog_1_method_10_code 116 = .ok (.ireturn, 1) := by decide +kernel
theorem d_T_hasReceived_0 : decode prog_12_method_5_code 0 = .ok (.aload_n 0, 1) := by decide +kernel
theorem d_T_hasReceived_1 : decode prog_12_method_5_code 1 = .ok (.getfield 32, 3) := by decide +kernel
theorem d_T_hasReceived_4 : decode prog_12_method_5_code 4 = .ok (.iload_n 2, 1) := by decide +kernel
theorem d_T_hasReceived_5 : decode prog_12_method_5_code 5 = .ok (.if_icmp .gt 24, 3) := by decide +kernel
theorem d_T_hasReceived_8 : decode prog_12_method_5_code 8 = .ok (.aload_n 0, 1) := by decide +kernel
theorem d_T_hasReceived_9 : decode prog_12_method_5_code 9 = .ok (.getfield 32, 3) := by decide +kernel
theorem d_T_hasReceived_12 : decode prog_12_method_5_code 12 = .ok (.iload_n 2, 1) := by decide +kernel
theorem d_T_hasReceived_13 : decode prog_12_method_5_code 13 = .ok (.if_icmp .ne 20, 3) := by decide +kernel
theorem d_T_hasReceived_16 : decode prog_12_method_5_code 16 = .ok (.aload_n 0, 1) := by decide +kernel
theorem d_T_hasReceived_17 : decode prog_12_method_5_code 17 = .ok (.getfield 11, 3) := by decide +kernel
theorem d_T_hasReceived_20 : decode prog_12_method_5_code 20 = .ok (.iload_n 1, 1) := by decide +kernel
theorem d_T_hasReceived_21 : decode prog_12_method_5_code 21 = .ok (.aaload, 1) := by decide +kernel
theorem d_T_hasReceived_22 : decode prog_12_method_5_code 22 = .ok (.getfield 35, 3) := by decide +kernel
theorem d_T_hasReceived_25 : decode prog_12_method_5_code 25 = .ok (.iconst 1, 1) := by decide +kernel
theorem d_T_hasReceived_26 : decode prog_12_method_5_code 26 = .ok (.if_icmp .ne 7, 3) := by decide +kernel
theorem d_T_hasReceived_29 : decode prog_12_method_5_code 29 = .ok (.iconst 1, 1) := by decide +kernel
theorem d_T_hasReceived_30 : decode prog_12_method_5_code 30 = .ok (.goto 4, 3) := by decide +kernel
theorem d_T_hasReceived_33 : decode prog_12_method_5_code 33 = .ok (.iconst 0, 1) := by decide +kernel
theorem d_T_hasReceived_34 : decode prog_12_method_5_code 34 = .ok (.ireturn, 1) := by decide +kernel
theorem d_D_init_0 : decode prog_5_method_1_code 0 = .ok (.aload_n 0, 1) := by decide +kernel
theorem d_D_init_1 : decode prog_5_method_1_code 1 = .ok (.iload_n 1, 1) := by decide +kernel
theorem d_D_init_2 : decode prog_5_method_1_code 2 = .ok (.invokespecial 3, 3) := by decide +kernel
theorem d_D_init_5 : decode prog_5_method_1_code 5 = .ok (.aload_n 0, 1) := by decide +kernel
theorem d_D_init_6 : decode prog_5_method_1_code 6 = .ok (.iload_n 2, 1) := by decide +kernel
theorem d_D_init_7 : decode prog_5_method_1_code 7 = .ok (.putfield 9, 3) := by decide +kernel
theorem d_D_init_10 : decode prog_5_method_1_code 10 = .ok (.aload_n 0, 1) := by decide +kernel
theorem d_D_init_11 : decode prog_5_method_1_code 11 = .ok (.iload_n 3, 1) := by decide +kernel
theorem d_D_init_12 : decode prog_5_method_1_code 12 = .ok (.putfield 15, 3) := by decide +kernel
theorem d_D_init_15 : decode prog_5_method_1_code 15 = .ok (.return_, 1) := by decide +kernel
theorem d_S_length_0 : decode prog_1_method_11_code 0 = .ok (.aload_n 0, 1) := by decide +kernel
theorem d_S_length_1 : decode prog_1_method_11_code 1 = .ok (.iload_n 1, 1) := by decide +kernel
theorem d_S_length_2 : decode prog_1_method_11_code 2 = .ok (.invokevirtual 51, 3) := by decide +kernel
theorem d_S_length_5 : decode prog_1_method_11_code 5 = .ok (.astore_n 2, 1) := by decide +kernel
theorem d_S_length_6 : decode prog_1_method_11_code 6 = .ok (.aload_n 2, 1) := by decide +kernel
theorem d_S_length_7 : decode prog_1_method_11_code 7 = .ok (.ifnonnull 7, 3) := by decide +kernel
theorem d_S_length_10 : decode prog_1_method_11_code 10 = .ok (.iconst (-1), 1) := by decide +kernel
theorem d_S_length_11 : decode prog_1_method_11_code 11 = .ok (.goto 7, 3) := by decide +kernel
theorem d_S_length_14 : decode prog_1_method_11_code 14 = .ok (.aload_n 2, 1) := by decide +kernel
theorem d_S_length_15 : decode prog_1_method_11_code 15 = .ok (.getfield 94, 3) := by decide +kernel
theorem d_S_length_18 : decode prog_1_method_11_code 18 = .ok (.ireturn, 1) := by decide +kernel
theorem d_S_known_0 : decode prog_1_method_12_code 0 = .ok (.aload_n 0, 1) := by decide +kernel
theorem d_S_known_1 : decode prog_1_method_12_code 1 = .ok (.iload_n 1, 1) := by decide +kernel
theorem d_S_known_2 : decode prog_1_method_12_code 2 = .ok (.invokevirtual 51, 3) := by decide +kernel
theorem d_S_known_5 : decode prog_1_method_12_code 5 = .ok (.astore_n 2, 1) := by decide +kernel
theorem d_S_known_6 : decode prog_1_method_12_code 6 = .ok (.aload_n 2, 1) := by decide +kernel
theorem d_S_known_7 : decode prog_1_method_12_code 7 = .ok (.ifnonnull 7, 3) := by decide +kernel
theorem d_S_known_10 : decode prog_1_method_12_code 10 = .ok (.iconst (-1), 1) := by decide +kernel
theorem d_S_known_11 : decode prog_1_method_12_code 11 = .ok (.goto 7, 3) := by decide +kernel
theorem d_S_known_14 : decode prog_1_method_12_code 14 = .ok (.aload_n 2, 1) := by decide +kernel
theorem d_S_known_15 : decode prog_1_method_12_code 15 = .ok (.getfield 91, 3) := by decide +kernel
theorem d_S_known_18 : decode prog_1_method_12_code 18 = .ok (.ireturn, 1) := by decide +kernel
theorem d_S_term_0 : decode prog_1_method_13_code 0 = .ok (.aload_n 0, 1) := by decide +kernel
theorem d_S_term_1 : decode prog_1_method_13_code 1 = .ok (.iload_n 1, 1) := by decide +kernel
theorem d_S_term_2 : decode prog_1_method_13_code 2 = .ok (.invokevirtual 51, 3) := by decide +kernel
theorem d_S_term_5 : decode prog_1_method_13_code 5 = .ok (.astore_n 2, 1) := by decide +kernel
theorem d_S_term_6 : decode prog_1_method_13_code 6 = .ok (.aload_n 2, 1) := by decide +kernel
theorem d_S_term_7 : decode prog_1_method_13_code 7 = .ok (.ifnonnull 5, 3) := by decide +kernel
theorem d_S_term_10 : decode prog_1_method_13_code 10 = .ok (.iconst (-1), 1) := by decide +kernel
theorem d_S_term_11 : decode prog_1_method_13_code 11 = .ok (.ireturn, 1) := by decide +kernel
theorem d_S_term_12 : decode prog_1_method_13_code 12 = .ok (.aload_n 2, 1) := by decide +kernel
theorem d_S_term_13 : decode prog_1_method_13_code 13 = .ok (.getfield 48, 3) := by decide +kernel
theorem d_S_term_16 : decode prog_1_method_13_code 16 = .ok (.ifCond .eq 14, 3) := by decide +kernel
theorem d_S_term_19 : decode prog_1_method_13_code 19 = .ok (.aload_n 2, 1) := by decide +kernel
theorem d_S_term_20 : decode prog_1_method_13_code 20 = .ok (.getfield 54, 3) := by decide +kernel
theorem d_S_term_23 : decode prog_1_method_13_code 23 = .ok (.sipush 1000, 3) := by decide +kernel
theorem d_S_term_26 : decode prog_1_method_13_code 26 = .ok (.iadd, 1) := by decide +kernel
theorem d_S_term_27 : decode prog_1_method_13_code 27 = .ok (.goto 7, 3) := by decide +kernel
theorem d_S_term_30 : decode prog_1_method_13_code 30 = .ok (.aload_n 2, 1) := by decide +kernel
theorem d_S_term_31 : decode prog_1_method_13_code 31 = .ok (.getfield 54, 3) := by decide +kernel
theorem d_S_term_34 : decode prog_1_method_13_code 34 = .ok (.ireturn, 1) := by decide +kernel
theorem d_S_configuration_0 : decode prog_1_method_14_code 0 = .ok (.aload_n 0, 1) := by decide +kernel
theorem d_S_configuration_1 : decode prog_1_method_14_code 1 = .ok (.iload_n 1, 1) := by decide +kernel
theorem d_S_configuration_2 : decode prog_1_method_14_code 2 = .ok (.invokevirtual 51, 3) := by decide +kernel
theorem d_S_configuration_5 : decode prog_1_method_14_code 5 = .ok (.astore_n 2, 1) := by decide +kernel
theorem d_S_configuration_6 : decode prog_1_method_14_code 6 = .ok (.aload_n 2, 1) := by decide +kernel
theorem d_S_configuration_7 : decode prog_1_method_14_code 7 = .ok (.ifnonnull 7, 3) := by decide +kernel
theorem d_S_configuration_10 : decode prog_1_method_14_code 10 = .ok (.iconst (-1), 1) := by decide +kernel
theorem d_S_configuration_11 : decode prog_1_method_14_code 11 = .ok (.goto 7, 3) := by decide +kernel
theorem d_S_configuration_14 : decode prog_1_method_14_code 14 = .ok (.aload_n 2, 1) := by decide +kernel
theorem d_S_configuration_15 : decode prog_1_method_14_code 15 = .ok (.invokevirtual 188, 3) := by decide +kernel
theorem d_S_configuration_18 : decode prog_1_method_14_code 18 = .ok (.ireturn, 1) := by decide +kernel
theorem d_V_lastNumber_0 : decode prog_10_method_3_code 0 = .ok (.aload_n 0, 1) := by decide +kernel
theorem d_V_lastNumber_1 : decode prog_10_method_3_code 1 = .ok (.getfield 23, 3) := by decide +kernel
theorem d_V_lastNumber_4 : decode prog_10_method_3_code 4 = .ok (.ireturn, 1) := by decide +kernel
theorem d_T_lastNumber_0 : decode prog_12_method_3_code 0 = .ok (.aload_n 0, 1) := by decide +kernel
theorem d_T_lastNumber_1 : decode prog_12_method_3_code 1 = .ok (.getfield 32, 3) := by decide +kernel
theorem d_T_lastNumber_4 : decode prog_12_method_3_code 4 = .ok (.ireturn, 1) := by decide +kernel
theorem d_S_owner_0 : decode prog_1_method_15_code 0 = .ok (.aload_n 0, 1) := by decide +kernel
theorem d_S_owner_1 : decode prog_1_method_15_code 1 = .ok (.iload_n 1, 1) := by decide +kernel
theorem d_S_owner_2 : decode prog_1_method_15_code 2 = .ok (.invokevirtual 192, 3) := by decide +kernel
theorem d_S_owner_5 : decode prog_1_method_15_code 5 = .ok (.astore 4, 2) := by decide +kernel
theorem d_S_owner_7 : decode prog_1_method_15_code 7 = .ok (.aload 4, 2) := by decide +kernel
theorem d_S_owner_9 : decode prog_1_method_15_code 9 = .ok (.ifnull 23, 3) := by decide +kernel
theorem d_S_owner_12 : decode prog_1_method_15_code 12 = .ok (.iload_n 2, 1) := by decide +kernel
theorem d_S_owner_13 : decode prog_1_method_15_code 13 = .ok (.ifCond .lt 19, 3) := by decide +kernel
theorem d_S_owner_16 : decode prog_1_method_15_code 16 = .ok (.iload_n 2, 1) := by decide +kernel
theorem d_S_owner_17 : decode prog_1_method_15_code 17 = .ok (.aload 4, 2) := by decide +kernel
theorem d_S_owner_19 : decode prog_1_method_15_code 19 = .ok (.getfield 139, 3) := by decide +kernel
theorem d_S_owner_22 : decode prog_1_method_15_code 22 = .ok (.if_icmp .gt 10, 3) := by decide +kernel
theorem d_S_owner_25 : decode prog_1_method_15_code 25 = .ok (.iload_n 3, 1) := by decide +kernel
theorem d_S_owner_26 : decode prog_1_method_15_code 26 = .ok (.invokestatic 151, 3) := by decide +kernel
theorem d_S_owner_29 : decode prog_1_method_15_code 29 = .ok (.ifCond .ne 5, 3) := by decide +kernel
theorem d_S_owner_32 : decode prog_1_method_15_code 32 = .ok (.iconst (-1), 1) := by decide +kernel
theorem d_S_owner_33 : decode prog_1_method_15_code 33 = .ok (.ireturn, 1) := by decide +kernel
theorem d_S_owner_34 : decode prog_1_method_15_code 34 = .ok (.aload 4, 2) := by decide +kernel
theorem d_S_owner_36 : decode prog_1_method_15_code 36 = .ok (.getfield 144, 3) := by decide +kernel
theorem d_S_owner_39 : decode prog_1_method_15_code 39 = .ok (.iload_n 2, 1) := by decide +kernel
theorem d_S_owner_40 : decode prog_1_method_15_code 40 = .ok (.aaload, 1) := by decide +kernel
theorem d_S_owner_41 : decode prog_1_method_15_code 41 = .ok (.getfield 172, 3) := by decide +kernel
theorem d_S_owner_44 : decode prog_1_method_15_code 44 = .ok (.iload_n 3, 1) := by decide +kernel
theorem d_S_owner_45 : decode prog_1_method_15_code 45 = .ok (.iaload, 1) := by decide +kernel
theorem d_S_owner_46 : decode prog_1_method_15_code 46 = .ok (.ireturn, 1) := by decide +kernel
theorem d_S_condition_0 : decode prog_1_method_16_code 0 = .ok (.aload_n 0, 1) := by decide +kernel
theorem d_S_condition_1 : decode prog_1_method_16_code 1 = .ok (.iload_n 1, 1) := by decide +kernel
theorem d_S_condition_2 : decode prog_1_method_16_code 2 = .ok (.invokevirtual 195, 3) := by decide +kernel
theorem d_S_condition_5 : decode prog_1_method_16_code 5 = .ok (.astore_n 3, 1) := by decide +kernel
theorem d_S_condition_6 : decode prog_1_method_16_code 6 = .ok (.aload_n 3, 1) := by decide +kernel
theorem d_S_condition_7 : decode prog_1_method_16_code 7 = .ok (.ifnull 10, 3) := by decide +kernel
theorem d_S_condition_10 : decode prog_1_method_16_code 10 = .ok (.iload_n 2, 1) := by decide +kernel
theorem d_S_condition_11 : decode prog_1_method_16_code 11 = .ok (.invokestatic 151, 3) := by decide +kernel
theorem d_S_condition_14 : decode prog_1_method_16_code 14 = .ok (.ifCond .ne 5, 3) := by decide +kernel
theorem d_S_condition_17 : decode prog_1_method_16_code 17 = .ok (.iconst (-1), 1) := by decide +kernel
theorem d_S_condition_18 : decode prog_1_method_16_code 18 = .ok (.ireturn, 1) := by decide +kernel
theorem d_S_condition_19 : decode prog_1_method_16_code 19 = .ok (.aload_n 3, 1) := by decide +kernel
theorem d_S_condition_20 : decode prog_1_method_16_code 20 = .ok (.getfield 154, 3) := by decide +kernel
theorem d_S_condition_23 : decode prog_1_method_16_code 23 = .ok (.iload_n 2, 1) := by decide +kernel
theorem d_S_condition_24 : decode prog_1_method_16_code 24 = .ok (.aaload, 1) := by decide +kernel
theorem d_S_condition_25 : decode prog_1_method_16_code 25 = .ok (.getfield 158, 3) := by decide +kernel
theorem d_S_condition_28 : decode prog_1_method_16_code 28 = .ok (.ireturn, 1) := by decide +kernel
theorem d_S_value_0 : decode prog_1_method_17_code 0 = .ok (.aload_n 0, 1) := by decide +kernel
theorem d_S_value_1 : decode prog_1_method_17_code 1 = .ok (.iload_n 1, 1) := by decide +kernel
theorem d_S_value_2 : decode prog_1_method_17_code 2 = .ok (.iload_n 2, 1) := by decide +kernel
theorem d_S_value_3 : decode prog_1_method_17_code 3 = .ok (.invokevirtual 198, 3) := by decide +kernel
theorem d_S_value_6 : decode prog_1_method_17_code 6 = .ok (.astore_n 3, 1) := by decide +kernel
theorem d_S_value_7 : decode prog_1_method_17_code 7 = .ok (.aload_n 3, 1) := by decide +kernel
theorem d_S_value_8 : decode prog_1_method_17_code 8 = .ok (.ifnonnull 7, 3) := by decide +kernel
theorem d_S_value_11 : decode prog_1_method_17_code 11 = .ok (.iconst (-1), 1) := by decide +kernel
theorem d_S_value_12 : decode prog_1_method_17_code 12 = .ok (.goto 12, 3) := by decide +kernel
theorem d_S_value_15 : decode prog_1_method_17_code 15 = .ok (.aload_n 3, 1) := by decide +kernel
theorem d_S_value_16 : decode prog_1_method_17_code 16 = .ok (.getfield 202, 3) := by decide +kernel
theorem d_S_value_19 : decode prog_1_method_17_code 19 = .ok (.iload_n 2, 1) := by decide +kernel
theorem d_S_value_20 : decode prog_1_method_17_code 20 = .ok (.invokestatic 205, 3) := by decide +kernel
theorem d_S_value_23 : decode prog_1_method_17_code 23 = .ok (.iaload, 1) := by decide +kernel
theorem d_S_value_24 : decode prog_1_method_17_code 24 = .ok (.ireturn, 1) := by decide +kernel
theorem d_S_heldShard_0 : decode prog_1_method_34_code 0 = .ok (.aload_n 0, 1) := by decide +kernel
theorem d_S_heldShard_1 : decode prog_1_method_34_code 1 = .ok (.iload_n 1, 1) := by decide +kernel
theorem d_S_heldShard_2 : decode prog_1_method_34_code 2 = .ok (.invokevirtual 195, 3) := by decide +kernel
theorem d_S_heldShard_5 : decode prog_1_method_34_code 5 = .ok (.astore_n 3, 1) := by decide +kernel
theorem d_S_heldShard_6 : decode prog_1_method_34_code 6 = .ok (.aload_n 3, 1) := by decide +kernel
theorem d_S_heldShard_7 : decode prog_1_method_34_code 7 = .ok (.ifnull 10, 3) := by decide +kernel
theorem d_S_heldShard_10 : decode prog_1_method_34_code 10 = .ok (.iload_n 2, 1) := by decide +kernel
theorem d_S_heldShard_11 : decode prog_1_method_34_code 11 = .ok (.invokestatic 121, 3) := by decide +kernel
theorem d_S_heldShard_14 : decode prog_1_method_34_code 14 = .ok (.ifCond .ne 5, 3) := by decide +kernel
theorem d_S_heldShard_17 : decode prog_1_method_34_code 17 = .ok (.aconst_null, 1) := by decide +kernel
theorem d_S_heldShard_18 : decode prog_1_method_34_code 18 = .ok (.areturn, 1) := by decide +kernel
theorem d_S_heldShard_19 : decode prog_1_method_34_code 19 = .ok (.aload_n 3, 1) := by decide +kernel
theorem d_S_heldShard_20 : decode prog_1_method_34_code 20 = .ok (.getfield 154, 3) := by decide +kernel
theorem d_S_heldShard_23 : decode prog_1_method_34_code 23 = .ok (.iload_n 2, 1) := by decide +kernel
theorem d_S_heldShard_24 : decode prog_1_method_34_code 24 = .ok (.invokestatic 219, 3) := by decide +kernel
theorem d_S_heldShard_27 : decode prog_1_method_34_code 27 = .ok (.aaload, 1) := by decide +kernel
theorem d_S_heldShard_28 : decode prog_1_method_34_code 28 = .ok (.astore 4, 2) := by decide +kernel
theorem d_S_heldShard_30 : decode prog_1_method_34_code 30 = .ok (.aload 4, 2) := by decide +kernel
theorem d_S_heldShard_32 : decode prog_1_method_34_code 32 = .ok (.invokevirtual 222, 3) := by decide +kernel
theorem d_S_heldShard_35 : decode prog_1_method_34_code 35 = .ok (.ifCond .eq 8, 3) := by decide +kernel
theorem d_S_heldShard_38 : decode prog_1_method_34_code 38 = .ok (.aload 4, 2) := by decide +kernel
theorem d_S_heldShard_40 : decode prog_1_method_34_code 40 = .ok (.goto 4, 3) := by decide +kernel
theorem d_S_heldShard_43 : decode prog_1_method_34_code 43 = .ok (.aconst_null, 1) := by decide +kernel
theorem d_S_heldShard_44 : decode prog_1_method_34_code 44 = .ok (.areturn, 1) := by decide +kernel
