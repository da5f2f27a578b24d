theorem d_M_term_0 : decode prog_14_method_32_code 0 = .ok (.iload_n 1, 1) := by decide +kernel
theorem d_M_term_1 : decode prog_14_method_32_code 1 = .ok (.bipush 12, 2) := by decide +kernel
theorem d_M_term_3 : decode prog_14_method_32_code 3 = .ok (.invokestatic 47, 3) := by decide +kernel
theorem d_M_term_6 : decode prog_14_method_32_code 6 = .ok (.ifCond .eq 29, 3) := by decide +kernel
theorem d_M_term_9 : decode prog_14_method_32_code 9 = .ok (.aload_n 0, 1) := by decide +kernel
theorem d_M_term_10 : decode prog_14_method_32_code 10 = .ok (.getfield 16, 3) := by decide +kernel
theorem d_M_term_13 : decode prog_14_method_32_code 13 = .ok (.iload_n 1, 1) := by decide +kernel
theorem d_M_term_14 : decode prog_14_method_32_code 14 = .ok (.iaload, 1) := by decide +kernel
theorem d_M_term_15 : decode prog_14_method_32_code 15 = .ok (.aload_n 0, 1) := by decide +kernel
theorem d_M_term_16 : decode prog_14_method_32_code 16 = .ok (.getfield 13, 3) := by decide +kernel
theorem d_M_term_19 : decode prog_14_method_32_code 19 = .ok (.iload_n 1, 1) := by decide +kernel
theorem d_M_term_20 : decode prog_14_method_32_code 20 = .ok (.baload, 1) := by decide +kernel
theorem d_M_term_21 : decode prog_14_method_32_code 21 = .ok (.ifCond .eq 9, 3) := by decide +kernel
theorem d_M_term_24 : decode prog_14_method_32_code 24 = .ok (.sipush 1000, 3) := by decide +kernel
theorem d_M_term_27 : decode prog_14_method_32_code 27 = .ok (.goto 4, 3) := by decide +kernel
theorem d_M_term_30 : decode prog_14_method_32_code 30 = .ok (.iconst 0, 1) := by decide +kernel
theorem d_M_term_31 : decode prog_14_method_32_code 31 = .ok (.iadd, 1) := by decide +kernel
theorem d_M_term_32 : decode prog_14_method_32_code 32 = .ok (.goto 4, 3) := by decide +kernel
theorem d_M_term_35 : decode prog_14_method_32_code 35 = .ok (.iconst (-1), 1) := by decide +kernel
theorem d_M_term_36 : decode prog_14_method_32_code 36 = .ok (.ireturn, 1) := by decide +kernel
theorem d_M_configuration_0 : decode prog_14_method_33_code 0 = .ok (.iload_n 1, 1) := by decide +kernel
theorem d_M_configuration_1 : decode prog_14_method_33_code 1 = .ok (.bipush 12, 2) := by decide +kernel
theorem d_M_configuration_3 : decode prog_14_method_33_code 3 = .ok (.invokestatic 47, 3) := by decide +kernel
theorem d_M_configuration_6 : decode prog_14_method_33_code 6 = .ok (.ifCond .ne 5, 3) := by decide +kernel
theorem d_M_configuration_9 : decode prog_14_method_33_code 9 = .ok (.iconst (-1), 1) := by decide +kernel
theorem d_M_configuration_10 : decode prog_14_method_33_code 10 = .ok (.ireturn, 1) := by decide +kernel
theorem d_M_configuration_11 : decode prog_14_method_33_code 11 = .ok (.iload_n 1, 1) := by decide +kernel
theorem d_M_configuration_12 : decode prog_14_method_33_code 12 = .ok (.iconst 3, 1) := by decide +kernel
theorem d_M_configuration_13 : decode prog_14_method_33_code 13 = .ok (.if_icmp .ge 11, 3) := by decide +kernel
theorem d_M_configuration_16 : decode prog_14_method_33_code 16 = .ok (.aload_n 0, 1) := by decide +kernel
theorem d_M_configuration_17 : decode prog_14_method_33_code 17 = .ok (.iload_n 1, 1) := by decide +kernel
theorem d_M_configuration_18 : decode prog_14_method_33_code 18 = .ok (.invokevirtual 118, 3) := by decide +kernel
theorem d_M_configuration_21 : decode prog_14_method_33_code 21 = .ok (.goto 8, 3) := by decide +kernel
theorem d_M_configuration_24 : decode prog_14_method_33_code 24 = .ok (.aload_n 0, 1) := by decide +kernel
theorem d_M_configuration_25 : decode prog_14_method_33_code 25 = .ok (.iload_n 1, 1) := by decide +kernel
theorem d_M_configuration_26 : decode prog_14_method_33_code 26 = .ok (.invokevirtual 115, 3) := by decide +kernel
theorem d_M_configuration_29 : decode prog_14_method_33_code 29 = .ok (.iload_n 1, 1) := by decide +kernel
theorem d_M_configuration_30 : decode prog_14_method_33_code 30 = .ok (.iconst 3, 1) := by decide +kernel
theorem d_M_configuration_31 : decode prog_14_method_33_code 31 = .ok (.if_icmp .ge 12, 3) := by decide +kernel
theorem d_M_configuration_34 : decode prog_14_method_33_code 34 = .ok (.aload_n 0, 1) := by decide +kernel
theorem d_M_configuration_35 : decode prog_14_method_33_code 35 = .ok (.getfield 83, 3) := by decide +kernel
theorem d_M_configuration_38 : decode prog_14_method_33_code 38 = .ok (.iconst 1, 1) := by decide +kernel
theorem d_M_configuration_39 : decode prog_14_method_33_code 39 = .ok (.isub, 1) := by decide +kernel
theorem d_M_configuration_40 : decode prog_14_method_33_code 40 = .ok (.goto 7, 3) := by decide +kernel
theorem d_M_configuration_43 : decode prog_14_method_33_code 43 = .ok (.aload_n 0, 1) := by decide +kernel
theorem d_M_configuration_44 : decode prog_14_method_33_code 44 = .ok (.getfield 99, 3) := by decide +kernel
theorem d_M_configuration_47 : decode prog_14_method_33_code 47 = .ok (.ireturn, 1) := by decide +kernel
theorem d_M_owner_0 : decode prog_14_method_34_code 0 = .ok (.iload_n 1, 1) := by decide +kernel
theorem d_M_owner_1 : decode prog_14_method_34_code 1 = .ok (.iconst 3, 1) := by decide +kernel
theorem d_M_owner_2 : decode prog_14_method_34_code 2 = .ok (.invokestatic 47, 3) := by decide +kernel
theorem d_M_owner_5 : decode prog_14_method_34_code 5 = .ok (.ifCond .eq 12, 3) := by decide +kernel
theorem d_M_owner_8 : decode prog_14_method_34_code 8 = .ok (.iload_n 3, 1) := by decide +kernel
theorem d_M_owner_9 : decode prog_14_method_34_code 9 = .ok (.bipush 8, 2) := by decide +kernel
theorem d_M_owner_11 : decode prog_14_method_34_code 11 = .ok (.invokestatic 47, 3) := by decide +kernel
theorem d_M_owner_14 : decode prog_14_method_34_code 14 = .ok (.ifCond .ne 5, 3) := by decide +kernel
theorem d_M_owner_17 : decode prog_14_method_34_code 17 = .ok (.iconst (-1), 1) := by decide +kernel
theorem d_M_owner_18 : decode prog_14_method_34_code 18 = .ok (.ireturn, 1) := by decide +kernel
theorem d_M_owner_19 : decode prog_14_method_34_code 19 = .ok (.aload_n 0, 1) := by decide +kernel
theorem d_M_owner_20 : decode prog_14_method_34_code 20 = .ok (.iload_n 1, 1) := by decide +kernel
theorem d_M_owner_21 : decode prog_14_method_34_code 21 = .ok (.invokevirtual 118, 3) := by decide +kernel
theorem d_M_owner_24 : decode prog_14_method_34_code 24 = .ok (.iload_n 2, 1) := by decide +kernel
theorem d_M_owner_25 : decode prog_14_method_34_code 25 = .ok (.aload_n 0, 1) := by decide +kernel
theorem d_M_owner_26 : decode prog_14_method_34_code 26 = .ok (.getfield 83, 3) := by decide +kernel
theorem d_M_owner_29 : decode prog_14_method_34_code 29 = .ok (.invokestatic 47, 3) := by decide +kernel
theorem d_M_owner_32 : decode prog_14_method_34_code 32 = .ok (.ifCond .eq 17, 3) := by decide +kernel
theorem d_M_owner_35 : decode prog_14_method_34_code 35 = .ok (.aload_n 0, 1) := by decide +kernel
theorem d_M_owner_36 : decode prog_14_method_34_code 36 = .ok (.getfield 35, 3) := by decide +kernel
theorem d_M_owner_39 : decode prog_14_method_34_code 39 = .ok (.bipush 8, 2) := by decide +kernel
theorem d_M_owner_41 : decode prog_14_method_34_code 41 = .ok (.iload_n 2, 1) := by decide +kernel
theorem d_M_owner_42 : decode prog_14_method_34_code 42 = .ok (.imul, 1) := by decide +kernel
theorem d_M_owner_43 : decode prog_14_method_34_code 43 = .ok (.iload_n 3, 1) := by decide +kernel
theorem d_M_owner_44 : decode prog_14_method_34_code 44 = .ok (.iadd, 1) := by decide +kernel
theorem d_M_owner_45 : decode prog_14_method_34_code 45 = .ok (.iaload, 1) := by decide +kernel
theorem d_M_owner_46 : decode prog_14_method_34_code 46 = .ok (.goto 4, 3) := by decide +kernel
theorem d_M_owner_49 : decode prog_14_method_34_code 49 = .ok (.iconst (-1), 1) := by decide +kernel
theorem d_M_owner_50 : decode prog_14_method_34_code 50 = .ok (.ireturn, 1) := by decide +kernel
theorem d_M_condition_0 : decode prog_14_method_35_code 0 = .ok (.iload_n 1, 1) := by decide +kernel
theorem d_M_condition_1 : decode prog_14_method_35_code 1 = .ok (.iconst 3, 1) := by decide +kernel
theorem d_M_condition_2 : decode prog_14_method_35_code 2 = .ok (.if_icmp .lt 18, 3) := by decide +kernel
theorem d_M_condition_5 : decode prog_14_method_35_code 5 = .ok (.iload_n 1, 1) := by decide +kernel
theorem d_M_condition_6 : decode prog_14_method_35_code 6 = .ok (.bipush 11, 2) := by decide +kernel
theorem d_M_condition_8 : decode prog_14_method_35_code 8 = .ok (.if_icmp .gt 12, 3) := by decide +kernel
theorem d_M_condition_11 : decode prog_14_method_35_code 11 = .ok (.iload_n 2, 1) := by decide +kernel
theorem d_M_condition_12 : decode prog_14_method_35_code 12 = .ok (.bipush 8, 2) := by decide +kernel
theorem d_M_condition_14 : decode prog_14_method_35_code 14 = .ok (.invokestatic 47, 3) := by decide +kernel
theorem d_M_condition_17 : decode prog_14_method_35_code 17 = .ok (.ifCond .ne 5, 3) := by decide +kernel
theorem d_M_condition_20 : decode prog_14_method_35_code 20 = .ok (.iconst (-1), 1) := by decide +kernel
theorem d_M_condition_21 : decode prog_14_method_35_code 21 = .ok (.ireturn, 1) := by decide +kernel
theorem d_M_condition_22 : decode prog_14_method_35_code 22 = .ok (.aload_n 0, 1) := by decide +kernel
theorem d_M_condition_23 : decode prog_14_method_35_code 23 = .ok (.iload_n 1, 1) := by decide +kernel
theorem d_M_condition_24 : decode prog_14_method_35_code 24 = .ok (.invokevirtual 115, 3) := by decide +kernel
theorem d_M_condition_27 : decode prog_14_method_35_code 27 = .ok (.aload_n 0, 1) := by decide +kernel
theorem d_M_condition_28 : decode prog_14_method_35_code 28 = .ok (.getfield 41, 3) := by decide +kernel
theorem d_M_condition_31 : decode prog_14_method_35_code 31 = .ok (.iload_n 2, 1) := by decide +kernel
theorem d_M_condition_32 : decode prog_14_method_35_code 32 = .ok (.iaload, 1) := by decide +kernel
theorem d_M_condition_33 : decode prog_14_method_35_code 33 = .ok (.ireturn, 1) := by decide +kernel
theorem d_M_value_0 : decode prog_14_method_37_code 0 = .ok (.aload_n 0, 1) := by decide +kernel
theorem d_M_value_1 : decode prog_14_method_37_code 1 = .ok (.iload_n 1, 1) := by decide +kernel
theorem d_M_value_2 : decode prog_14_method_37_code 2 = .ok (.iload_n 2, 1) := by decide +kernel
theorem d_M_value_3 : decode prog_14_method_37_code 3 = .ok (.invokevirtual 121, 3) := by decide +kernel
theorem d_M_value_6 : decode prog_14_method_37_code 6 = .ok (.ifCond .eq 23, 3) := by decide +kernel
theorem d_M_value_9 : decode prog_14_method_37_code 9 = .ok (.aload_n 0, 1) := by decide +kernel
theorem d_M_value_10 : decode prog_14_method_37_code 10 = .ok (.getfield 44, 3) := by decide +kernel
theorem d_M_value_13 : decode prog_14_method_37_code 13 = .ok (.iload_n 2, 1) := by decide +kernel
theorem d_M_value_14 : decode prog_14_method_37_code 14 = .ok (.bipush 8, 2) := by decide +kernel
theorem d_M_value_16 : decode prog_14_method_37_code 16 = .ok (.irem, 1) := by decide +kernel
theorem d_M_value_17 : decode prog_14_method_37_code 17 = .ok (.bipush 8, 2) := by decide +kernel
theorem d_M_value_19 : decode prog_14_method_37_code 19 = .ok (.imul, 1) := by decide +kernel
theorem d_M_value_20 : decode prog_14_method_37_code 20 = .ok (.iload_n 2, 1) := by decide +kernel
theorem d_M_value_21 : decode prog_14_method_37_code 21 = .ok (.bipush 8, 2) := by decide +kernel
theorem d_M_value_23 : decode prog_14_method_37_code 23 = .ok (.idiv, 1) := by decide +kernel
theorem d_M_value_24 : decode prog_14_method_37_code 24 = .ok (.iadd, 1) := by decide +kernel
theorem d_M_value_25 : decode prog_14_method_37_code 25 = .ok (.iaload, 1) := by decide +kernel
theorem d_M_value_26 : decode prog_14_method_37_code 26 = .ok (.goto 4, 3) := by decide +kernel
theorem d_M_value_29 : decode prog_14_method_37_code 29 = .ok (.iconst (-1), 1) := by decide +kernel
theorem d_M_value_30 : decode prog_14_method_37_code 30 = .ok (.ireturn, 1) := by decide +kernel
theorem d_M_has_0 : decode prog_14_method_36_code 0 = .ok (.iload_n 1, 1) := by decide +kernel
theorem d_M_has_1 : decode prog_14_method_36_code 1 = .ok (.iconst 3, 1) := by decide +kernel
theorem d_M_has_2 : decode prog_14_method_36_code 2 = .ok (.if_icmp .lt 18, 3) := by decide +kernel
theorem d_M_has_5 : decode prog_14_method_36_code 5 = .ok (.iload_n 1, 1) := by decide +kernel
theorem d_M_has_6 : decode prog_14_method_36_code 6 = .ok (.bipush 11, 2) := by decide +kernel
theorem d_M_has_8 : decode prog_14_method_36_code 8 = .ok (.if_icmp .gt 12, 3) := by decide +kernel
theorem d_M_has_11 : decode prog_14_method_36_code 11 = .ok (.iload_n 2, 1) := by decide +kernel
theorem d_M_has_12 : decode prog_14_method_36_code 12 = .ok (.bipush 16, 2) := by decide +kernel
theorem d_M_has_14 : decode prog_14_method_36_code 14 = .ok (.invokestatic 47, 3) := by decide +kernel
theorem d_M_has_17 : decode prog_14_method_36_code 17 = .ok (.ifCond .ne 5, 3) := by decide +kernel
theorem d_M_has_20 : decode prog_14_method_36_code 20 = .ok (.iconst 0, 1) := by decide +kernel
theorem d_M_has_21 : decode prog_14_method_36_code 21 = .ok (.ireturn, 1) := by decide +kernel
theorem d_M_has_22 : decode prog_14_method_36_code 22 = .ok (.aload_n 0, 1) := by decide +kernel
theorem d_M_has_23 : decode prog_14_method_36_code 23 = .ok (.iload_n 1, 1) := by decide +kernel
theorem d_M_has_24 : decode prog_14_method_36_code 24 = .ok (.invokevirtual 115, 3) := by decide +kernel
theorem d_M_has_27 : decode prog_14_method_36_code 27 = .ok (.aload_n 0, 1) := by decide +kernel
theorem d_M_has_28 : decode prog_14_method_36_code 28 = .ok (.getfield 41, 3) := by decide +kernel
theorem d_M_has_31 : decode prog_14_method_36_code 31 = .ok (.iload_n 2, 1) := by decide +kernel
theorem d_M_has_32 : decode prog_14_method_36_code 32 = .ok (.bipush 8, 2) := by decide +kernel
theorem d_M_has_34 : decode prog_14_method_36_code 34 = .ok (.irem, 1) := by decide +kernel
theorem d_M_has_35 : decode prog_14_method_36_code 35 = .ok (.iaload, 1) := by decide +kernel
theorem d_M_has_36 : decode prog_14_method_36_code 36 = .ok (.iconst 1, 1) := by decide +kernel
theorem d_M_has_37 : decode prog_14_method_36_code 37 = .ok (.if_icmp .eq 16, 3) := by decide +kernel
theorem d_M_has_40 : decode prog_14_method_36_code 40 = .ok (.aload_n 0, 1) := by decide +kernel
theorem d_M_has_41 : decode prog_14_method_36_code 41 = .ok (.getfield 41, 3) := by decide +kernel
theorem d_M_has_44 : decode prog_14_method_36_code 44 = .ok (.iload_n 2, 1) := by decide +kernel
theorem d_M_has_45 : decode prog_14_method_36_code 45 = .ok (.bipush 8, 2) := by decide +kernel
theorem d_M_has_47 : decode prog_14_method_36_code 47 = .ok (.irem, 1) := by decide +kernel
theorem d_M_has_48 : decode prog_14_method_36_code 48 = .ok (.iaload, 1) := by decide +kernel
theorem d_M_has_49 : decode prog_14_method_36_code 49 = .ok (.iconst 3, 1) := by decide +kernel
theorem d_M_has_50 : decode prog_14_method_36_code 50 = .ok (.if_icmp .ne 7, 3) := by decide +kernel
theorem d_M_has_53 : decode prog_14_method_36_code 53 = .ok (.iconst 1, 1) := by decide +kernel
theorem d_M_has_54 : decode prog_14_method_36_code 54 = .ok (.goto 4, 3) := by decide +kernel
theorem d_M_has_57 : decode prog_14_method_36_code 57 = .ok (.iconst 0, 1) := by decide +kernel
theorem d_M_has_58 : decode prog_14_method_36_code 58 = .ok (.ireturn, 1) := by decide +kernel
theorem d_M_latest_0 : decode prog_14_method_38_code 0 = .ok (.iload_n 2, 1) := by decide +kernel
theorem d_M_latest_1 : decode prog_14_method_38_code 1 = .ok (.iconst 3, 1) := by decide +kernel
theorem d_M_latest_2 : decode prog_14_method_38_code 2 = .ok (.invokestatic 47, 3) := by decide +kernel
theorem d_M_latest_5 : decode prog_14_method_38_code 5 = .ok (.ifCond .eq 31, 3) := by decide +kernel
theorem d_M_latest_8 : decode prog_14_method_38_code 8 = .ok (.aload_n 0, 1) := by decide +kernel
theorem d_M_latest_9 : decode prog_14_method_38_code 9 = .ok (.iload_n 1, 1) := by decide +kernel
theorem d_M_latest_10 : decode prog_14_method_38_code 10 = .ok (.iload_n 3, 1) := by decide +kernel
theorem d_M_latest_11 : decode prog_14_method_38_code 11 = .ok (.invokevirtual 121, 3) := by decide +kernel
theorem d_M_latest_14 : decode prog_14_method_38_code 14 = .ok (.ifCond .eq 22, 3) := by decide +kernel
theorem d_M_latest_17 : decode prog_14_method_38_code 17 = .ok (.aload_n 0, 1) := by decide +kernel
theorem d_M_latest_18 : decode prog_14_method_38_code 18 = .ok (.getfield 44, 3) := by decide +kernel
theorem d_M_latest_21 : decode prog_14_method_38_code 21 = .ok (.iload_n 3, 1) := by decide +kernel
theorem d_M_latest_22 : decode prog_14_method_38_code 22 = .ok (.bipush 8, 2) := by decide +kernel
theorem d_M_latest_24 : decode prog_14_method_38_code 24 = .ok (.irem, 1) := by decide +kernel
theorem d_M_latest_25 : decode prog_14_method_38_code 25 = .ok (.bipush 8, 2) := by decide +kernel
theorem d_M_latest_27 : decode prog_14_method_38_code 27 = .ok (.imul, 1) := by decide +kernel
theorem d_M_latest_28 : decode prog_14_method_38_code 28 = .ok (.iconst 2, 1) := by decide +kernel
theorem d_M_latest_29 : decode prog_14_method_38_code 29 = .ok (.iadd, 1) := by decide +kernel
theorem d_M_latest_30 : decode prog_14_method_38_code 30 = .ok (.iload_n 2, 1) := by decide +kernel
theorem d_M_latest_31 : decode prog_14_method_38_code 31 = .ok (.iadd, 1) := by decide +kernel
theorem d_M_latest_32 : decode prog_14_method_38_code 32 = .ok (.iaload, 1) := by decide +kernel
theorem d_M_latest_33 : decode prog_14_method_38_code 33 = .ok (.goto 4, 3) := by decide +kernel
theorem d_M_latest_36 : decode prog_14_method_38_code 36 = .ok (.iconst (-1), 1) := by decide +kernel
theorem d_M_latest_37 : decode prog_14_method_38_code 37 = .ok (.ireturn, 1) := by decide +kernel
theorem d_M_answer_0 : decode prog_14_method_39_code 0 = .ok (.iload_n 2, 1) := by decide +kernel
theorem d_M_answer_1 : decode prog_14_method_39_code 1 = .ok (.iconst 3, 1) := by decide +kernel
theorem d_M_answer_2 : decode prog_14_method_39_code 2 = .ok (.invokestatic 47, 3) := by decide +kernel
theorem d_M_answer_5 : decode prog_14_method_39_code 5 = .ok (.ifCond .eq 31, 3) := by decide +kernel
theorem d_M_answer_8 : decode prog_14_method_39_code 8 = .ok (.aload_n 0, 1) := by decide +kernel
theorem d_M_answer_9 : decode prog_14_method_39_code 9 = .ok (.iload_n 1, 1) := by decide +kernel
theorem d_M_answer_10 : decode prog_14_method_39_code 10 = .ok (.iload_n 3, 1) := by decide +kernel
theorem d_M_answer_11 : decode prog_14_method_39_code 11 = .ok (.invokevirtual 121, 3) := by decide +kernel
theorem d_M_answer_14 : decode prog_14_method_39_code 14 = .ok (.ifCond .eq 22, 3) := by decide +kernel
theorem d_M_answer_17 : decode prog_14_method_39_code 17 = .ok (.aload_n 0, 1) := by decide +kernel
theorem d_M_answer_18 : decode prog_14_method_39_code 18 = .ok (.getfield 44, 3) := by decide +kernel
theorem d_M_answer_21 : decode prog_14_method_39_code 21 = .ok (.iload_n 3, 1) := by decide +kernel
theorem d_M_answer_22 : decode prog_14_method_39_code 22 = .ok (.bipush 8, 2) := by decide +kernel
theorem d_M_answer_24 : decode prog_14_method_39_code 24 = .ok (.irem, 1) := by decide +kernel
theorem d_M_answer_25 : decode prog_14_method_39_code 25 = .ok (.bipush 8, 2) := by decide +kernel
theorem d_M_answer_27 : decode prog_14_method_39_code 27 = .ok (.imul, 1) := by decide +kernel
theorem d_M_answer_28 : decode prog_14_method_39_code 28 = .ok (.iconst 5, 1) := by decide +kernel
theorem d_M_answer_29 : decode prog_14_method_39_code 29 = .ok (.iadd, 1) := by decide +kernel
theorem d_M_answer_30 : decode prog_14_method_39_code 30 = .ok (.iload_n 2, 1) := by decide +kernel
theorem d_M_answer_31 : decode prog_14_method_39_code 31 = .ok (.iadd, 1) := by decide +kernel
theorem d_M_answer_32 : decode prog_14_method_39_code 32 = .ok (.iaload, 1) := by decide +kernel
theorem d_M_answer_33 : decode prog_14_method_39_code 33 = .ok (.goto 4, 3) := by decide +kernel
theorem d_M_answer_36 : decode prog_14_method_39_code 36 = .ok (.iconst (-1), 1) := by decide +kernel
theorem d_M_answer_37 : decode prog_14_method_39_code 37 = .ok (.ireturn, 1) := by decide +kernel
theorem d_L_law_0 : decode code 0 = .ok (.new 7, 3) := by decide +kernel
theorem d_L_law_3 : decode code 3 = .ok (.dup, 1) := by decide +kernel
theorem d_L_law_4 : decode code 4 = .ok (.invokespecial 9, 3) := by decide +kernel
theorem d_L_law_7 : decode code 7 = .ok (.astore_n 1, 1) := by decide +kernel
theorem d_L_law_8 : decode code 8 = .ok (.new 10, 3) := by decide +kernel
theorem d_L_law_11 : decode code 11 = .ok (.dup, 1) := by decide +kernel
theorem d_L_law_12 : decode code 12 = .ok (.invokespecial 12, 3) := by decide +kernel
theorem d_L_law_15 : decode code 15 = .ok (.astore_n 2, 1) := by decide +kernel
theorem d_L_law_16 : decode code 16 = .ok (.iconst 0, 1) := by decide +kernel
theorem d_L_law_17 : decode code 17 = .ok (.istore_n 3, 1) := by decide +kernel
theorem d_L_law_18 : decode code 18 = .ok (.iload_n 3, 1) := by decide +kernel
theorem d_L_law_19 : decode code 19 = .ok (.aload_n 0, 1) := by decide +kernel
theorem d_L_law_20 : decode code 20 = .ok (.arraylength, 1) := by decide +kernel
theorem d_L_law_21 : decode code 21 = .ok (.bipush 7, 2) := by decide +kernel
theorem d_L_law_23 : decode code 23 = .ok (.isub, 1) := by decide +kernel
theorem d_L_law_24 : decode code 24 = .ok (.if_icmp .gt 738, 3) := by decide +kernel
theorem d_L_law_27 : decode code 27 = .ok (.aload_n 0, 1) := by decide +kernel
theorem d_L_law_28 : decode code 28 = .ok (.iload_n 3, 1) := by decide +kernel
theorem d_L_law_29 : decode code 29 = .ok (.iaload, 1) := by decide +kernel
theorem d_L_law_30 : decode code 30 = .ok (.bipush 31, 2) := by decide +kernel
theorem d_L_law_32 : decode code 32 = .ok (.iand, 1) := by decide +kernel
theorem d_L_law_33 : decode code 33 = .ok (.tableswitch 723 0 17 #[87, 110, 133, 156, 189, 242, 317, 350, 393, 436, 459, 482, 505, 528, 571, 604, 637, 680], 87) := by decide +kernel
theorem d_L_law_120 : decode code 120 = .ok (.aload_n 1, 1) := by decide +kernel
theorem d_L_law_121 : decode code 121 = .ok (.aload_n 0, 1) := by decide +kernel
theorem d_L_law_122 : decode code 122 = .ok (.iload_n 3, 1) := by decide +kernel
theorem d_L_law_123 : decode code 123 = .ok (.iconst 1, 1) := by decide +kernel
theorem d_L_law_124 : decode code 124 = .ok (.iadd, 1) := by decide +kernel
theorem d_L_law_125 : decode code 125 = .ok (.iaload, 1) := by decide +kernel
theorem d_L_law_126 : decode code 126 = .ok (.invokevirtual 13, 3) := by decide +kernel
theorem d_L_law_129 : decode code 129 = .ok (.aload_n 2, 1) := by decide +kernel
theorem d_L_law_130 : decode code 130 = .ok (.aload_n 0, 1) := by decide +kernel
theorem d_L_law_131 : decode code 131 = .ok (.iload_n 3, 1) := by decide +kernel
theorem d_L_law_132 : decode code 132 = .ok (.iconst 1, 1) := by decide +kernel
theorem d_L_law_133 : decode code 133 = .ok (.iadd, 1) := by decide +kernel
theorem d_L_law_134 : decode code 134 = .ok (.iaload, 1) := by decide +kernel
theorem d_L_law_135 : decode code 135 = .ok (.invokevirtual 17, 3) := by decide +kernel
theorem d_L_law_138 : decode code 138 = .ok (.if_icmp .eq 618, 3) := by decide +kernel
theorem d_L_law_141 : decode code 141 = .ok (.iconst 0, 1) := by decide +kernel
theorem d_L_law_142 : decode code 142 = .ok (.ireturn, 1) := by decide +kernel
theorem d_L_law_143 : decode code 143 = .ok (.aload_n 1, 1) := by decide +kernel
theorem d_L_law_144 : decode code 144 = .ok (.aload_n 0, 1) := by decide +kernel
theorem d_L_law_145 : decode code 145 = .ok (.iload_n 3, 1) := by decide +kernel
theorem d_L_law_146 : decode code 146 = .ok (.iconst 1, 1) := by decide +kernel
theorem d_L_law_147 : decode code 147 = .ok (.iadd, 1) := by decide +kernel
theorem d_L_law_148 : decode code 148 = .ok (.iaload, 1) := by decide +kernel
theorem d_L_law_149 : decode code 149 = .ok (.invokevirtual 18, 3) := by decide +kernel
theorem d_L_law_152 : decode code 152 = .ok (.aload_n 2, 1) := by decide +kernel
theorem d_L_law_153 : decode code 153 = .ok (.aload_n 0, 1) := by decide +kernel
theorem d_L_law_154 : decode code 154 = .ok (.iload_n 3, 1) := by decide +kernel
theorem d_L_law_155 : decode code 155 = .ok (.iconst 1, 1) := by decide +kernel
theorem d_L_law_156 : decode code 156 = .ok (.iadd, 1) := by decide +kernel
