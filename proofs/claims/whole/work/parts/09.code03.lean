theorem d_C_countMembers_9 : decode prog_3_method_3_code 9 = .ok (.istore_n 3, 1) := by decide +kernel
theorem d_C_countMembers_10 : decode prog_3_method_3_code 10 = .ok (.iconst 0, 1) := by decide +kernel
theorem d_C_countMembers_11 : decode prog_3_method_3_code 11 = .ok (.istore 4, 2) := by decide +kernel
theorem d_C_countMembers_13 : decode prog_3_method_3_code 13 = .ok (.iload 4, 2) := by decide +kernel
theorem d_C_countMembers_15 : decode prog_3_method_3_code 15 = .ok (.iload_n 3, 1) := by decide +kernel
theorem d_C_countMembers_16 : decode prog_3_method_3_code 16 = .ok (.if_icmp .ge 23, 3) := by decide +kernel
theorem d_C_countMembers_19 : decode prog_3_method_3_code 19 = .ok (.aload_n 2, 1) := by decide +kernel
theorem d_C_countMembers_20 : decode prog_3_method_3_code 20 = .ok (.iload 4, 2) := by decide +kernel
theorem d_C_countMembers_22 : decode prog_3_method_3_code 22 = .ok (.baload, 1) := by decide +kernel
theorem d_C_countMembers_23 : decode prog_3_method_3_code 23 = .ok (.istore 5, 2) := by decide +kernel
theorem d_C_countMembers_25 : decode prog_3_method_3_code 25 = .ok (.iload 5, 2) := by decide +kernel
theorem d_C_countMembers_27 : decode prog_3_method_3_code 27 = .ok (.ifCond .eq 6, 3) := by decide +kernel
theorem d_C_countMembers_30 : decode prog_3_method_3_code 30 = .ok (.iinc 1 1, 3) := by decide +kernel
theorem d_C_countMembers_33 : decode prog_3_method_3_code 33 = .ok (.iinc 4 1, 3) := by decide +kernel
theorem d_C_countMembers_36 : decode prog_3_method_3_code 36 = .ok (.goto (-23), 3) := by decide +kernel
theorem d_C_countMembers_39 : decode prog_3_method_3_code 39 = .ok (.iload_n 1, 1) := by decide +kernel
theorem d_C_countMembers_40 : decode prog_3_method_3_code 40 = .ok (.ireturn, 1) := by decide +kernel
theorem d_C_init2_0 : decode prog_3_method_2_code 0 = .ok (.aload_n 0, 1) := by decide +kernel
theorem d_C_init2_1 : decode prog_3_method_2_code 1 = .ok (.invokespecial 3, 3) := by decide +kernel
theorem d_C_init2_4 : decode prog_3_method_2_code 4 = .ok (.aload_n 0, 1) := by decide +kernel
theorem d_C_init2_5 : decode prog_3_method_2_code 5 = .ok (.iconst 4, 1) := by decide +kernel
theorem d_C_init2_6 : decode prog_3_method_2_code 6 = .ok (.newarray .boolean, 2) := by decide +kernel
theorem d_C_init2_8 : decode prog_3_method_2_code 8 = .ok (.putfield 9, 3) := by decide +kernel
theorem d_C_init2_11 : decode prog_3_method_2_code 11 = .ok (.aload_n 0, 1) := by decide +kernel
theorem d_C_init2_12 : decode prog_3_method_2_code 12 = .ok (.bipush 8, 2) := by decide +kernel
theorem d_C_init2_14 : decode prog_3_method_2_code 14 = .ok (.newarray .int, 2) := by decide +kernel
theorem d_C_init2_16 : decode prog_3_method_2_code 16 = .ok (.putfield 15, 3) := by decide +kernel
theorem d_C_init2_19 : decode prog_3_method_2_code 19 = .ok (.aload_n 0, 1) := by decide +kernel
theorem d_C_init2_20 : decode prog_3_method_2_code 20 = .ok (.iconst 4, 1) := by decide +kernel
theorem d_C_init2_21 : decode prog_3_method_2_code 21 = .ok (.newarray .int, 2) := by decide +kernel
theorem d_C_init2_23 : decode prog_3_method_2_code 23 = .ok (.putfield 19, 3) := by decide +kernel
theorem d_C_init2_26 : decode prog_3_method_2_code 26 = .ok (.aload_n 1, 1) := by decide +kernel
theorem d_C_init2_27 : decode prog_3_method_2_code 27 = .ok (.getfield 9, 3) := by decide +kernel
theorem d_C_init2_30 : decode prog_3_method_2_code 30 = .ok (.iconst 0, 1) := by decide +kernel
theorem d_C_init2_31 : decode prog_3_method_2_code 31 = .ok (.aload_n 0, 1) := by decide +kernel
theorem d_C_init2_32 : decode prog_3_method_2_code 32 = .ok (.getfield 9, 3) := by decide +kernel
theorem d_C_init2_35 : decode prog_3_method_2_code 35 = .ok (.iconst 0, 1) := by decide +kernel
theorem d_C_init2_36 : decode prog_3_method_2_code 36 = .ok (.iconst 4, 1) := by decide +kernel
theorem d_C_init2_37 : decode prog_3_method_2_code 37 = .ok (.invokestatic 22, 3) := by decide +kernel
theorem d_C_init2_40 : decode prog_3_method_2_code 40 = .ok (.aload_n 1, 1) := by decide +kernel
theorem d_C_init2_41 : decode prog_3_method_2_code 41 = .ok (.getfield 15, 3) := by decide +kernel
theorem d_C_init2_44 : decode prog_3_method_2_code 44 = .ok (.iconst 0, 1) := by decide +kernel
theorem d_C_init2_45 : decode prog_3_method_2_code 45 = .ok (.aload_n 0, 1) := by decide +kernel
theorem d_C_init2_46 : decode prog_3_method_2_code 46 = .ok (.getfield 15, 3) := by decide +kernel
theorem d_C_init2_49 : decode prog_3_method_2_code 49 = .ok (.iconst 0, 1) := by decide +kernel
theorem d_C_init2_50 : decode prog_3_method_2_code 50 = .ok (.bipush 8, 2) := by decide +kernel
theorem d_C_init2_52 : decode prog_3_method_2_code 52 = .ok (.invokestatic 22, 3) := by decide +kernel
theorem d_C_init2_55 : decode prog_3_method_2_code 55 = .ok (.aload_n 1, 1) := by decide +kernel
theorem d_C_init2_56 : decode prog_3_method_2_code 56 = .ok (.getfield 19, 3) := by decide +kernel
theorem d_C_init2_59 : decode prog_3_method_2_code 59 = .ok (.iconst 0, 1) := by decide +kernel
theorem d_C_init2_60 : decode prog_3_method_2_code 60 = .ok (.aload_n 0, 1) := by decide +kernel
theorem d_C_init2_61 : decode prog_3_method_2_code 61 = .ok (.getfield 19, 3) := by decide +kernel
theorem d_C_init2_64 : decode prog_3_method_2_code 64 = .ok (.iconst 0, 1) := by decide +kernel
theorem d_C_init2_65 : decode prog_3_method_2_code 65 = .ok (.iconst 4, 1) := by decide +kernel
theorem d_C_init2_66 : decode prog_3_method_2_code 66 = .ok (.invokestatic 22, 3) := by decide +kernel
theorem d_C_init2_69 : decode prog_3_method_2_code 69 = .ok (.return_, 1) := by decide +kernel
theorem d_C_join_0 : decode prog_3_method_4_code 0 = .ok (.aload_n 0, 1) := by decide +kernel
theorem d_C_join_1 : decode prog_3_method_4_code 1 = .ok (.getfield 9, 3) := by decide +kernel
theorem d_C_join_4 : decode prog_3_method_4_code 4 = .ok (.iload_n 1, 1) := by decide +kernel
theorem d_C_join_5 : decode prog_3_method_4_code 5 = .ok (.iconst 1, 1) := by decide +kernel
theorem d_C_join_6 : decode prog_3_method_4_code 6 = .ok (.bastore, 1) := by decide +kernel
theorem d_C_join_7 : decode prog_3_method_4_code 7 = .ok (.aload_n 0, 1) := by decide +kernel
theorem d_C_join_8 : decode prog_3_method_4_code 8 = .ok (.invokevirtual 28, 3) := by decide +kernel
theorem d_C_join_11 : decode prog_3_method_4_code 11 = .ok (.iconst 1, 1) := by decide +kernel
theorem d_C_join_12 : decode prog_3_method_4_code 12 = .ok (.if_icmp .ne 23, 3) := by decide +kernel
theorem d_C_join_15 : decode prog_3_method_4_code 15 = .ok (.iconst 0, 1) := by decide +kernel
theorem d_C_join_16 : decode prog_3_method_4_code 16 = .ok (.istore_n 2, 1) := by decide +kernel
theorem d_C_join_17 : decode prog_3_method_4_code 17 = .ok (.iload_n 2, 1) := by decide +kernel
theorem d_C_join_18 : decode prog_3_method_4_code 18 = .ok (.bipush 8, 2) := by decide +kernel
theorem d_C_join_20 : decode prog_3_method_4_code 20 = .ok (.if_icmp .ge 15, 3) := by decide +kernel
theorem d_C_join_23 : decode prog_3_method_4_code 23 = .ok (.aload_n 0, 1) := by decide +kernel
theorem d_C_join_24 : decode prog_3_method_4_code 24 = .ok (.iload_n 2, 1) := by decide +kernel
theorem d_C_join_25 : decode prog_3_method_4_code 25 = .ok (.iload_n 1, 1) := by decide +kernel
theorem d_C_join_26 : decode prog_3_method_4_code 26 = .ok (.invokevirtual 32, 3) := by decide +kernel
theorem d_C_join_29 : decode prog_3_method_4_code 29 = .ok (.iinc 2 1, 3) := by decide +kernel
theorem d_C_join_32 : decode prog_3_method_4_code 32 = .ok (.goto (-15), 3) := by decide +kernel
theorem d_C_join_35 : decode prog_3_method_4_code 35 = .ok (.aload_n 0, 1) := by decide +kernel
theorem d_C_join_36 : decode prog_3_method_4_code 36 = .ok (.invokevirtual 36, 3) := by decide +kernel
theorem d_C_join_39 : decode prog_3_method_4_code 39 = .ok (.return_, 1) := by decide +kernel
theorem d_C_give_0 : decode prog_3_method_6_code 0 = .ok (.aload_n 0, 1) := by decide +kernel
theorem d_C_give_1 : decode prog_3_method_6_code 1 = .ok (.getfield 19, 3) := by decide +kernel
theorem d_C_give_4 : decode prog_3_method_6_code 4 = .ok (.aload_n 0, 1) := by decide +kernel
theorem d_C_give_5 : decode prog_3_method_6_code 5 = .ok (.getfield 15, 3) := by decide +kernel
theorem d_C_give_8 : decode prog_3_method_6_code 8 = .ok (.iload_n 1, 1) := by decide +kernel
theorem d_C_give_9 : decode prog_3_method_6_code 9 = .ok (.iaload, 1) := by decide +kernel
theorem d_C_give_10 : decode prog_3_method_6_code 10 = .ok (.dup2, 1) := by decide +kernel
theorem d_C_give_11 : decode prog_3_method_6_code 11 = .ok (.iaload, 1) := by decide +kernel
theorem d_C_give_12 : decode prog_3_method_6_code 12 = .ok (.iconst 1, 1) := by decide +kernel
theorem d_C_give_13 : decode prog_3_method_6_code 13 = .ok (.isub, 1) := by decide +kernel
theorem d_C_give_14 : decode prog_3_method_6_code 14 = .ok (.iastore, 1) := by decide +kernel
theorem d_C_give_15 : decode prog_3_method_6_code 15 = .ok (.aload_n 0, 1) := by decide +kernel
theorem d_C_give_16 : decode prog_3_method_6_code 16 = .ok (.getfield 15, 3) := by decide +kernel
theorem d_C_give_19 : decode prog_3_method_6_code 19 = .ok (.iload_n 1, 1) := by decide +kernel
theorem d_C_give_20 : decode prog_3_method_6_code 20 = .ok (.iload_n 2, 1) := by decide +kernel
theorem d_C_give_21 : decode prog_3_method_6_code 21 = .ok (.iastore, 1) := by decide +kernel
theorem d_C_give_22 : decode prog_3_method_6_code 22 = .ok (.aload_n 0, 1) := by decide +kernel
theorem d_C_give_23 : decode prog_3_method_6_code 23 = .ok (.getfield 19, 3) := by decide +kernel
theorem d_C_give_26 : decode prog_3_method_6_code 26 = .ok (.iload_n 2, 1) := by decide +kernel
theorem d_C_give_27 : decode prog_3_method_6_code 27 = .ok (.dup2, 1) := by decide +kernel
theorem d_C_give_28 : decode prog_3_method_6_code 28 = .ok (.iaload, 1) := by decide +kernel
theorem d_C_give_29 : decode prog_3_method_6_code 29 = .ok (.iconst 1, 1) := by decide +kernel
theorem d_C_give_30 : decode prog_3_method_6_code 30 = .ok (.iadd, 1) := by decide +kernel
theorem d_C_give_31 : decode prog_3_method_6_code 31 = .ok (.iastore, 1) := by decide +kernel
theorem d_C_give_32 : decode prog_3_method_6_code 32 = .ok (.return_, 1) := by decide +kernel
theorem d_C_balance_0 : decode prog_3_method_7_code 0 = .ok (.iconst 0, 1) := by decide +kernel
theorem d_C_balance_1 : decode prog_3_method_7_code 1 = .ok (.istore_n 1, 1) := by decide +kernel
theorem d_C_balance_2 : decode prog_3_method_7_code 2 = .ok (.iload_n 1, 1) := by decide +kernel
theorem d_C_balance_3 : decode prog_3_method_7_code 3 = .ok (.bipush 64, 2) := by decide +kernel
theorem d_C_balance_5 : decode prog_3_method_7_code 5 = .ok (.if_icmp .ge 47, 3) := by decide +kernel
theorem d_C_balance_8 : decode prog_3_method_7_code 8 = .ok (.aload_n 0, 1) := by decide +kernel
theorem d_C_balance_9 : decode prog_3_method_7_code 9 = .ok (.invokevirtual 42, 3) := by decide +kernel
theorem d_C_balance_12 : decode prog_3_method_7_code 12 = .ok (.istore_n 2, 1) := by decide +kernel
theorem d_C_balance_13 : decode prog_3_method_7_code 13 = .ok (.aload_n 0, 1) := by decide +kernel
theorem d_C_balance_14 : decode prog_3_method_7_code 14 = .ok (.invokevirtual 39, 3) := by decide +kernel
theorem d_C_balance_17 : decode prog_3_method_7_code 17 = .ok (.istore_n 3, 1) := by decide +kernel
theorem d_C_balance_18 : decode prog_3_method_7_code 18 = .ok (.aload_n 0, 1) := by decide +kernel
theorem d_C_balance_19 : decode prog_3_method_7_code 19 = .ok (.getfield 19, 3) := by decide +kernel
theorem d_C_balance_22 : decode prog_3_method_7_code 22 = .ok (.iload_n 2, 1) := by decide +kernel
theorem d_C_balance_23 : decode prog_3_method_7_code 23 = .ok (.iaload, 1) := by decide +kernel
theorem d_C_balance_24 : decode prog_3_method_7_code 24 = .ok (.aload_n 0, 1) := by decide +kernel
theorem d_C_balance_25 : decode prog_3_method_7_code 25 = .ok (.getfield 19, 3) := by decide +kernel
theorem d_C_balance_28 : decode prog_3_method_7_code 28 = .ok (.iload_n 3, 1) := by decide +kernel
theorem d_C_balance_29 : decode prog_3_method_7_code 29 = .ok (.iaload, 1) := by decide +kernel
theorem d_C_balance_30 : decode prog_3_method_7_code 30 = .ok (.isub, 1) := by decide +kernel
theorem d_C_balance_31 : decode prog_3_method_7_code 31 = .ok (.iconst 2, 1) := by decide +kernel
theorem d_C_balance_32 : decode prog_3_method_7_code 32 = .ok (.if_icmp .ge 4, 3) := by decide +kernel
theorem d_C_balance_35 : decode prog_3_method_7_code 35 = .ok (.return_, 1) := by decide +kernel
theorem d_C_balance_36 : decode prog_3_method_7_code 36 = .ok (.aload_n 0, 1) := by decide +kernel
theorem d_C_balance_37 : decode prog_3_method_7_code 37 = .ok (.aload_n 0, 1) := by decide +kernel
theorem d_C_balance_38 : decode prog_3_method_7_code 38 = .ok (.iload_n 2, 1) := by decide +kernel
theorem d_C_balance_39 : decode prog_3_method_7_code 39 = .ok (.invokevirtual 45, 3) := by decide +kernel
theorem d_C_balance_42 : decode prog_3_method_7_code 42 = .ok (.iload_n 3, 1) := by decide +kernel
theorem d_C_balance_43 : decode prog_3_method_7_code 43 = .ok (.invokevirtual 32, 3) := by decide +kernel
theorem d_C_balance_46 : decode prog_3_method_7_code 46 = .ok (.iinc 1 1, 3) := by decide +kernel
theorem d_C_balance_49 : decode prog_3_method_7_code 49 = .ok (.goto (-47), 3) := by decide +kernel
theorem d_C_balance_52 : decode prog_3_method_7_code 52 = .ok (.return_, 1) := by decide +kernel
theorem d_C_most_0 : decode prog_3_method_8_code 0 = .ok (.iconst 0, 1) := by decide +kernel
theorem d_C_most_1 : decode prog_3_method_8_code 1 = .ok (.istore_n 1, 1) := by decide +kernel
theorem d_C_most_2 : decode prog_3_method_8_code 2 = .ok (.iconst 1, 1) := by decide +kernel
theorem d_C_most_3 : decode prog_3_method_8_code 3 = .ok (.istore_n 2, 1) := by decide +kernel
theorem d_C_most_4 : decode prog_3_method_8_code 4 = .ok (.iload_n 2, 1) := by decide +kernel
theorem d_C_most_5 : decode prog_3_method_8_code 5 = .ok (.iconst 4, 1) := by decide +kernel
theorem d_C_most_6 : decode prog_3_method_8_code 6 = .ok (.if_icmp .ge 39, 3) := by decide +kernel
theorem d_C_most_9 : decode prog_3_method_8_code 9 = .ok (.aload_n 0, 1) := by decide +kernel
theorem d_C_most_10 : decode prog_3_method_8_code 10 = .ok (.getfield 9, 3) := by decide +kernel
theorem d_C_most_13 : decode prog_3_method_8_code 13 = .ok (.iload_n 2, 1) := by decide +kernel
theorem d_C_most_14 : decode prog_3_method_8_code 14 = .ok (.baload, 1) := by decide +kernel
theorem d_C_most_15 : decode prog_3_method_8_code 15 = .ok (.ifCond .eq 24, 3) := by decide +kernel
theorem d_C_most_18 : decode prog_3_method_8_code 18 = .ok (.iload_n 1, 1) := by decide +kernel
theorem d_C_most_19 : decode prog_3_method_8_code 19 = .ok (.ifCond .eq 18, 3) := by decide +kernel
theorem d_C_most_22 : decode prog_3_method_8_code 22 = .ok (.aload_n 0, 1) := by decide +kernel
theorem d_C_most_23 : decode prog_3_method_8_code 23 = .ok (.getfield 19, 3) := by decide +kernel
theorem d_C_most_26 : decode prog_3_method_8_code 26 = .ok (.iload_n 2, 1) := by decide +kernel
theorem d_C_most_27 : decode prog_3_method_8_code 27 = .ok (.iaload, 1) := by decide +kernel
theorem d_C_most_28 : decode prog_3_method_8_code 28 = .ok (.aload_n 0, 1) := by decide +kernel
theorem d_C_most_29 : decode prog_3_method_8_code 29 = .ok (.getfield 19, 3) := by decide +kernel
theorem d_C_most_32 : decode prog_3_method_8_code 32 = .ok (.iload_n 1, 1) := by decide +kernel
theorem d_C_most_33 : decode prog_3_method_8_code 33 = .ok (.iaload, 1) := by decide +kernel
theorem d_C_most_34 : decode prog_3_method_8_code 34 = .ok (.if_icmp .le 5, 3) := by decide +kernel
theorem d_C_most_37 : decode prog_3_method_8_code 37 = .ok (.iload_n 2, 1) := by decide +kernel
theorem d_C_most_38 : decode prog_3_method_8_code 38 = .ok (.istore_n 1, 1) := by decide +kernel
theorem d_C_most_39 : decode prog_3_method_8_code 39 = .ok (.iinc 2 1, 3) := by decide +kernel
theorem d_C_most_42 : decode prog_3_method_8_code 42 = .ok (.goto (-38), 3) := by decide +kernel
theorem d_C_most_45 : decode prog_3_method_8_code 45 = .ok (.iload_n 1, 1) := by decide +kernel
theorem d_C_most_46 : decode prog_3_method_8_code 46 = .ok (.ireturn, 1) := by decide +kernel
theorem d_C_fewest_0 : decode prog_3_method_9_code 0 = .ok (.iconst 0, 1) := by decide +kernel
theorem d_C_fewest_1 : decode prog_3_method_9_code 1 = .ok (.istore_n 1, 1) := by decide +kernel
theorem d_C_fewest_2 : decode prog_3_method_9_code 2 = .ok (.iconst 1, 1) := by decide +kernel
theorem d_C_fewest_3 : decode prog_3_method_9_code 3 = .ok (.istore_n 2, 1) := by decide +kernel
theorem d_C_fewest_4 : decode prog_3_method_9_code 4 = .ok (.iload_n 2, 1) := by decide +kernel
theorem d_C_fewest_5 : decode prog_3_method_9_code 5 = .ok (.iconst 4, 1) := by decide +kernel
theorem d_C_fewest_6 : decode prog_3_method_9_code 6 = .ok (.if_icmp .ge 39, 3) := by decide +kernel
theorem d_C_fewest_9 : decode prog_3_method_9_code 9 = .ok (.aload_n 0, 1) := by decide +kernel
theorem d_C_fewest_10 : decode prog_3_method_9_code 10 = .ok (.getfield 9, 3) := by decide +kernel
theorem d_C_fewest_13 : decode prog_3_method_9_code 13 = .ok (.iload_n 2, 1) := by decide +kernel
theorem d_C_fewest_14 : decode prog_3_method_9_code 14 = .ok (.baload, 1) := by decide +kernel
theorem d_C_fewest_15 : decode prog_3_method_9_code 15 = .ok (.ifCond .eq 24, 3) := by decide +kernel
theorem d_C_fewest_18 : decode prog_3_method_9_code 18 = .ok (.iload_n 1, 1) := by decide +kernel
theorem d_C_fewest_19 : decode prog_3_method_9_code 19 = .ok (.ifCond .eq 18, 3) := by decide +kernel
theorem d_C_fewest_22 : decode prog_3_method_9_code 22 = .ok (.aload_n 0, 1) := by decide +kernel
theorem d_C_fewest_23 : decode prog_3_method_9_code 23 = .ok (.getfield 19, 3) := by decide +kernel
theorem d_C_fewest_26 : decode prog_3_method_9_code 26 = .ok (.iload_n 2, 1) := by decide +kernel
theorem d_C_fewest_27 : decode prog_3_method_9_code 27 = .ok (.iaload, 1) := by decide +kernel
theorem d_C_fewest_28 : decode prog_3_method_9_code 28 = .ok (.aload_n 0, 1) := by decide +kernel
theorem d_C_fewest_29 : decode prog_3_method_9_code 29 = .ok (.getfield 19, 3) := by decide +kernel
theorem d_C_fewest_32 : decode prog_3_method_9_code 32 = .ok (.iload_n 1, 1) := by decide +kernel
theorem d_C_fewest_33 : decode prog_3_method_9_code 33 = .ok (.iaload, 1) := by decide +kernel
theorem d_C_fewest_34 : decode prog_3_method_9_code 34 = .ok (.if_icmp .ge 5, 3) := by decide +kernel
theorem d_C_fewest_37 : decode prog_3_method_9_code 37 = .ok (.iload_n 2, 1) := by decide +kernel
theorem d_C_fewest_38 : decode prog_3_method_9_code 38 = .ok (.istore_n 1, 1) := by decide +kernel
theorem d_C_fewest_39 : decode prog_3_method_9_code 39 = .ok (.iinc 2 1, 3) := by decide +kernel
theorem d_C_fewest_42 : decode prog_3_method_9_code 42 = .ok (.goto (-38), 3) := by decide +kernel
theorem d_C_fewest_45 : decode prog_3_method_9_code 45 = .ok (.iload_n 1, 1) := by decide +kernel
theorem d_C_fewest_46 : decode prog_3_method_9_code 46 = .ok (.ireturn, 1) := by decide +kernel
theorem d_C_leastShardOf_0 : decode prog_3_method_10_code 0 = .ok (.iconst 0, 1) := by decide +kernel
theorem d_C_leastShardOf_1 : decode prog_3_method_10_code 1 = .ok (.istore_n 2, 1) := by decide +kernel
theorem d_C_leastShardOf_2 : decode prog_3_method_10_code 2 = .ok (.iload_n 2, 1) := by decide +kernel
theorem d_C_leastShardOf_3 : decode prog_3_method_10_code 3 = .ok (.bipush 7, 2) := by decide +kernel
theorem d_C_leastShardOf_5 : decode prog_3_method_10_code 5 = .ok (.if_icmp .ge 19, 3) := by decide +kernel
theorem d_C_leastShardOf_8 : decode prog_3_method_10_code 8 = .ok (.aload_n 0, 1) := by decide +kernel
theorem d_C_leastShardOf_9 : decode prog_3_method_10_code 9 = .ok (.getfield 15, 3) := by decide +kernel
theorem d_C_leastShardOf_12 : decode prog_3_method_10_code 12 = .ok (.iload_n 2, 1) := by decide +kernel
theorem d_C_leastShardOf_13 : decode prog_3_method_10_code 13 = .ok (.iaload, 1) := by decide +kernel
theorem d_C_leastShardOf_14 : decode prog_3_method_10_code 14 = .ok (.iload_n 1, 1) := by decide +kernel
theorem d_C_leastShardOf_15 : decode prog_3_method_10_code 15 = .ok (.if_icmp .eq 9, 3) := by decide +kernel
theorem d_C_leastShardOf_18 : decode prog_3_method_10_code 18 = .ok (.iinc 2 1, 3) := by decide +kernel
theorem d_C_leastShardOf_21 : decode prog_3_method_10_code 21 = .ok (.goto (-19), 3) := by decide +kernel
theorem d_C_leastShardOf_24 : decode prog_3_method_10_code 24 = .ok (.iload_n 2, 1) := by decide +kernel
theorem d_C_leastShardOf_25 : decode prog_3_method_10_code 25 = .ok (.ireturn, 1) := by decide +kernel
