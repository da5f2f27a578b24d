theorem d_S_request_0 : decode prog_1_method_7_code 0 = .ok (.aload_n 0, 1) := by decide +kernel
theorem d_S_request_1 : decode prog_1_method_7_code 1 = .ok (.iload_n 1, 1) := by decide +kernel
theorem d_S_request_2 : decode prog_1_method_7_code 2 = .ok (.invokevirtual 113, 3) := by decide +kernel
theorem d_S_request_5 : decode prog_1_method_7_code 5 = .ok (.astore 7, 2) := by decide +kernel
theorem d_S_request_7 : decode prog_1_method_7_code 7 = .ok (.aload 7, 2) := by decide +kernel
theorem d_S_request_9 : decode prog_1_method_7_code 9 = .ok (.ifnull 54, 3) := by decide +kernel
theorem d_S_request_12 : decode prog_1_method_7_code 12 = .ok (.iload_n 2, 1) := by decide +kernel
theorem d_S_request_13 : decode prog_1_method_7_code 13 = .ok (.invokestatic 117, 3) := by decide +kernel
theorem d_S_request_16 : decode prog_1_method_7_code 16 = .ok (.ifCond .eq 47, 3) := by decide +kernel
theorem d_S_request_19 : decode prog_1_method_7_code 19 = .ok (.iload 5, 2) := by decide +kernel
theorem d_S_request_21 : decode prog_1_method_7_code 21 = .ok (.invokestatic 121, 3) := by decide +kernel
theorem d_S_request_24 : decode prog_1_method_7_code 24 = .ok (.ifCond .eq 39, 3) := by decide +kernel
theorem d_S_request_27 : decode prog_1_method_7_code 27 = .ok (.iload_n 3, 1) := by decide +kernel
theorem d_S_request_28 : decode prog_1_method_7_code 28 = .ok (.iconst 1, 1) := by decide +kernel
theorem d_S_request_29 : decode prog_1_method_7_code 29 = .ok (.if_icmp .lt 34, 3) := by decide +kernel
theorem d_S_request_32 : decode prog_1_method_7_code 32 = .ok (.iload_n 3, 1) := by decide +kernel
theorem d_S_request_33 : decode prog_1_method_7_code 33 = .ok (.sipush 999, 3) := by decide +kernel
theorem d_S_request_36 : decode prog_1_method_7_code 36 = .ok (.if_icmp .gt 27, 3) := by decide +kernel
theorem d_S_request_39 : decode prog_1_method_7_code 39 = .ok (.iload 4, 2) := by decide +kernel
theorem d_S_request_41 : decode prog_1_method_7_code 41 = .ok (.ifCond .lt 22, 3) := by decide +kernel
theorem d_S_request_44 : decode prog_1_method_7_code 44 = .ok (.iload 4, 2) := by decide +kernel
theorem d_S_request_46 : decode prog_1_method_7_code 46 = .ok (.iconst 2, 1) := by decide +kernel
theorem d_S_request_47 : decode prog_1_method_7_code 47 = .ok (.if_icmp .gt 16, 3) := by decide +kernel
theorem d_S_request_50 : decode prog_1_method_7_code 50 = .ok (.iload 6, 2) := by decide +kernel
theorem d_S_request_52 : decode prog_1_method_7_code 52 = .ok (.ifCond .lt 11, 3) := by decide +kernel
theorem d_S_request_55 : decode prog_1_method_7_code 55 = .ok (.iload 6, 2) := by decide +kernel
theorem d_S_request_57 : decode prog_1_method_7_code 57 = .ok (.sipush 1000, 3) := by decide +kernel
theorem d_S_request_60 : decode prog_1_method_7_code 60 = .ok (.if_icmp .lt 5, 3) := by decide +kernel
theorem d_S_request_63 : decode prog_1_method_7_code 63 = .ok (.iconst (-1), 1) := by decide +kernel
theorem d_S_request_64 : decode prog_1_method_7_code 64 = .ok (.ireturn, 1) := by decide +kernel
theorem d_S_request_65 : decode prog_1_method_7_code 65 = .ok (.aload 7, 2) := by decide +kernel
theorem d_S_request_67 : decode prog_1_method_7_code 67 = .ok (.getfield 124, 3) := by decide +kernel
theorem d_S_request_70 : decode prog_1_method_7_code 70 = .ok (.ifCond .ne 6, 3) := by decide +kernel
theorem d_S_request_73 : decode prog_1_method_7_code 73 = .ok (.bipush (-2), 2) := by decide +kernel
theorem d_S_request_75 : decode prog_1_method_7_code 75 = .ok (.ireturn, 1) := by decide +kernel
theorem d_S_request_76 : decode prog_1_method_7_code 76 = .ok (.aload 7, 2) := by decide +kernel
theorem d_S_request_78 : decode prog_1_method_7_code 78 = .ok (.new 125, 3) := by decide +kernel
theorem d_S_request_81 : decode prog_1_method_7_code 81 = .ok (.dup, 1) := by decide +kernel
theorem d_S_request_82 : decode prog_1_method_7_code 82 = .ok (.aload 7, 2) := by decide +kernel
theorem d_S_request_84 : decode prog_1_method_7_code 84 = .ok (.getfield 127, 3) := by decide +kernel
theorem d_S_request_87 : decode prog_1_method_7_code 87 = .ok (.iload_n 2, 1) := by decide +kernel
theorem d_S_request_88 : decode prog_1_method_7_code 88 = .ok (.iload_n 3, 1) := by decide +kernel
theorem d_S_request_89 : decode prog_1_method_7_code 89 = .ok (.iload 4, 2) := by decide +kernel
theorem d_S_request_91 : decode prog_1_method_7_code 91 = .ok (.iload 5, 2) := by decide +kernel
theorem d_S_request_93 : decode prog_1_method_7_code 93 = .ok (.iload 6, 2) := by decide +kernel
theorem d_S_request_95 : decode prog_1_method_7_code 95 = .ok (.invokespecial 128, 3) := by decide +kernel
theorem d_S_request_98 : decode prog_1_method_7_code 98 = .ok (.invokevirtual 131, 3) := by decide +kernel
theorem d_S_request_101 : decode prog_1_method_7_code 101 = .ok (.ireturn, 1) := by decide +kernel
theorem d_S_upStore_0 : decode prog_1_method_33_code 0 = .ok (.aload_n 0, 1) := by decide +kernel
theorem d_S_upStore_1 : decode prog_1_method_33_code 1 = .ok (.iload_n 1, 1) := by decide +kernel
theorem d_S_upStore_2 : decode prog_1_method_33_code 2 = .ok (.invokevirtual 195, 3) := by decide +kernel
theorem d_S_upStore_5 : decode prog_1_method_33_code 5 = .ok (.astore_n 2, 1) := by decide +kernel
theorem d_S_upStore_6 : decode prog_1_method_33_code 6 = .ok (.aload_n 2, 1) := by decide +kernel
theorem d_S_upStore_7 : decode prog_1_method_33_code 7 = .ok (.ifnull 14, 3) := by decide +kernel
theorem d_S_upStore_10 : decode prog_1_method_33_code 10 = .ok (.aload_n 2, 1) := by decide +kernel
theorem d_S_upStore_11 : decode prog_1_method_33_code 11 = .ok (.getfield 218, 3) := by decide +kernel
theorem d_S_upStore_14 : decode prog_1_method_33_code 14 = .ok (.ifCond .eq 7, 3) := by decide +kernel
theorem d_S_upStore_17 : decode prog_1_method_33_code 17 = .ok (.aload_n 2, 1) := by decide +kernel
theorem d_S_upStore_18 : decode prog_1_method_33_code 18 = .ok (.goto 4, 3) := by decide +kernel
theorem d_S_upStore_21 : decode prog_1_method_33_code 21 = .ok (.aconst_null, 1) := by decide +kernel
theorem d_S_upStore_22 : decode prog_1_method_33_code 22 = .ok (.areturn, 1) := by decide +kernel
theorem d_S_anyStore_0 : decode prog_1_method_30_code 0 = .ok (.iload_n 1, 1) := by decide +kernel
theorem d_S_anyStore_1 : decode prog_1_method_30_code 1 = .ok (.iconst 3, 1) := by decide +kernel
theorem d_S_anyStore_2 : decode prog_1_method_30_code 2 = .ok (.if_icmp .lt 20, 3) := by decide +kernel
theorem d_S_anyStore_5 : decode prog_1_method_30_code 5 = .ok (.iload_n 1, 1) := by decide +kernel
theorem d_S_anyStore_6 : decode prog_1_method_30_code 6 = .ok (.bipush 12, 2) := by decide +kernel
theorem d_S_anyStore_8 : decode prog_1_method_30_code 8 = .ok (.if_icmp .ge 14, 3) := by decide +kernel
theorem d_S_anyStore_11 : decode prog_1_method_30_code 11 = .ok (.aload_n 0, 1) := by decide +kernel
theorem d_S_anyStore_12 : decode prog_1_method_30_code 12 = .ok (.getfield 23, 3) := by decide +kernel
theorem d_S_anyStore_15 : decode prog_1_method_30_code 15 = .ok (.iload_n 1, 1) := by decide +kernel
theorem d_S_anyStore_16 : decode prog_1_method_30_code 16 = .ok (.iconst 3, 1) := by decide +kernel
theorem d_S_anyStore_17 : decode prog_1_method_30_code 17 = .ok (.isub, 1) := by decide +kernel
theorem d_S_anyStore_18 : decode prog_1_method_30_code 18 = .ok (.aaload, 1) := by decide +kernel
theorem d_S_anyStore_19 : decode prog_1_method_30_code 19 = .ok (.goto 4, 3) := by decide +kernel
theorem d_S_anyStore_22 : decode prog_1_method_30_code 22 = .ok (.aconst_null, 1) := by decide +kernel
theorem d_S_anyStore_23 : decode prog_1_method_30_code 23 = .ok (.areturn, 1) := by decide +kernel
theorem d_S_isClient_0 : decode prog_1_method_25_code 0 = .ok (.iload_n 0, 1) := by decide +kernel
theorem d_S_isClient_1 : decode prog_1_method_25_code 1 = .ok (.ifCond .lt 12, 3) := by decide +kernel
theorem d_S_isClient_4 : decode prog_1_method_25_code 4 = .ok (.iload_n 0, 1) := by decide +kernel
theorem d_S_isClient_5 : decode prog_1_method_25_code 5 = .ok (.iconst 3, 1) := by decide +kernel
theorem d_S_isClient_6 : decode prog_1_method_25_code 6 = .ok (.if_icmp .ge 7, 3) := by decide +kernel
theorem d_S_isClient_9 : decode prog_1_method_25_code 9 = .ok (.iconst 1, 1) := by decide +kernel
theorem d_S_isClient_10 : decode prog_1_method_25_code 10 = .ok (.goto 4, 3) := by decide +kernel
theorem d_S_isClient_13 : decode prog_1_method_25_code 13 = .ok (.iconst 0, 1) := by decide +kernel
theorem d_S_isClient_14 : decode prog_1_method_25_code 14 = .ok (.ireturn, 1) := by decide +kernel
theorem d_S_isKey_0 : decode prog_1_method_24_code 0 = .ok (.iload_n 0, 1) := by decide +kernel
theorem d_S_isKey_1 : decode prog_1_method_24_code 1 = .ok (.ifCond .lt 13, 3) := by decide +kernel
theorem d_S_isKey_4 : decode prog_1_method_24_code 4 = .ok (.iload_n 0, 1) := by decide +kernel
theorem d_S_isKey_5 : decode prog_1_method_24_code 5 = .ok (.bipush 16, 2) := by decide +kernel
theorem d_S_isKey_7 : decode prog_1_method_24_code 7 = .ok (.if_icmp .ge 7, 3) := by decide +kernel
theorem d_S_isKey_10 : decode prog_1_method_24_code 10 = .ok (.iconst 1, 1) := by decide +kernel
theorem d_S_isKey_11 : decode prog_1_method_24_code 11 = .ok (.goto 4, 3) := by decide +kernel
theorem d_S_isKey_14 : decode prog_1_method_24_code 14 = .ok (.iconst 0, 1) := by decide +kernel
theorem d_S_isKey_15 : decode prog_1_method_24_code 15 = .ok (.ireturn, 1) := by decide +kernel
theorem d_R_init_0 : decode prog_9_method_1_code 0 = .ok (.aload_n 0, 1) := by decide +kernel
theorem d_R_init_1 : decode prog_9_method_1_code 1 = .ok (.iload_n 1, 1) := by decide +kernel
theorem d_R_init_2 : decode prog_9_method_1_code 2 = .ok (.invokespecial 1, 3) := by decide +kernel
theorem d_R_init_5 : decode prog_9_method_1_code 5 = .ok (.aload_n 0, 1) := by decide +kernel
theorem d_R_init_6 : decode prog_9_method_1_code 6 = .ok (.iload_n 2, 1) := by decide +kernel
theorem d_R_init_7 : decode prog_9_method_1_code 7 = .ok (.putfield 7, 3) := by decide +kernel
theorem d_R_init_10 : decode prog_9_method_1_code 10 = .ok (.aload_n 0, 1) := by decide +kernel
theorem d_R_init_11 : decode prog_9_method_1_code 11 = .ok (.iload_n 3, 1) := by decide +kernel
theorem d_R_init_12 : decode prog_9_method_1_code 12 = .ok (.putfield 13, 3) := by decide +kernel
theorem d_R_init_15 : decode prog_9_method_1_code 15 = .ok (.aload_n 0, 1) := by decide +kernel
theorem d_R_init_16 : decode prog_9_method_1_code 16 = .ok (.iload 4, 2) := by decide +kernel
theorem d_R_init_18 : decode prog_9_method_1_code 18 = .ok (.putfield 16, 3) := by decide +kernel
theorem d_R_init_21 : decode prog_9_method_1_code 21 = .ok (.aload_n 0, 1) := by decide +kernel
theorem d_R_init_22 : decode prog_9_method_1_code 22 = .ok (.iload 5, 2) := by decide +kernel
theorem d_R_init_24 : decode prog_9_method_1_code 24 = .ok (.putfield 19, 3) := by decide +kernel
theorem d_R_init_27 : decode prog_9_method_1_code 27 = .ok (.aload_n 0, 1) := by decide +kernel
theorem d_R_init_28 : decode prog_9_method_1_code 28 = .ok (.iload 6, 2) := by decide +kernel
theorem d_R_init_30 : decode prog_9_method_1_code 30 = .ok (.putfield 22, 3) := by decide +kernel
theorem d_R_init_33 : decode prog_9_method_1_code 33 = .ok (.return_, 1) := by decide +kernel
theorem d_S_poll_0 : decode prog_1_method_8_code 0 = .ok (.aload_n 0, 1) := by decide +kernel
theorem d_S_poll_1 : decode prog_1_method_8_code 1 = .ok (.iload_n 1, 1) := by decide +kernel
theorem d_S_poll_2 : decode prog_1_method_8_code 2 = .ok (.invokevirtual 113, 3) := by decide +kernel
theorem d_S_poll_5 : decode prog_1_method_8_code 5 = .ok (.astore_n 3, 1) := by decide +kernel
theorem d_S_poll_6 : decode prog_1_method_8_code 6 = .ok (.aload_n 0, 1) := by decide +kernel
theorem d_S_poll_7 : decode prog_1_method_8_code 7 = .ok (.iload_n 2, 1) := by decide +kernel
theorem d_S_poll_8 : decode prog_1_method_8_code 8 = .ok (.invokevirtual 97, 3) := by decide +kernel
theorem d_S_poll_11 : decode prog_1_method_8_code 11 = .ok (.astore 4, 2) := by decide +kernel
theorem d_S_poll_13 : decode prog_1_method_8_code 13 = .ok (.aload_n 3, 1) := by decide +kernel
theorem d_S_poll_14 : decode prog_1_method_8_code 14 = .ok (.ifnull 8, 3) := by decide +kernel
theorem d_S_poll_17 : decode prog_1_method_8_code 17 = .ok (.aload 4, 2) := by decide +kernel
theorem d_S_poll_19 : decode prog_1_method_8_code 19 = .ok (.ifnonnull 5, 3) := by decide +kernel
theorem d_S_poll_22 : decode prog_1_method_8_code 22 = .ok (.iconst (-1), 1) := by decide +kernel
theorem d_S_poll_23 : decode prog_1_method_8_code 23 = .ok (.ireturn, 1) := by decide +kernel
theorem d_S_poll_24 : decode prog_1_method_8_code 24 = .ok (.aload_n 3, 1) := by decide +kernel
theorem d_S_poll_25 : decode prog_1_method_8_code 25 = .ok (.getfield 124, 3) := by decide +kernel
theorem d_S_poll_28 : decode prog_1_method_8_code 28 = .ok (.ifCond .ne 6, 3) := by decide +kernel
theorem d_S_poll_31 : decode prog_1_method_8_code 31 = .ok (.bipush (-2), 2) := by decide +kernel
theorem d_S_poll_33 : decode prog_1_method_8_code 33 = .ok (.ireturn, 1) := by decide +kernel
theorem d_S_poll_34 : decode prog_1_method_8_code 34 = .ok (.aload_n 3, 1) := by decide +kernel
theorem d_S_poll_35 : decode prog_1_method_8_code 35 = .ok (.getfield 132, 3) := by decide +kernel
theorem d_S_poll_38 : decode prog_1_method_8_code 38 = .ok (.iconst 1, 1) := by decide +kernel
theorem d_S_poll_39 : decode prog_1_method_8_code 39 = .ok (.iadd, 1) := by decide +kernel
theorem d_S_poll_40 : decode prog_1_method_8_code 40 = .ok (.istore 5, 2) := by decide +kernel
theorem d_S_poll_42 : decode prog_1_method_8_code 42 = .ok (.aload_n 3, 1) := by decide +kernel
theorem d_S_poll_43 : decode prog_1_method_8_code 43 = .ok (.invokevirtual 135, 3) := by decide +kernel
theorem d_S_poll_46 : decode prog_1_method_8_code 46 = .ok (.ifCond .eq 13, 3) := by decide +kernel
theorem d_S_poll_49 : decode prog_1_method_8_code 49 = .ok (.iload 5, 2) := by decide +kernel
theorem d_S_poll_51 : decode prog_1_method_8_code 51 = .ok (.aload 4, 2) := by decide +kernel
theorem d_S_poll_53 : decode prog_1_method_8_code 53 = .ok (.getfield 139, 3) := by decide +kernel
theorem d_S_poll_56 : decode prog_1_method_8_code 56 = .ok (.if_icmp .le 6, 3) := by decide +kernel
theorem d_S_poll_59 : decode prog_1_method_8_code 59 = .ok (.bipush (-4), 2) := by decide +kernel
theorem d_S_poll_61 : decode prog_1_method_8_code 61 = .ok (.ireturn, 1) := by decide +kernel
theorem d_S_poll_62 : decode prog_1_method_8_code 62 = .ok (.aload_n 3, 1) := by decide +kernel
theorem d_S_poll_63 : decode prog_1_method_8_code 63 = .ok (.new 142, 3) := by decide +kernel
theorem d_S_poll_66 : decode prog_1_method_8_code 66 = .ok (.dup, 1) := by decide +kernel
theorem d_S_poll_67 : decode prog_1_method_8_code 67 = .ok (.aload_n 3, 1) := by decide +kernel
theorem d_S_poll_68 : decode prog_1_method_8_code 68 = .ok (.getfield 127, 3) := by decide +kernel
theorem d_S_poll_71 : decode prog_1_method_8_code 71 = .ok (.iload 5, 2) := by decide +kernel
theorem d_S_poll_73 : decode prog_1_method_8_code 73 = .ok (.aload 4, 2) := by decide +kernel
theorem d_S_poll_75 : decode prog_1_method_8_code 75 = .ok (.getfield 144, 3) := by decide +kernel
theorem d_S_poll_78 : decode prog_1_method_8_code 78 = .ok (.iload 5, 2) := by decide +kernel
theorem d_S_poll_80 : decode prog_1_method_8_code 80 = .ok (.aaload, 1) := by decide +kernel
theorem d_S_poll_81 : decode prog_1_method_8_code 81 = .ok (.invokespecial 148, 3) := by decide +kernel
theorem d_S_poll_84 : decode prog_1_method_8_code 84 = .ok (.invokevirtual 131, 3) := by decide +kernel
theorem d_S_poll_87 : decode prog_1_method_8_code 87 = .ok (.ireturn, 1) := by decide +kernel
theorem d_F_init_0 : decode prog_4_method_1_code 0 = .ok (.aload_n 0, 1) := by decide +kernel
theorem d_F_init_1 : decode prog_4_method_1_code 1 = .ok (.iload_n 1, 1) := by decide +kernel
theorem d_F_init_2 : decode prog_4_method_1_code 2 = .ok (.invokespecial 1, 3) := by decide +kernel
theorem d_F_init_5 : decode prog_4_method_1_code 5 = .ok (.aload_n 0, 1) := by decide +kernel
theorem d_F_init_6 : decode prog_4_method_1_code 6 = .ok (.iload_n 2, 1) := by decide +kernel
theorem d_F_init_7 : decode prog_4_method_1_code 7 = .ok (.putfield 7, 3) := by decide +kernel
theorem d_F_init_10 : decode prog_4_method_1_code 10 = .ok (.aload_n 0, 1) := by decide +kernel
theorem d_F_init_11 : decode prog_4_method_1_code 11 = .ok (.aload_n 3, 1) := by decide +kernel
theorem d_F_init_12 : decode prog_4_method_1_code 12 = .ok (.putfield 13, 3) := by decide +kernel
theorem d_F_init_15 : decode prog_4_method_1_code 15 = .ok (.return_, 1) := by decide +kernel
theorem d_S_pull_0 : decode prog_1_method_9_code 0 = .ok (.aload_n 0, 1) := by decide +kernel
theorem d_S_pull_1 : decode prog_1_method_9_code 1 = .ok (.iload_n 1, 1) := by decide +kernel
theorem d_S_pull_2 : decode prog_1_method_9_code 2 = .ok (.invokevirtual 113, 3) := by decide +kernel
theorem d_S_pull_5 : decode prog_1_method_9_code 5 = .ok (.astore 4, 2) := by decide +kernel
theorem d_S_pull_7 : decode prog_1_method_9_code 7 = .ok (.aload_n 0, 1) := by decide +kernel
theorem d_S_pull_8 : decode prog_1_method_9_code 8 = .ok (.iload_n 3, 1) := by decide +kernel
theorem d_S_pull_9 : decode prog_1_method_9_code 9 = .ok (.invokevirtual 113, 3) := by decide +kernel
theorem d_S_pull_12 : decode prog_1_method_9_code 12 = .ok (.astore 5, 2) := by decide +kernel
theorem d_S_pull_14 : decode prog_1_method_9_code 14 = .ok (.aload 4, 2) := by decide +kernel
theorem d_S_pull_16 : decode prog_1_method_9_code 16 = .ok (.ifnull 15, 3) := by decide +kernel
theorem d_S_pull_19 : decode prog_1_method_9_code 19 = .ok (.aload 5, 2) := by decide +kernel
theorem d_S_pull_21 : decode prog_1_method_9_code 21 = .ok (.ifnull 10, 3) := by decide +kernel
theorem d_S_pull_24 : decode prog_1_method_9_code 24 = .ok (.iload_n 2, 1) := by decide +kernel
theorem d_S_pull_25 : decode prog_1_method_9_code 25 = .ok (.invokestatic 151, 3) := by decide +kernel
theorem d_S_pull_28 : decode prog_1_method_9_code 28 = .ok (.ifCond .ne 5, 3) := by decide +kernel
theorem d_S_pull_31 : decode prog_1_method_9_code 31 = .ok (.iconst (-1), 1) := by decide +kernel
theorem d_S_pull_32 : decode prog_1_method_9_code 32 = .ok (.ireturn, 1) := by decide +kernel
theorem d_S_pull_33 : decode prog_1_method_9_code 33 = .ok (.aload 4, 2) := by decide +kernel
theorem d_S_pull_35 : decode prog_1_method_9_code 35 = .ok (.getfield 124, 3) := by decide +kernel
theorem d_S_pull_38 : decode prog_1_method_9_code 38 = .ok (.ifCond .ne 6, 3) := by decide +kernel
theorem d_S_pull_41 : decode prog_1_method_9_code 41 = .ok (.bipush (-2), 2) := by decide +kernel
theorem d_S_pull_43 : decode prog_1_method_9_code 43 = .ok (.ireturn, 1) := by decide +kernel
theorem d_S_pull_44 : decode prog_1_method_9_code 44 = .ok (.aload 4, 2) := by decide +kernel
theorem d_S_pull_46 : decode prog_1_method_9_code 46 = .ok (.getfield 154, 3) := by decide +kernel
theorem d_S_pull_49 : decode prog_1_method_9_code 49 = .ok (.iload_n 2, 1) := by decide +kernel
theorem d_S_pull_50 : decode prog_1_method_9_code 50 = .ok (.aaload, 1) := by decide +kernel
theorem d_S_pull_51 : decode prog_1_method_9_code 51 = .ok (.getfield 158, 3) := by decide +kernel
theorem d_S_pull_54 : decode prog_1_method_9_code 54 = .ok (.iconst 2, 1) := by decide +kernel
theorem d_S_pull_55 : decode prog_1_method_9_code 55 = .ok (.if_icmp .ne 30, 3) := by decide +kernel
theorem d_S_pull_58 : decode prog_1_method_9_code 58 = .ok (.aload 5, 2) := by decide +kernel
theorem d_S_pull_60 : decode prog_1_method_9_code 60 = .ok (.getfield 154, 3) := by decide +kernel
theorem d_S_pull_63 : decode prog_1_method_9_code 63 = .ok (.iload_n 2, 1) := by decide +kernel
theorem d_S_pull_64 : decode prog_1_method_9_code 64 = .ok (.aaload, 1) := by decide +kernel
theorem d_S_pull_65 : decode prog_1_method_9_code 65 = .ok (.getfield 158, 3) := by decide +kernel
theorem d_S_pull_68 : decode prog_1_method_9_code 68 = .ok (.iconst 3, 1) := by decide +kernel
theorem d_S_pull_69 : decode prog_1_method_9_code 69 = .ok (.if_icmp .ne 16, 3) := by decide +kernel
theorem d_S_pull_72 : decode prog_1_method_9_code 72 = .ok (.aload 4, 2) := by decide +kernel
theorem d_S_pull_74 : decode prog_1_method_9_code 74 = .ok (.getfield 132, 3) := by decide +kernel
theorem d_S_pull_77 : decode prog_1_method_9_code 77 = .ok (.aload 5, 2) := by decide +kernel
theorem d_S_pull_79 : decode prog_1_method_9_code 79 = .ok (.getfield 132, 3) := by decide +kernel
theorem d_S_pull_82 : decode prog_1_method_9_code 82 = .ok (.if_icmp .eq 6, 3) := by decide +kernel
theorem d_S_pull_85 : decode prog_1_method_9_code 85 = .ok (.bipush (-4), 2) := by decide +kernel
theorem d_S_pull_87 : decode prog_1_method_9_code 87 = .ok (.ireturn, 1) := by decide +kernel
theorem d_S_pull_88 : decode prog_1_method_9_code 88 = .ok (.aload 4, 2) := by decide +kernel
theorem d_S_pull_90 : decode prog_1_method_9_code 90 = .ok (.new 163, 3) := by decide +kernel
theorem d_S_pull_93 : decode prog_1_method_9_code 93 = .ok (.dup, 1) := by decide +kernel
theorem d_S_pull_94 : decode prog_1_method_9_code 94 = .ok (.aload 4, 2) := by decide +kernel
theorem d_S_pull_96 : decode prog_1_method_9_code 96 = .ok (.getfield 127, 3) := by decide +kernel
theorem d_S_pull_99 : decode prog_1_method_9_code 99 = .ok (.iload_n 2, 1) := by decide +kernel
theorem d_S_pull_100 : decode prog_1_method_9_code 100 = .ok (.aload 4, 2) := by decide +kernel
theorem d_S_pull_102 : decode prog_1_method_9_code 102 = .ok (.getfield 132, 3) := by decide +kernel
theorem d_S_pull_105 : decode prog_1_method_9_code 105 = .ok (.aload 5, 2) := by decide +kernel
theorem d_S_pull_107 : decode prog_1_method_9_code 107 = .ok (.getfield 154, 3) := by decide +kernel
theorem d_S_pull_110 : decode prog_1_method_9_code 110 = .ok (.iload_n 2, 1) := by decide +kernel
theorem d_S_pull_111 : decode prog_1_method_9_code 111 = .ok (.aaload, 1) := by decide +kernel
theorem d_S_pull_112 : decode prog_1_method_9_code 112 = .ok (.invokespecial 165, 3) := by decide +kernel
theorem d_S_pull_115 : decode prog_1_method_9_code 115 = .ok (.invokevirtual 131, 3) := by decide +kernel
theorem d_S_pull_118 : decode prog_1_method_9_code 118 = .ok (.ireturn, 1) := by decide +kernel
theorem d_I_init_0 : decode prog_7_method_1_code 0 = .ok (.aload_n 0, 1) := by decide +kernel
theorem d_I_init_1 : decode prog_7_method_1_code 1 = .ok (.iload_n 1, 1) := by decide +kernel
theorem d_I_init_2 : decode prog_7_method_1_code 2 = .ok (.invokespecial 3, 3) := by decide +kernel
theorem d_I_init_5 : decode prog_7_method_1_code 5 = .ok (.aload_n 0, 1) := by decide +kernel
theorem d_I_init_6 : decode prog_7_method_1_code 6 = .ok (.new 9, 3) := by decide +kernel
theorem d_I_init_9 : decode prog_7_method_1_code 9 = .ok (.dup, 1) := by decide +kernel
theorem d_I_init_10 : decode prog_7_method_1_code 10 = .ok (.invokespecial 11, 3) := by decide +kernel
theorem d_I_init_13 : decode prog_7_method_1_code 13 = .ok (.putfield 14, 3) := by decide +kernel
theorem d_I_init_16 : decode prog_7_method_1_code 16 = .ok (.aload_n 0, 1) := by decide +kernel
theorem d_I_init_17 : decode prog_7_method_1_code 17 = .ok (.iload_n 2, 1) := by decide +kernel
theorem d_I_init_18 : decode prog_7_method_1_code 18 = .ok (.putfield 20, 3) := by decide +kernel
theorem d_I_init_21 : decode prog_7_method_1_code 21 = .ok (.aload_n 0, 1) := by decide +kernel
theorem d_I_init_22 : decode prog_7_method_1_code 22 = .ok (.iload_n 3, 1) := by decide +kernel
theorem d_I_init_23 : decode prog_7_method_1_code 23 = .ok (.putfield 24, 3) := by decide +kernel
theorem d_I_init_26 : decode prog_7_method_1_code 26 = .ok (.aload_n 0, 1) := by decide +kernel
theorem d_I_init_27 : decode prog_7_method_1_code 27 = .ok (.getfield 14, 3) := by decide +kernel
theorem d_I_init_30 : decode prog_7_method_1_code 30 = .ok (.aload 4, 2) := by decide +kernel
theorem d_I_init_32 : decode prog_7_method_1_code 32 = .ok (.invokevirtual 27, 3) := by decide +kernel
theorem d_I_init_35 : decode prog_7_method_1_code 35 = .ok (.return_, 1) := by decide +kernel
theorem d_S_confirm_0 : decode prog_1_method_10_code 0 = .ok (.aload_n 0, 1) := by decide +kernel
theorem d_S_confirm_1 : decode prog_1_method_10_code 1 = .ok (.iload_n 1, 1) := by decide +kernel
theorem d_S_confirm_2 : decode prog_1_method_10_code 2 = .ok (.invokevirtual 113, 3) := by decide +kernel
theorem d_S_confirm_5 : decode prog_1_method_10_code 5 = .ok (.astore 4, 2) := by decide +kernel
