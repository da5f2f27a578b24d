theorem d_M_elect_174 : decode prog_14_method_13_code 174 = .ok (.iconst 0, 1) := by decide +kernel
theorem d_M_elect_175 : decode prog_14_method_13_code 175 = .ok (.iconst 0, 1) := by decide +kernel
theorem d_M_elect_176 : decode prog_14_method_13_code 176 = .ok (.iconst 0, 1) := by decide +kernel
theorem d_M_elect_177 : decode prog_14_method_13_code 177 = .ok (.iconst 0, 1) := by decide +kernel
theorem d_M_elect_178 : decode prog_14_method_13_code 178 = .ok (.iconst 0, 1) := by decide +kernel
theorem d_M_elect_179 : decode prog_14_method_13_code 179 = .ok (.invokevirtual 66, 3) := by decide +kernel
theorem d_M_elect_182 : decode prog_14_method_13_code 182 = .ok (.aload_n 0, 1) := by decide +kernel
theorem d_M_elect_183 : decode prog_14_method_13_code 183 = .ok (.iload_n 1, 1) := by decide +kernel
theorem d_M_elect_184 : decode prog_14_method_13_code 184 = .ok (.invokevirtual 70, 3) := by decide +kernel
theorem d_M_elect_187 : decode prog_14_method_13_code 187 = .ok (.pop, 1) := by decide +kernel
theorem d_M_elect_188 : decode prog_14_method_13_code 188 = .ok (.iload_n 2, 1) := by decide +kernel
theorem d_M_elect_189 : decode prog_14_method_13_code 189 = .ok (.ireturn, 1) := by decide +kernel
theorem d_M_lastTerm_0 : decode prog_14_method_9_code 0 = .ok (.aload_n 0, 1) := by decide +kernel
theorem d_M_lastTerm_1 : decode prog_14_method_9_code 1 = .ok (.getfield 20, 3) := by decide +kernel
theorem d_M_lastTerm_4 : decode prog_14_method_9_code 4 = .ok (.iload_n 1, 1) := by decide +kernel
theorem d_M_lastTerm_5 : decode prog_14_method_9_code 5 = .ok (.iaload, 1) := by decide +kernel
theorem d_M_lastTerm_6 : decode prog_14_method_9_code 6 = .ok (.ifCond .ne 7, 3) := by decide +kernel
theorem d_M_lastTerm_9 : decode prog_14_method_9_code 9 = .ok (.iconst 0, 1) := by decide +kernel
theorem d_M_lastTerm_10 : decode prog_14_method_9_code 10 = .ok (.goto 16, 3) := by decide +kernel
theorem d_M_lastTerm_13 : decode prog_14_method_9_code 13 = .ok (.aload_n 0, 1) := by decide +kernel
theorem d_M_lastTerm_14 : decode prog_14_method_9_code 14 = .ok (.iload_n 1, 1) := by decide +kernel
theorem d_M_lastTerm_15 : decode prog_14_method_9_code 15 = .ok (.aload_n 0, 1) := by decide +kernel
theorem d_M_lastTerm_16 : decode prog_14_method_9_code 16 = .ok (.getfield 20, 3) := by decide +kernel
theorem d_M_lastTerm_19 : decode prog_14_method_9_code 19 = .ok (.iload_n 1, 1) := by decide +kernel
theorem d_M_lastTerm_20 : decode prog_14_method_9_code 20 = .ok (.iaload, 1) := by decide +kernel
theorem d_M_lastTerm_21 : decode prog_14_method_9_code 21 = .ok (.iconst 1, 1) := by decide +kernel
theorem d_M_lastTerm_22 : decode prog_14_method_9_code 22 = .ok (.isub, 1) := by decide +kernel
theorem d_M_lastTerm_23 : decode prog_14_method_9_code 23 = .ok (.invokevirtual 55, 3) := by decide +kernel
theorem d_M_lastTerm_26 : decode prog_14_method_9_code 26 = .ok (.ireturn, 1) := by decide +kernel
theorem d_M_termAt_0 : decode prog_14_method_8_code 0 = .ok (.aload_n 0, 1) := by decide +kernel
theorem d_M_termAt_1 : decode prog_14_method_8_code 1 = .ok (.getfield 26, 3) := by decide +kernel
theorem d_M_termAt_4 : decode prog_14_method_8_code 4 = .ok (.iload_n 1, 1) := by decide +kernel
theorem d_M_termAt_5 : decode prog_14_method_8_code 5 = .ok (.iload_n 2, 1) := by decide +kernel
theorem d_M_termAt_6 : decode prog_14_method_8_code 6 = .ok (.invokestatic 51, 3) := by decide +kernel
theorem d_M_termAt_9 : decode prog_14_method_8_code 9 = .ok (.iaload, 1) := by decide +kernel
theorem d_M_termAt_10 : decode prog_14_method_8_code 10 = .ok (.ireturn, 1) := by decide +kernel
theorem d_M_place_0 : decode prog_14_method_7_code 0 = .ok (.bipush 15, 2) := by decide +kernel
theorem d_M_place_2 : decode prog_14_method_7_code 2 = .ok (.bipush 80, 2) := by decide +kernel
theorem d_M_place_4 : decode prog_14_method_7_code 4 = .ok (.iload_n 0, 1) := by decide +kernel
theorem d_M_place_5 : decode prog_14_method_7_code 5 = .ok (.imul, 1) := by decide +kernel
theorem d_M_place_6 : decode prog_14_method_7_code 6 = .ok (.iload_n 1, 1) := by decide +kernel
theorem d_M_place_7 : decode prog_14_method_7_code 7 = .ok (.iadd, 1) := by decide +kernel
theorem d_M_place_8 : decode prog_14_method_7_code 8 = .ok (.imul, 1) := by decide +kernel
theorem d_M_place_9 : decode prog_14_method_7_code 9 = .ok (.ireturn, 1) := by decide +kernel
theorem d_M_raise_0 : decode prog_14_method_10_code 0 = .ok (.aload_n 0, 1) := by decide +kernel
theorem d_M_raise_1 : decode prog_14_method_10_code 1 = .ok (.getfield 13, 3) := by decide +kernel
theorem d_M_raise_4 : decode prog_14_method_10_code 4 = .ok (.iload_n 1, 1) := by decide +kernel
theorem d_M_raise_5 : decode prog_14_method_10_code 5 = .ok (.aload_n 0, 1) := by decide +kernel
theorem d_M_raise_6 : decode prog_14_method_10_code 6 = .ok (.getfield 13, 3) := by decide +kernel
theorem d_M_raise_9 : decode prog_14_method_10_code 9 = .ok (.iload_n 1, 1) := by decide +kernel
theorem d_M_raise_10 : decode prog_14_method_10_code 10 = .ok (.baload, 1) := by decide +kernel
theorem d_M_raise_11 : decode prog_14_method_10_code 11 = .ok (.ifCond .eq 17, 3) := by decide +kernel
theorem d_M_raise_14 : decode prog_14_method_10_code 14 = .ok (.aload_n 0, 1) := by decide +kernel
theorem d_M_raise_15 : decode prog_14_method_10_code 15 = .ok (.getfield 16, 3) := by decide +kernel
theorem d_M_raise_18 : decode prog_14_method_10_code 18 = .ok (.iload_n 1, 1) := by decide +kernel
theorem d_M_raise_19 : decode prog_14_method_10_code 19 = .ok (.iaload, 1) := by decide +kernel
theorem d_M_raise_20 : decode prog_14_method_10_code 20 = .ok (.iload_n 2, 1) := by decide +kernel
theorem d_M_raise_21 : decode prog_14_method_10_code 21 = .ok (.if_icmp .ne 7, 3) := by decide +kernel
theorem d_M_raise_24 : decode prog_14_method_10_code 24 = .ok (.iconst 1, 1) := by decide +kernel
theorem d_M_raise_25 : decode prog_14_method_10_code 25 = .ok (.goto 4, 3) := by decide +kernel
theorem d_M_raise_28 : decode prog_14_method_10_code 28 = .ok (.iconst 0, 1) := by decide +kernel
theorem d_M_raise_29 : decode prog_14_method_10_code 29 = .ok (.bastore, 1) := by decide +kernel
theorem d_M_raise_30 : decode prog_14_method_10_code 30 = .ok (.aload_n 0, 1) := by decide +kernel
theorem d_M_raise_31 : decode prog_14_method_10_code 31 = .ok (.getfield 16, 3) := by decide +kernel
theorem d_M_raise_34 : decode prog_14_method_10_code 34 = .ok (.iload_n 1, 1) := by decide +kernel
theorem d_M_raise_35 : decode prog_14_method_10_code 35 = .ok (.iload_n 2, 1) := by decide +kernel
theorem d_M_raise_36 : decode prog_14_method_10_code 36 = .ok (.iastore, 1) := by decide +kernel
theorem d_M_raise_37 : decode prog_14_method_10_code 37 = .ok (.return_, 1) := by decide +kernel
theorem d_M_say_0 : decode prog_14_method_11_code 0 = .ok (.iconst 0, 1) := by decide +kernel
theorem d_M_say_1 : decode prog_14_method_11_code 1 = .ok (.istore 7, 2) := by decide +kernel
theorem d_M_say_3 : decode prog_14_method_11_code 3 = .ok (.iload 7, 2) := by decide +kernel
theorem d_M_say_5 : decode prog_14_method_11_code 5 = .ok (.bipush 15, 2) := by decide +kernel
theorem d_M_say_7 : decode prog_14_method_11_code 7 = .ok (.if_icmp .ge 17, 3) := by decide +kernel
theorem d_M_say_10 : decode prog_14_method_11_code 10 = .ok (.aload_n 0, 1) := by decide +kernel
theorem d_M_say_11 : decode prog_14_method_11_code 11 = .ok (.getfield 29, 3) := by decide +kernel
theorem d_M_say_14 : decode prog_14_method_11_code 14 = .ok (.iload 7, 2) := by decide +kernel
theorem d_M_say_16 : decode prog_14_method_11_code 16 = .ok (.iconst 0, 1) := by decide +kernel
theorem d_M_say_17 : decode prog_14_method_11_code 17 = .ok (.iastore, 1) := by decide +kernel
theorem d_M_say_18 : decode prog_14_method_11_code 18 = .ok (.iinc 7 1, 3) := by decide +kernel
theorem d_M_say_21 : decode prog_14_method_11_code 21 = .ok (.goto (-18), 3) := by decide +kernel
theorem d_M_say_24 : decode prog_14_method_11_code 24 = .ok (.aload_n 0, 1) := by decide +kernel
theorem d_M_say_25 : decode prog_14_method_11_code 25 = .ok (.getfield 29, 3) := by decide +kernel
theorem d_M_say_28 : decode prog_14_method_11_code 28 = .ok (.iconst 1, 1) := by decide +kernel
theorem d_M_say_29 : decode prog_14_method_11_code 29 = .ok (.iload_n 1, 1) := by decide +kernel
theorem d_M_say_30 : decode prog_14_method_11_code 30 = .ok (.iastore, 1) := by decide +kernel
theorem d_M_say_31 : decode prog_14_method_11_code 31 = .ok (.aload_n 0, 1) := by decide +kernel
theorem d_M_say_32 : decode prog_14_method_11_code 32 = .ok (.getfield 29, 3) := by decide +kernel
theorem d_M_say_35 : decode prog_14_method_11_code 35 = .ok (.iconst 2, 1) := by decide +kernel
theorem d_M_say_36 : decode prog_14_method_11_code 36 = .ok (.iload_n 2, 1) := by decide +kernel
theorem d_M_say_37 : decode prog_14_method_11_code 37 = .ok (.iastore, 1) := by decide +kernel
theorem d_M_say_38 : decode prog_14_method_11_code 38 = .ok (.aload_n 0, 1) := by decide +kernel
theorem d_M_say_39 : decode prog_14_method_11_code 39 = .ok (.getfield 29, 3) := by decide +kernel
theorem d_M_say_42 : decode prog_14_method_11_code 42 = .ok (.iconst 3, 1) := by decide +kernel
theorem d_M_say_43 : decode prog_14_method_11_code 43 = .ok (.iload_n 3, 1) := by decide +kernel
theorem d_M_say_44 : decode prog_14_method_11_code 44 = .ok (.iastore, 1) := by decide +kernel
theorem d_M_say_45 : decode prog_14_method_11_code 45 = .ok (.aload_n 0, 1) := by decide +kernel
theorem d_M_say_46 : decode prog_14_method_11_code 46 = .ok (.getfield 29, 3) := by decide +kernel
theorem d_M_say_49 : decode prog_14_method_11_code 49 = .ok (.iconst 4, 1) := by decide +kernel
theorem d_M_say_50 : decode prog_14_method_11_code 50 = .ok (.iload 4, 2) := by decide +kernel
theorem d_M_say_52 : decode prog_14_method_11_code 52 = .ok (.iastore, 1) := by decide +kernel
theorem d_M_say_53 : decode prog_14_method_11_code 53 = .ok (.aload_n 0, 1) := by decide +kernel
theorem d_M_say_54 : decode prog_14_method_11_code 54 = .ok (.getfield 29, 3) := by decide +kernel
theorem d_M_say_57 : decode prog_14_method_11_code 57 = .ok (.iconst 5, 1) := by decide +kernel
theorem d_M_say_58 : decode prog_14_method_11_code 58 = .ok (.iload 5, 2) := by decide +kernel
theorem d_M_say_60 : decode prog_14_method_11_code 60 = .ok (.iastore, 1) := by decide +kernel
theorem d_M_say_61 : decode prog_14_method_11_code 61 = .ok (.aload_n 0, 1) := by decide +kernel
theorem d_M_say_62 : decode prog_14_method_11_code 62 = .ok (.getfield 29, 3) := by decide +kernel
theorem d_M_say_65 : decode prog_14_method_11_code 65 = .ok (.bipush 6, 2) := by decide +kernel
theorem d_M_say_67 : decode prog_14_method_11_code 67 = .ok (.iload 6, 2) := by decide +kernel
theorem d_M_say_69 : decode prog_14_method_11_code 69 = .ok (.iastore, 1) := by decide +kernel
theorem d_M_say_70 : decode prog_14_method_11_code 70 = .ok (.return_, 1) := by decide +kernel
theorem d_M_write_0 : decode prog_14_method_12_code 0 = .ok (.aload_n 0, 1) := by decide +kernel
theorem d_M_write_1 : decode prog_14_method_12_code 1 = .ok (.getfield 20, 3) := by decide +kernel
theorem d_M_write_4 : decode prog_14_method_12_code 4 = .ok (.iload_n 1, 1) := by decide +kernel
theorem d_M_write_5 : decode prog_14_method_12_code 5 = .ok (.iaload, 1) := by decide +kernel
theorem d_M_write_6 : decode prog_14_method_12_code 6 = .ok (.bipush 80, 2) := by decide +kernel
theorem d_M_write_8 : decode prog_14_method_12_code 8 = .ok (.if_icmp .ne 6, 3) := by decide +kernel
theorem d_M_write_11 : decode prog_14_method_12_code 11 = .ok (.bipush (-3), 2) := by decide +kernel
theorem d_M_write_13 : decode prog_14_method_12_code 13 = .ok (.ireturn, 1) := by decide +kernel
theorem d_M_write_14 : decode prog_14_method_12_code 14 = .ok (.aload_n 0, 1) := by decide +kernel
theorem d_M_write_15 : decode prog_14_method_12_code 15 = .ok (.getfield 29, 3) := by decide +kernel
theorem d_M_write_18 : decode prog_14_method_12_code 18 = .ok (.iconst 0, 1) := by decide +kernel
theorem d_M_write_19 : decode prog_14_method_12_code 19 = .ok (.aload_n 0, 1) := by decide +kernel
theorem d_M_write_20 : decode prog_14_method_12_code 20 = .ok (.getfield 16, 3) := by decide +kernel
theorem d_M_write_23 : decode prog_14_method_12_code 23 = .ok (.iload_n 1, 1) := by decide +kernel
theorem d_M_write_24 : decode prog_14_method_12_code 24 = .ok (.iaload, 1) := by decide +kernel
theorem d_M_write_25 : decode prog_14_method_12_code 25 = .ok (.iastore, 1) := by decide +kernel
theorem d_M_write_26 : decode prog_14_method_12_code 26 = .ok (.iconst 0, 1) := by decide +kernel
theorem d_M_write_27 : decode prog_14_method_12_code 27 = .ok (.istore_n 2, 1) := by decide +kernel
theorem d_M_write_28 : decode prog_14_method_12_code 28 = .ok (.iload_n 2, 1) := by decide +kernel
theorem d_M_write_29 : decode prog_14_method_12_code 29 = .ok (.bipush 15, 2) := by decide +kernel
theorem d_M_write_31 : decode prog_14_method_12_code 31 = .ok (.if_icmp .ge 32, 3) := by decide +kernel
theorem d_M_write_34 : decode prog_14_method_12_code 34 = .ok (.aload_n 0, 1) := by decide +kernel
theorem d_M_write_35 : decode prog_14_method_12_code 35 = .ok (.getfield 26, 3) := by decide +kernel
theorem d_M_write_38 : decode prog_14_method_12_code 38 = .ok (.iload_n 1, 1) := by decide +kernel
theorem d_M_write_39 : decode prog_14_method_12_code 39 = .ok (.aload_n 0, 1) := by decide +kernel
theorem d_M_write_40 : decode prog_14_method_12_code 40 = .ok (.getfield 20, 3) := by decide +kernel
theorem d_M_write_43 : decode prog_14_method_12_code 43 = .ok (.iload_n 1, 1) := by decide +kernel
theorem d_M_write_44 : decode prog_14_method_12_code 44 = .ok (.iaload, 1) := by decide +kernel
theorem d_M_write_45 : decode prog_14_method_12_code 45 = .ok (.invokestatic 51, 3) := by decide +kernel
theorem d_M_write_48 : decode prog_14_method_12_code 48 = .ok (.iload_n 2, 1) := by decide +kernel
theorem d_M_write_49 : decode prog_14_method_12_code 49 = .ok (.iadd, 1) := by decide +kernel
theorem d_M_write_50 : decode prog_14_method_12_code 50 = .ok (.aload_n 0, 1) := by decide +kernel
theorem d_M_write_51 : decode prog_14_method_12_code 51 = .ok (.getfield 29, 3) := by decide +kernel
theorem d_M_write_54 : decode prog_14_method_12_code 54 = .ok (.iload_n 2, 1) := by decide +kernel
theorem d_M_write_55 : decode prog_14_method_12_code 55 = .ok (.iaload, 1) := by decide +kernel
theorem d_M_write_56 : decode prog_14_method_12_code 56 = .ok (.iastore, 1) := by decide +kernel
theorem d_M_write_57 : decode prog_14_method_12_code 57 = .ok (.iinc 2 1, 3) := by decide +kernel
theorem d_M_write_60 : decode prog_14_method_12_code 60 = .ok (.goto (-32), 3) := by decide +kernel
theorem d_M_write_63 : decode prog_14_method_12_code 63 = .ok (.aload_n 0, 1) := by decide +kernel
theorem d_M_write_64 : decode prog_14_method_12_code 64 = .ok (.getfield 20, 3) := by decide +kernel
theorem d_M_write_67 : decode prog_14_method_12_code 67 = .ok (.iload_n 1, 1) := by decide +kernel
theorem d_M_write_68 : decode prog_14_method_12_code 68 = .ok (.dup2, 1) := by decide +kernel
theorem d_M_write_69 : decode prog_14_method_12_code 69 = .ok (.iaload, 1) := by decide +kernel
theorem d_M_write_70 : decode prog_14_method_12_code 70 = .ok (.iconst 1, 1) := by decide +kernel
theorem d_M_write_71 : decode prog_14_method_12_code 71 = .ok (.iadd, 1) := by decide +kernel
theorem d_M_write_72 : decode prog_14_method_12_code 72 = .ok (.iastore, 1) := by decide +kernel
theorem d_M_write_73 : decode prog_14_method_12_code 73 = .ok (.aload_n 0, 1) := by decide +kernel
theorem d_M_write_74 : decode prog_14_method_12_code 74 = .ok (.getfield 20, 3) := by decide +kernel
theorem d_M_write_77 : decode prog_14_method_12_code 77 = .ok (.iload_n 1, 1) := by decide +kernel
theorem d_M_write_78 : decode prog_14_method_12_code 78 = .ok (.iaload, 1) := by decide +kernel
theorem d_M_write_79 : decode prog_14_method_12_code 79 = .ok (.ireturn, 1) := by decide +kernel
theorem d_M_ship_0 : decode prog_14_method_15_code 0 = .ok (.iload_n 1, 1) := by decide +kernel
theorem d_M_ship_1 : decode prog_14_method_15_code 1 = .ok (.bipush 12, 2) := by decide +kernel
theorem d_M_ship_3 : decode prog_14_method_15_code 3 = .ok (.invokestatic 47, 3) := by decide +kernel
theorem d_M_ship_6 : decode prog_14_method_15_code 6 = .ok (.ifCond .eq 44, 3) := by decide +kernel
theorem d_M_ship_9 : decode prog_14_method_15_code 9 = .ok (.iload_n 2, 1) := by decide +kernel
theorem d_M_ship_10 : decode prog_14_method_15_code 10 = .ok (.bipush 12, 2) := by decide +kernel
theorem d_M_ship_12 : decode prog_14_method_15_code 12 = .ok (.invokestatic 47, 3) := by decide +kernel
theorem d_M_ship_15 : decode prog_14_method_15_code 15 = .ok (.ifCond .eq 35, 3) := by decide +kernel
theorem d_M_ship_18 : decode prog_14_method_15_code 18 = .ok (.iload_n 1, 1) := by decide +kernel
theorem d_M_ship_19 : decode prog_14_method_15_code 19 = .ok (.iload_n 2, 1) := by decide +kernel
theorem d_M_ship_20 : decode prog_14_method_15_code 20 = .ok (.if_icmp .eq 30, 3) := by decide +kernel
theorem d_M_ship_23 : decode prog_14_method_15_code 23 = .ok (.iload_n 1, 1) := by decide +kernel
theorem d_M_ship_24 : decode prog_14_method_15_code 24 = .ok (.iconst 3, 1) := by decide +kernel
theorem d_M_ship_25 : decode prog_14_method_15_code 25 = .ok (.idiv, 1) := by decide +kernel
theorem d_M_ship_26 : decode prog_14_method_15_code 26 = .ok (.iload_n 2, 1) := by decide +kernel
theorem d_M_ship_27 : decode prog_14_method_15_code 27 = .ok (.iconst 3, 1) := by decide +kernel
theorem d_M_ship_28 : decode prog_14_method_15_code 28 = .ok (.idiv, 1) := by decide +kernel
theorem d_M_ship_29 : decode prog_14_method_15_code 29 = .ok (.if_icmp .ne 21, 3) := by decide +kernel
theorem d_M_ship_32 : decode prog_14_method_15_code 32 = .ok (.aload_n 0, 1) := by decide +kernel
theorem d_M_ship_33 : decode prog_14_method_15_code 33 = .ok (.getfield 7, 3) := by decide +kernel
theorem d_M_ship_36 : decode prog_14_method_15_code 36 = .ok (.iload_n 1, 1) := by decide +kernel
theorem d_M_ship_37 : decode prog_14_method_15_code 37 = .ok (.baload, 1) := by decide +kernel
theorem d_M_ship_38 : decode prog_14_method_15_code 38 = .ok (.ifCond .ne 12, 3) := by decide +kernel
theorem d_M_ship_41 : decode prog_14_method_15_code 41 = .ok (.aload_n 0, 1) := by decide +kernel
theorem d_M_ship_42 : decode prog_14_method_15_code 42 = .ok (.getfield 7, 3) := by decide +kernel
theorem d_M_ship_45 : decode prog_14_method_15_code 45 = .ok (.iload_n 2, 1) := by decide +kernel
theorem d_M_ship_46 : decode prog_14_method_15_code 46 = .ok (.baload, 1) := by decide +kernel
theorem d_M_ship_47 : decode prog_14_method_15_code 47 = .ok (.ifCond .eq 5, 3) := by decide +kernel
theorem d_M_ship_50 : decode prog_14_method_15_code 50 = .ok (.iconst (-1), 1) := by decide +kernel
theorem d_M_ship_51 : decode prog_14_method_15_code 51 = .ok (.ireturn, 1) := by decide +kernel
theorem d_M_ship_52 : decode prog_14_method_15_code 52 = .ok (.aload_n 0, 1) := by decide +kernel
theorem d_M_ship_53 : decode prog_14_method_15_code 53 = .ok (.getfield 13, 3) := by decide +kernel
theorem d_M_ship_56 : decode prog_14_method_15_code 56 = .ok (.iload_n 1, 1) := by decide +kernel
theorem d_M_ship_57 : decode prog_14_method_15_code 57 = .ok (.baload, 1) := by decide +kernel
theorem d_M_ship_58 : decode prog_14_method_15_code 58 = .ok (.ifCond .ne 6, 3) := by decide +kernel
theorem d_M_ship_61 : decode prog_14_method_15_code 61 = .ok (.bipush (-2), 2) := by decide +kernel
theorem d_M_ship_63 : decode prog_14_method_15_code 63 = .ok (.ireturn, 1) := by decide +kernel
theorem d_M_ship_64 : decode prog_14_method_15_code 64 = .ok (.aload_n 0, 1) := by decide +kernel
theorem d_M_ship_65 : decode prog_14_method_15_code 65 = .ok (.getfield 16, 3) := by decide +kernel
theorem d_M_ship_68 : decode prog_14_method_15_code 68 = .ok (.iload_n 2, 1) := by decide +kernel
theorem d_M_ship_69 : decode prog_14_method_15_code 69 = .ok (.iaload, 1) := by decide +kernel
theorem d_M_ship_70 : decode prog_14_method_15_code 70 = .ok (.aload_n 0, 1) := by decide +kernel
theorem d_M_ship_71 : decode prog_14_method_15_code 71 = .ok (.getfield 16, 3) := by decide +kernel
theorem d_M_ship_74 : decode prog_14_method_15_code 74 = .ok (.iload_n 1, 1) := by decide +kernel
theorem d_M_ship_75 : decode prog_14_method_15_code 75 = .ok (.iaload, 1) := by decide +kernel
theorem d_M_ship_76 : decode prog_14_method_15_code 76 = .ok (.if_icmp .le 13, 3) := by decide +kernel
theorem d_M_ship_79 : decode prog_14_method_15_code 79 = .ok (.aload_n 0, 1) := by decide +kernel
theorem d_M_ship_80 : decode prog_14_method_15_code 80 = .ok (.getfield 13, 3) := by decide +kernel
theorem d_M_ship_83 : decode prog_14_method_15_code 83 = .ok (.iload_n 1, 1) := by decide +kernel
theorem d_M_ship_84 : decode prog_14_method_15_code 84 = .ok (.iconst 0, 1) := by decide +kernel
theorem d_M_ship_85 : decode prog_14_method_15_code 85 = .ok (.bastore, 1) := by decide +kernel
theorem d_M_ship_86 : decode prog_14_method_15_code 86 = .ok (.bipush (-5), 2) := by decide +kernel
theorem d_M_ship_88 : decode prog_14_method_15_code 88 = .ok (.ireturn, 1) := by decide +kernel
theorem d_M_ship_89 : decode prog_14_method_15_code 89 = .ok (.aload_n 0, 1) := by decide +kernel
theorem d_M_ship_90 : decode prog_14_method_15_code 90 = .ok (.iload_n 2, 1) := by decide +kernel
theorem d_M_ship_91 : decode prog_14_method_15_code 91 = .ok (.aload_n 0, 1) := by decide +kernel
theorem d_M_ship_92 : decode prog_14_method_15_code 92 = .ok (.getfield 16, 3) := by decide +kernel
theorem d_M_ship_95 : decode prog_14_method_15_code 95 = .ok (.iload_n 1, 1) := by decide +kernel
theorem d_M_ship_96 : decode prog_14_method_15_code 96 = .ok (.iaload, 1) := by decide +kernel
theorem d_M_ship_97 : decode prog_14_method_15_code 97 = .ok (.invokevirtual 62, 3) := by decide +kernel
theorem d_M_ship_100 : decode prog_14_method_15_code 100 = .ok (.iconst 0, 1) := by decide +kernel
theorem d_M_ship_101 : decode prog_14_method_15_code 101 = .ok (.istore_n 3, 1) := by decide +kernel
theorem d_M_ship_102 : decode prog_14_method_15_code 102 = .ok (.iload_n 3, 1) := by decide +kernel
theorem d_M_ship_103 : decode prog_14_method_15_code 103 = .ok (.aload_n 0, 1) := by decide +kernel
theorem d_M_ship_104 : decode prog_14_method_15_code 104 = .ok (.getfield 20, 3) := by decide +kernel
theorem d_M_ship_107 : decode prog_14_method_15_code 107 = .ok (.iload_n 1, 1) := by decide +kernel
theorem d_M_ship_108 : decode prog_14_method_15_code 108 = .ok (.iaload, 1) := by decide +kernel
theorem d_M_ship_109 : decode prog_14_method_15_code 109 = .ok (.if_icmp .ge 34, 3) := by decide +kernel
theorem d_M_ship_112 : decode prog_14_method_15_code 112 = .ok (.iload_n 3, 1) := by decide +kernel
theorem d_M_ship_113 : decode prog_14_method_15_code 113 = .ok (.aload_n 0, 1) := by decide +kernel
theorem d_M_ship_114 : decode prog_14_method_15_code 114 = .ok (.getfield 20, 3) := by decide +kernel
theorem d_M_ship_117 : decode prog_14_method_15_code 117 = .ok (.iload_n 2, 1) := by decide +kernel
theorem d_M_ship_118 : decode prog_14_method_15_code 118 = .ok (.iaload, 1) := by decide +kernel
theorem d_M_ship_119 : decode prog_14_method_15_code 119 = .ok (.if_icmp .ge 24, 3) := by decide +kernel
theorem d_M_ship_122 : decode prog_14_method_15_code 122 = .ok (.aload_n 0, 1) := by decide +kernel
theorem d_M_ship_123 : decode prog_14_method_15_code 123 = .ok (.iload_n 1, 1) := by decide +kernel
theorem d_M_ship_124 : decode prog_14_method_15_code 124 = .ok (.iload_n 3, 1) := by decide +kernel
theorem d_M_ship_125 : decode prog_14_method_15_code 125 = .ok (.invokevirtual 55, 3) := by decide +kernel
theorem d_M_ship_128 : decode prog_14_method_15_code 128 = .ok (.aload_n 0, 1) := by decide +kernel
theorem d_M_ship_129 : decode prog_14_method_15_code 129 = .ok (.iload_n 2, 1) := by decide +kernel
theorem d_M_ship_130 : decode prog_14_method_15_code 130 = .ok (.iload_n 3, 1) := by decide +kernel
theorem d_M_ship_131 : decode prog_14_method_15_code 131 = .ok (.invokevirtual 55, 3) := by decide +kernel
theorem d_M_ship_134 : decode prog_14_method_15_code 134 = .ok (.if_icmp .ne 9, 3) := by decide +kernel
theorem d_M_ship_137 : decode prog_14_method_15_code 137 = .ok (.iinc 3 1, 3) := by decide +kernel
theorem d_M_ship_140 : decode prog_14_method_15_code 140 = .ok (.goto (-38), 3) := by decide +kernel
theorem d_M_ship_143 : decode prog_14_method_15_code 143 = .ok (.aload_n 0, 1) := by decide +kernel
theorem d_M_ship_144 : decode prog_14_method_15_code 144 = .ok (.getfield 20, 3) := by decide +kernel
theorem d_M_ship_147 : decode prog_14_method_15_code 147 = .ok (.iload_n 2, 1) := by decide +kernel
