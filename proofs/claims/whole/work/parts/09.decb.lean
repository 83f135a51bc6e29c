/-! ===== decode rows, by wip/whole/gen09.py ===== -/
theorem dX8_begin_0 : decode prog_10_method_2_code 0 = .ok (.aload_n 0, 1) := by decide +kernel
theorem dX8_begin_1 : decode prog_10_method_2_code 1 = .ok (.iload_n 1, 1) := by decide +kernel
theorem dX8_begin_2 : decode prog_10_method_2_code 2 = .ok (.putfield 9, 3) := by decide +kernel
theorem dX8_begin_5 : decode prog_10_method_2_code 5 = .ok (.aload_n 0, 1) := by decide +kernel
theorem dX8_begin_6 : decode prog_10_method_2_code 6 = .ok (.iload_n 2, 1) := by decide +kernel
theorem dX8_begin_7 : decode prog_10_method_2_code 7 = .ok (.putfield 15, 3) := by decide +kernel
theorem dX8_begin_10 : decode prog_10_method_2_code 10 = .ok (.aload_n 0, 1) := by decide +kernel
theorem dX8_begin_11 : decode prog_10_method_2_code 11 = .ok (.iconst (-1), 1) := by decide +kernel
theorem dX8_begin_12 : decode prog_10_method_2_code 12 = .ok (.putfield 18, 3) := by decide +kernel
theorem dX8_begin_15 : decode prog_10_method_2_code 15 = .ok (.aload_n 0, 1) := by decide +kernel
theorem dX8_begin_16 : decode prog_10_method_2_code 16 = .ok (.iconst (-1), 1) := by decide +kernel
theorem dX8_begin_17 : decode prog_10_method_2_code 17 = .ok (.putfield 21, 3) := by decide +kernel
theorem dX8_begin_20 : decode prog_10_method_2_code 20 = .ok (.aload_n 0, 1) := by decide +kernel
theorem dX8_begin_21 : decode prog_10_method_2_code 21 = .ok (.iconst 0, 1) := by decide +kernel
theorem dX8_begin_22 : decode prog_10_method_2_code 22 = .ok (.putfield 24, 3) := by decide +kernel
theorem dX8_begin_25 : decode prog_10_method_2_code 25 = .ok (.aload_n 0, 1) := by decide +kernel
theorem dX8_begin_26 : decode prog_10_method_2_code 26 = .ok (.iconst 0, 1) := by decide +kernel
theorem dX8_begin_27 : decode prog_10_method_2_code 27 = .ok (.putfield 27, 3) := by decide +kernel
theorem dX8_begin_30 : decode prog_10_method_2_code 30 = .ok (.aload_n 0, 1) := by decide +kernel
theorem dX8_begin_31 : decode prog_10_method_2_code 31 = .ok (.iconst (-1), 1) := by decide +kernel
theorem dX8_begin_32 : decode prog_10_method_2_code 32 = .ok (.putfield 31, 3) := by decide +kernel
theorem dX8_begin_35 : decode prog_10_method_2_code 35 = .ok (.aload_n 0, 1) := by decide +kernel
theorem dX8_begin_36 : decode prog_10_method_2_code 36 = .ok (.iconst 0, 1) := by decide +kernel
theorem dX8_begin_37 : decode prog_10_method_2_code 37 = .ok (.putfield 34, 3) := by decide +kernel
theorem dX8_begin_40 : decode prog_10_method_2_code 40 = .ok (.aload_n 0, 1) := by decide +kernel
theorem dX8_begin_41 : decode prog_10_method_2_code 41 = .ok (.iconst 0, 1) := by decide +kernel
theorem dX8_begin_42 : decode prog_10_method_2_code 42 = .ok (.putfield 37, 3) := by decide +kernel
theorem dX8_begin_45 : decode prog_10_method_2_code 45 = .ok (.aload_n 0, 1) := by decide +kernel
theorem dX8_begin_46 : decode prog_10_method_2_code 46 = .ok (.iconst 0, 1) := by decide +kernel
theorem dX8_begin_47 : decode prog_10_method_2_code 47 = .ok (.putfield 40, 3) := by decide +kernel
theorem dX8_begin_50 : decode prog_10_method_2_code 50 = .ok (.iconst 0, 1) := by decide +kernel
theorem dX8_begin_51 : decode prog_10_method_2_code 51 = .ok (.istore_n 3, 1) := by decide +kernel
theorem dX8_begin_52 : decode prog_10_method_2_code 52 = .ok (.iload_n 3, 1) := by decide +kernel
theorem dX8_begin_53 : decode prog_10_method_2_code 53 = .ok (.aload_n 0, 1) := by decide +kernel
theorem dX8_begin_54 : decode prog_10_method_2_code 54 = .ok (.getfield 56, 3) := by decide +kernel
theorem dX8_begin_57 : decode prog_10_method_2_code 57 = .ok (.getfield 60, 3) := by decide +kernel
theorem dX8_begin_60 : decode prog_10_method_2_code 60 = .ok (.getfield 66, 3) := by decide +kernel
theorem dX8_begin_63 : decode prog_10_method_2_code 63 = .ok (.if_icmp .ge 43, 3) := by decide +kernel
theorem dX8_begin_66 : decode prog_10_method_2_code 66 = .ok (.aload_n 0, 1) := by decide +kernel
theorem dX8_begin_67 : decode prog_10_method_2_code 67 = .ok (.getfield 43, 3) := by decide +kernel
theorem dX8_begin_70 : decode prog_10_method_2_code 70 = .ok (.iload_n 3, 1) := by decide +kernel
theorem dX8_begin_71 : decode prog_10_method_2_code 71 = .ok (.iconst 0, 1) := by decide +kernel
theorem dX8_begin_72 : decode prog_10_method_2_code 72 = .ok (.iastore, 1) := by decide +kernel
theorem dX8_begin_73 : decode prog_10_method_2_code 73 = .ok (.aload_n 0, 1) := by decide +kernel
theorem dX8_begin_74 : decode prog_10_method_2_code 74 = .ok (.getfield 47, 3) := by decide +kernel
theorem dX8_begin_77 : decode prog_10_method_2_code 77 = .ok (.iload_n 3, 1) := by decide +kernel
theorem dX8_begin_78 : decode prog_10_method_2_code 78 = .ok (.aload_n 0, 1) := by decide +kernel
theorem dX8_begin_79 : decode prog_10_method_2_code 79 = .ok (.getfield 56, 3) := by decide +kernel
theorem dX8_begin_82 : decode prog_10_method_2_code 82 = .ok (.getfield 60, 3) := by decide +kernel
theorem dX8_begin_85 : decode prog_10_method_2_code 85 = .ok (.getfield 71, 3) := by decide +kernel
theorem dX8_begin_88 : decode prog_10_method_2_code 88 = .ok (.iload_n 3, 1) := by decide +kernel
theorem dX8_begin_89 : decode prog_10_method_2_code 89 = .ok (.aaload, 1) := by decide +kernel
theorem dX8_begin_90 : decode prog_10_method_2_code 90 = .ok (.iconst 3, 1) := by decide +kernel
theorem dX8_begin_91 : decode prog_10_method_2_code 91 = .ok (.iaload, 1) := by decide +kernel
theorem dX8_begin_92 : decode prog_10_method_2_code 92 = .ok (.iastore, 1) := by decide +kernel
theorem dX8_begin_93 : decode prog_10_method_2_code 93 = .ok (.aload_n 0, 1) := by decide +kernel
theorem dX8_begin_94 : decode prog_10_method_2_code 94 = .ok (.getfield 50, 3) := by decide +kernel
theorem dX8_begin_97 : decode prog_10_method_2_code 97 = .ok (.iload_n 3, 1) := by decide +kernel
theorem dX8_begin_98 : decode prog_10_method_2_code 98 = .ok (.iconst 0, 1) := by decide +kernel
theorem dX8_begin_99 : decode prog_10_method_2_code 99 = .ok (.iastore, 1) := by decide +kernel
theorem dX8_begin_100 : decode prog_10_method_2_code 100 = .ok (.iinc 3 1, 3) := by decide +kernel
theorem dX8_begin_103 : decode prog_10_method_2_code 103 = .ok (.goto (-51), 3) := by decide +kernel
theorem dX8_begin_106 : decode prog_10_method_2_code 106 = .ok (.return_, 1) := by decide +kernel
theorem dX8_passYears_0 : decode prog_10_method_3_code 0 = .ok (.iconst 0, 1) := by decide +kernel
theorem dX8_passYears_1 : decode prog_10_method_3_code 1 = .ok (.istore_n 1, 1) := by decide +kernel
theorem dX8_passYears_2 : decode prog_10_method_3_code 2 = .ok (.iload_n 1, 1) := by decide +kernel
theorem dX8_passYears_3 : decode prog_10_method_3_code 3 = .ok (.aload_n 0, 1) := by decide +kernel
theorem dX8_passYears_4 : decode prog_10_method_3_code 4 = .ok (.getfield 56, 3) := by decide +kernel
theorem dX8_passYears_7 : decode prog_10_method_3_code 7 = .ok (.getfield 60, 3) := by decide +kernel
theorem dX8_passYears_10 : decode prog_10_method_3_code 10 = .ok (.getfield 75, 3) := by decide +kernel
theorem dX8_passYears_13 : decode prog_10_method_3_code 13 = .ok (.if_icmp .ge 14, 3) := by decide +kernel
theorem dX8_passYears_16 : decode prog_10_method_3_code 16 = .ok (.aload_n 0, 1) := by decide +kernel
theorem dX8_passYears_17 : decode prog_10_method_3_code 17 = .ok (.iload_n 1, 1) := by decide +kernel
theorem dX8_passYears_18 : decode prog_10_method_3_code 18 = .ok (.invokevirtual 78, 3) := by decide +kernel
theorem dX8_passYears_21 : decode prog_10_method_3_code 21 = .ok (.iinc 1 1, 3) := by decide +kernel
theorem dX8_passYears_24 : decode prog_10_method_3_code 24 = .ok (.goto (-22), 3) := by decide +kernel
theorem dX8_passYears_27 : decode prog_10_method_3_code 27 = .ok (.return_, 1) := by decide +kernel
theorem dX8_passYear_0 : decode prog_10_method_4_code 0 = .ok (.aload_n 0, 1) := by decide +kernel
theorem dX8_passYear_1 : decode prog_10_method_4_code 1 = .ok (.iload_n 1, 1) := by decide +kernel
theorem dX8_passYear_2 : decode prog_10_method_4_code 2 = .ok (.invokevirtual 82, 3) := by decide +kernel
theorem dX8_passYear_5 : decode prog_10_method_4_code 5 = .ok (.istore_n 2, 1) := by decide +kernel
theorem dX8_passYear_6 : decode prog_10_method_4_code 6 = .ok (.iload_n 2, 1) := by decide +kernel
theorem dX8_passYear_7 : decode prog_10_method_4_code 7 = .ok (.bipush (-3), 2) := by decide +kernel
theorem dX8_passYear_9 : decode prog_10_method_4_code 9 = .ok (.if_icmp .ne 18, 3) := by decide +kernel
theorem dX8_passYear_12 : decode prog_10_method_4_code 12 = .ok (.aload_n 0, 1) := by decide +kernel
theorem dX8_passYear_13 : decode prog_10_method_4_code 13 = .ok (.aload_n 0, 1) := by decide +kernel
theorem dX8_passYear_14 : decode prog_10_method_4_code 14 = .ok (.iload_n 1, 1) := by decide +kernel
theorem dX8_passYear_15 : decode prog_10_method_4_code 15 = .ok (.invokevirtual 86, 3) := by decide +kernel
theorem dX8_passYear_18 : decode prog_10_method_4_code 18 = .ok (.aload_n 0, 1) := by decide +kernel
theorem dX8_passYear_19 : decode prog_10_method_4_code 19 = .ok (.iload_n 1, 1) := by decide +kernel
theorem dX8_passYear_20 : decode prog_10_method_4_code 20 = .ok (.invokevirtual 89, 3) := by decide +kernel
theorem dX8_passYear_23 : decode prog_10_method_4_code 23 = .ok (.invokevirtual 92, 3) := by decide +kernel
theorem dX8_passYear_26 : decode prog_10_method_4_code 26 = .ok (.istore_n 2, 1) := by decide +kernel
theorem dX8_passYear_27 : decode prog_10_method_4_code 27 = .ok (.aload_n 0, 1) := by decide +kernel
theorem dX8_passYear_28 : decode prog_10_method_4_code 28 = .ok (.iload_n 1, 1) := by decide +kernel
theorem dX8_passYear_29 : decode prog_10_method_4_code 29 = .ok (.aload_n 0, 1) := by decide +kernel
theorem dX8_passYear_30 : decode prog_10_method_4_code 30 = .ok (.iload_n 1, 1) := by decide +kernel
theorem dX8_passYear_31 : decode prog_10_method_4_code 31 = .ok (.iload_n 2, 1) := by decide +kernel
theorem dX8_passYear_32 : decode prog_10_method_4_code 32 = .ok (.invokevirtual 96, 3) := by decide +kernel
theorem dX8_passYear_35 : decode prog_10_method_4_code 35 = .ok (.invokevirtual 99, 3) := by decide +kernel
theorem dX8_passYear_38 : decode prog_10_method_4_code 38 = .ok (.return_, 1) := by decide +kernel
theorem dX8_whoIsThere_0 : decode prog_10_method_5_code 0 = .ok (.aload_n 0, 1) := by decide +kernel
theorem dX8_whoIsThere_1 : decode prog_10_method_5_code 1 = .ok (.getfield 56, 3) := by decide +kernel
theorem dX8_whoIsThere_4 : decode prog_10_method_5_code 4 = .ok (.getfield 103, 3) := by decide +kernel
theorem dX8_whoIsThere_7 : decode prog_10_method_5_code 7 = .ok (.getfield 107, 3) := by decide +kernel
theorem dX8_whoIsThere_10 : decode prog_10_method_5_code 10 = .ok (.iload_n 1, 1) := by decide +kernel
theorem dX8_whoIsThere_11 : decode prog_10_method_5_code 11 = .ok (.iaload, 1) := by decide +kernel
theorem dX8_whoIsThere_12 : decode prog_10_method_5_code 12 = .ok (.aload_n 0, 1) := by decide +kernel
theorem dX8_whoIsThere_13 : decode prog_10_method_5_code 13 = .ok (.getfield 24, 3) := by decide +kernel
theorem dX8_whoIsThere_16 : decode prog_10_method_5_code 16 = .ok (.iconst (-1), 1) := by decide +kernel
theorem dX8_whoIsThere_17 : decode prog_10_method_5_code 17 = .ok (.ixor, 1) := by decide +kernel
theorem dX8_whoIsThere_18 : decode prog_10_method_5_code 18 = .ok (.iand, 1) := by decide +kernel
theorem dX8_whoIsThere_19 : decode prog_10_method_5_code 19 = .ok (.ireturn, 1) := by decide +kernel
theorem dX8_whoCan_0 : decode prog_10_method_6_code 0 = .ok (.aload_n 0, 1) := by decide +kernel
theorem dX8_whoCan_1 : decode prog_10_method_6_code 1 = .ok (.getfield 56, 3) := by decide +kernel
theorem dX8_whoCan_4 : decode prog_10_method_6_code 4 = .ok (.getfield 103, 3) := by decide +kernel
theorem dX8_whoCan_7 : decode prog_10_method_6_code 7 = .ok (.getfield 112, 3) := by decide +kernel
theorem dX8_whoCan_10 : decode prog_10_method_6_code 10 = .ok (.iload_n 1, 1) := by decide +kernel
theorem dX8_whoCan_11 : decode prog_10_method_6_code 11 = .ok (.iaload, 1) := by decide +kernel
theorem dX8_whoCan_12 : decode prog_10_method_6_code 12 = .ok (.aload_n 0, 1) := by decide +kernel
theorem dX8_whoCan_13 : decode prog_10_method_6_code 13 = .ok (.getfield 24, 3) := by decide +kernel
theorem dX8_whoCan_16 : decode prog_10_method_6_code 16 = .ok (.iconst (-1), 1) := by decide +kernel
theorem dX8_whoCan_17 : decode prog_10_method_6_code 17 = .ok (.ixor, 1) := by decide +kernel
theorem dX8_whoCan_18 : decode prog_10_method_6_code 18 = .ok (.iand, 1) := by decide +kernel
theorem dX8_whoCan_19 : decode prog_10_method_6_code 19 = .ok (.ireturn, 1) := by decide +kernel
theorem dX8_whoComes_0 : decode prog_10_method_7_code 0 = .ok (.aload_n 0, 1) := by decide +kernel
theorem dX8_whoComes_1 : decode prog_10_method_7_code 1 = .ok (.iload_n 1, 1) := by decide +kernel
theorem dX8_whoComes_2 : decode prog_10_method_7_code 2 = .ok (.invokevirtual 89, 3) := by decide +kernel
theorem dX8_whoComes_5 : decode prog_10_method_7_code 5 = .ok (.istore_n 2, 1) := by decide +kernel
theorem dX8_whoComes_6 : decode prog_10_method_7_code 6 = .ok (.aload_n 0, 1) := by decide +kernel
theorem dX8_whoComes_7 : decode prog_10_method_7_code 7 = .ok (.getfield 27, 3) := by decide +kernel
theorem dX8_whoComes_10 : decode prog_10_method_7_code 10 = .ok (.ifCond .ne 7, 3) := by decide +kernel
theorem dX8_whoComes_13 : decode prog_10_method_7_code 13 = .ok (.iload_n 2, 1) := by decide +kernel
theorem dX8_whoComes_14 : decode prog_10_method_7_code 14 = .ok (.ifCond .ne 6, 3) := by decide +kernel
theorem dX8_whoComes_17 : decode prog_10_method_7_code 17 = .ok (.bipush (-2), 2) := by decide +kernel
theorem dX8_whoComes_19 : decode prog_10_method_7_code 19 = .ok (.ireturn, 1) := by decide +kernel
theorem dX8_whoComes_20 : decode prog_10_method_7_code 20 = .ok (.iload_n 1, 1) := by decide +kernel
theorem dX8_whoComes_21 : decode prog_10_method_7_code 21 = .ok (.ifCond .le 14, 3) := by decide +kernel
theorem dX8_whoComes_24 : decode prog_10_method_7_code 24 = .ok (.aload_n 0, 1) := by decide +kernel
theorem dX8_whoComes_25 : decode prog_10_method_7_code 25 = .ok (.getfield 53, 3) := by decide +kernel
theorem dX8_whoComes_28 : decode prog_10_method_7_code 28 = .ok (.iload_n 1, 1) := by decide +kernel
theorem dX8_whoComes_29 : decode prog_10_method_7_code 29 = .ok (.iconst 1, 1) := by decide +kernel
theorem dX8_whoComes_30 : decode prog_10_method_7_code 30 = .ok (.isub, 1) := by decide +kernel
theorem dX8_whoComes_31 : decode prog_10_method_7_code 31 = .ok (.iaload, 1) := by decide +kernel
theorem dX8_whoComes_32 : decode prog_10_method_7_code 32 = .ok (.goto 5, 3) := by decide +kernel
theorem dX8_whoComes_35 : decode prog_10_method_7_code 35 = .ok (.bipush (-2), 2) := by decide +kernel
theorem dX8_whoComes_37 : decode prog_10_method_7_code 37 = .ok (.istore_n 3, 1) := by decide +kernel
theorem dX8_whoComes_38 : decode prog_10_method_7_code 38 = .ok (.iload_n 3, 1) := by decide +kernel
theorem dX8_whoComes_39 : decode prog_10_method_7_code 39 = .ok (.ifCond .lt 29, 3) := by decide +kernel
theorem dX8_whoComes_42 : decode prog_10_method_7_code 42 = .ok (.iload_n 2, 1) := by decide +kernel
theorem dX8_whoComes_43 : decode prog_10_method_7_code 43 = .ok (.iload_n 3, 1) := by decide +kernel
theorem dX8_whoComes_44 : decode prog_10_method_7_code 44 = .ok (.invokestatic 115, 3) := by decide +kernel
theorem dX8_whoComes_47 : decode prog_10_method_7_code 47 = .ok (.ifCond .eq 21, 3) := by decide +kernel
theorem dX8_whoComes_50 : decode prog_10_method_7_code 50 = .ok (.aload_n 0, 1) := by decide +kernel
theorem dX8_whoComes_51 : decode prog_10_method_7_code 51 = .ok (.getfield 56, 3) := by decide +kernel
theorem dX8_whoComes_54 : decode prog_10_method_7_code 54 = .ok (.getfield 60, 3) := by decide +kernel
theorem dX8_whoComes_57 : decode prog_10_method_7_code 57 = .ok (.getfield 71, 3) := by decide +kernel
theorem dX8_whoComes_60 : decode prog_10_method_7_code 60 = .ok (.iload_n 3, 1) := by decide +kernel
theorem dX8_whoComes_61 : decode prog_10_method_7_code 61 = .ok (.aaload, 1) := by decide +kernel
theorem dX8_whoComes_62 : decode prog_10_method_7_code 62 = .ok (.iconst 0, 1) := by decide +kernel
theorem dX8_whoComes_63 : decode prog_10_method_7_code 63 = .ok (.iaload, 1) := by decide +kernel
theorem dX8_whoComes_64 : decode prog_10_method_7_code 64 = .ok (.iconst 3, 1) := by decide +kernel
theorem dX8_whoComes_65 : decode prog_10_method_7_code 65 = .ok (.if_icmp .eq 6, 3) := by decide +kernel
theorem dX8_whoComes_68 : decode prog_10_method_7_code 68 = .ok (.bipush (-3), 2) := by decide +kernel
theorem dX8_whoComes_70 : decode prog_10_method_7_code 70 = .ok (.ireturn, 1) := by decide +kernel
theorem dX8_whoComes_71 : decode prog_10_method_7_code 71 = .ok (.iload_n 1, 1) := by decide +kernel
theorem dX8_whoComes_72 : decode prog_10_method_7_code 72 = .ok (.iconst 1, 1) := by decide +kernel
theorem dX8_whoComes_73 : decode prog_10_method_7_code 73 = .ok (.if_icmp .le 19, 3) := by decide +kernel
theorem dX8_whoComes_76 : decode prog_10_method_7_code 76 = .ok (.aload_n 0, 1) := by decide +kernel
theorem dX8_whoComes_77 : decode prog_10_method_7_code 77 = .ok (.getfield 53, 3) := by decide +kernel
theorem dX8_whoComes_80 : decode prog_10_method_7_code 80 = .ok (.iload_n 1, 1) := by decide +kernel
theorem dX8_whoComes_81 : decode prog_10_method_7_code 81 = .ok (.iconst 2, 1) := by decide +kernel
theorem dX8_whoComes_82 : decode prog_10_method_7_code 82 = .ok (.isub, 1) := by decide +kernel
theorem dX8_whoComes_83 : decode prog_10_method_7_code 83 = .ok (.iaload, 1) := by decide +kernel
theorem dX8_whoComes_84 : decode prog_10_method_7_code 84 = .ok (.iload_n 3, 1) := by decide +kernel
theorem dX8_whoComes_85 : decode prog_10_method_7_code 85 = .ok (.if_icmp .ne 7, 3) := by decide +kernel
theorem dX8_whoComes_88 : decode prog_10_method_7_code 88 = .ok (.iconst 1, 1) := by decide +kernel
theorem dX8_whoComes_89 : decode prog_10_method_7_code 89 = .ok (.goto 4, 3) := by decide +kernel
theorem dX8_whoComes_92 : decode prog_10_method_7_code 92 = .ok (.iconst 0, 1) := by decide +kernel
theorem dX8_whoComes_93 : decode prog_10_method_7_code 93 = .ok (.istore 4, 2) := by decide +kernel
theorem dX8_whoComes_95 : decode prog_10_method_7_code 95 = .ok (.iload 4, 2) := by decide +kernel
theorem dX8_whoComes_97 : decode prog_10_method_7_code 97 = .ok (.ifCond .eq 8, 3) := by decide +kernel
theorem dX8_whoComes_100 : decode prog_10_method_7_code 100 = .ok (.bipush (-3), 2) := by decide +kernel
theorem dX8_whoComes_102 : decode prog_10_method_7_code 102 = .ok (.goto 4, 3) := by decide +kernel
theorem dX8_whoComes_105 : decode prog_10_method_7_code 105 = .ok (.iload_n 3, 1) := by decide +kernel
theorem dX8_whoComes_106 : decode prog_10_method_7_code 106 = .ok (.ireturn, 1) := by decide +kernel
theorem dX8_whoByLaw_0 : decode prog_10_method_8_code 0 = .ok (.aload_n 0, 1) := by decide +kernel
theorem dX8_whoByLaw_1 : decode prog_10_method_8_code 1 = .ok (.iload_n 1, 1) := by decide +kernel
theorem dX8_whoByLaw_2 : decode prog_10_method_8_code 2 = .ok (.invokevirtual 89, 3) := by decide +kernel
theorem dX8_whoByLaw_5 : decode prog_10_method_8_code 5 = .ok (.istore_n 2, 1) := by decide +kernel
theorem dX8_whoByLaw_6 : decode prog_10_method_8_code 6 = .ok (.aload_n 0, 1) := by decide +kernel
theorem dX8_whoByLaw_7 : decode prog_10_method_8_code 7 = .ok (.getfield 9, 3) := by decide +kernel
theorem dX8_whoByLaw_10 : decode prog_10_method_8_code 10 = .ok (.tableswitch 68 0 3 #[30, 36, 47, 58], 30) := by decide +kernel
theorem dX8_whoByLaw_40 : decode prog_10_method_8_code 40 = .ok (.aload_n 0, 1) := by decide +kernel
theorem dX8_whoByLaw_41 : decode prog_10_method_8_code 41 = .ok (.iload_n 2, 1) := by decide +kernel
theorem dX8_whoByLaw_42 : decode prog_10_method_8_code 42 = .ok (.invokevirtual 119, 3) := by decide +kernel
theorem dX8_whoByLaw_45 : decode prog_10_method_8_code 45 = .ok (.ireturn, 1) := by decide +kernel
theorem dX8_whoByLaw_46 : decode prog_10_method_8_code 46 = .ok (.aload_n 0, 1) := by decide +kernel
theorem dX8_whoByLaw_47 : decode prog_10_method_8_code 47 = .ok (.aload_n 0, 1) := by decide +kernel
theorem dX8_whoByLaw_48 : decode prog_10_method_8_code 48 = .ok (.iload_n 2, 1) := by decide +kernel
theorem dX8_whoByLaw_49 : decode prog_10_method_8_code 49 = .ok (.invokevirtual 122, 3) := by decide +kernel
theorem dX8_whoByLaw_52 : decode prog_10_method_8_code 52 = .ok (.iconst 1, 1) := by decide +kernel
theorem dX8_whoByLaw_53 : decode prog_10_method_8_code 53 = .ok (.invokevirtual 125, 3) := by decide +kernel
theorem dX8_whoByLaw_56 : decode prog_10_method_8_code 56 = .ok (.ireturn, 1) := by decide +kernel
theorem dX8_whoByLaw_57 : decode prog_10_method_8_code 57 = .ok (.aload_n 0, 1) := by decide +kernel
theorem dX8_whoByLaw_58 : decode prog_10_method_8_code 58 = .ok (.aload_n 0, 1) := by decide +kernel
theorem dX8_whoByLaw_59 : decode prog_10_method_8_code 59 = .ok (.iload_n 2, 1) := by decide +kernel
theorem dX8_whoByLaw_60 : decode prog_10_method_8_code 60 = .ok (.invokevirtual 122, 3) := by decide +kernel
theorem dX8_whoByLaw_63 : decode prog_10_method_8_code 63 = .ok (.iconst (-1), 1) := by decide +kernel
theorem dX8_whoByLaw_64 : decode prog_10_method_8_code 64 = .ok (.invokevirtual 125, 3) := by decide +kernel
theorem dX8_whoByLaw_67 : decode prog_10_method_8_code 67 = .ok (.ireturn, 1) := by decide +kernel
theorem dX8_whoByLaw_68 : decode prog_10_method_8_code 68 = .ok (.aload_n 0, 1) := by decide +kernel
theorem dX8_whoByLaw_69 : decode prog_10_method_8_code 69 = .ok (.aload_n 0, 1) := by decide +kernel
theorem dX8_whoByLaw_70 : decode prog_10_method_8_code 70 = .ok (.iload_n 2, 1) := by decide +kernel
theorem dX8_whoByLaw_71 : decode prog_10_method_8_code 71 = .ok (.invokevirtual 122, 3) := by decide +kernel
theorem dX8_whoByLaw_74 : decode prog_10_method_8_code 74 = .ok (.invokevirtual 128, 3) := by decide +kernel
theorem dX8_whoByLaw_77 : decode prog_10_method_8_code 77 = .ok (.ireturn, 1) := by decide +kernel
theorem dX8_whoByLaw_78 : decode prog_10_method_8_code 78 = .ok (.aload_n 0, 1) := by decide +kernel
theorem dX8_whoByLaw_79 : decode prog_10_method_8_code 79 = .ok (.iload_n 1, 1) := by decide +kernel
theorem dX8_whoByLaw_80 : decode prog_10_method_8_code 80 = .ok (.iload_n 2, 1) := by decide +kernel
theorem dX8_whoByLaw_81 : decode prog_10_method_8_code 81 = .ok (.invokevirtual 131, 3) := by decide +kernel
theorem dX8_whoByLaw_84 : decode prog_10_method_8_code 84 = .ok (.ireturn, 1) := by decide +kernel
theorem dX8_nextRound_0 : decode prog_10_method_9_code 0 = .ok (.aload_n 0, 1) := by decide +kernel
theorem dX8_nextRound_1 : decode prog_10_method_9_code 1 = .ok (.getfield 56, 3) := by decide +kernel
theorem dX8_nextRound_4 : decode prog_10_method_9_code 4 = .ok (.getfield 60, 3) := by decide +kernel
theorem dX8_nextRound_7 : decode prog_10_method_9_code 7 = .ok (.getfield 66, 3) := by decide +kernel
theorem dX8_nextRound_10 : decode prog_10_method_9_code 10 = .ok (.istore_n 2, 1) := by decide +kernel
theorem dX8_nextRound_11 : decode prog_10_method_9_code 11 = .ok (.aload_n 0, 1) := by decide +kernel
theorem dX8_nextRound_12 : decode prog_10_method_9_code 12 = .ok (.getfield 31, 3) := by decide +kernel
theorem dX8_nextRound_15 : decode prog_10_method_9_code 15 = .ok (.iconst 1, 1) := by decide +kernel
theorem dX8_nextRound_16 : decode prog_10_method_9_code 16 = .ok (.iadd, 1) := by decide +kernel
theorem dX8_nextRound_17 : decode prog_10_method_9_code 17 = .ok (.istore_n 3, 1) := by decide +kernel
theorem dX8_nextRound_18 : decode prog_10_method_9_code 18 = .ok (.iload_n 3, 1) := by decide +kernel
theorem dX8_nextRound_19 : decode prog_10_method_9_code 19 = .ok (.iload_n 2, 1) := by decide +kernel
theorem dX8_nextRound_20 : decode prog_10_method_9_code 20 = .ok (.if_icmp .ge 19, 3) := by decide +kernel
theorem dX8_nextRound_23 : decode prog_10_method_9_code 23 = .ok (.iload_n 1, 1) := by decide +kernel
theorem dX8_nextRound_24 : decode prog_10_method_9_code 24 = .ok (.iload_n 3, 1) := by decide +kernel
theorem dX8_nextRound_25 : decode prog_10_method_9_code 25 = .ok (.invokestatic 115, 3) := by decide +kernel
theorem dX8_nextRound_28 : decode prog_10_method_9_code 28 = .ok (.ifCond .eq 5, 3) := by decide +kernel
theorem dX8_nextRound_31 : decode prog_10_method_9_code 31 = .ok (.iload_n 3, 1) := by decide +kernel
theorem dX8_nextRound_32 : decode prog_10_method_9_code 32 = .ok (.ireturn, 1) := by decide +kernel
theorem dX8_nextRound_33 : decode prog_10_method_9_code 33 = .ok (.iinc 3 1, 3) := by decide +kernel
theorem dX8_nextRound_36 : decode prog_10_method_9_code 36 = .ok (.goto (-18), 3) := by decide +kernel
theorem dX8_nextRound_39 : decode prog_10_method_9_code 39 = .ok (.iconst 0, 1) := by decide +kernel
theorem dX8_nextRound_40 : decode prog_10_method_9_code 40 = .ok (.istore_n 3, 1) := by decide +kernel
theorem dX8_nextRound_41 : decode prog_10_method_9_code 41 = .ok (.iload_n 3, 1) := by decide +kernel
theorem dX8_nextRound_42 : decode prog_10_method_9_code 42 = .ok (.aload_n 0, 1) := by decide +kernel
theorem dX8_nextRound_43 : decode prog_10_method_9_code 43 = .ok (.getfield 31, 3) := by decide +kernel
theorem dX8_nextRound_46 : decode prog_10_method_9_code 46 = .ok (.if_icmp .gt 19, 3) := by decide +kernel
theorem dX8_nextRound_49 : decode prog_10_method_9_code 49 = .ok (.iload_n 1, 1) := by decide +kernel
theorem dX8_nextRound_50 : decode prog_10_method_9_code 50 = .ok (.iload_n 3, 1) := by decide +kernel
theorem dX8_nextRound_51 : decode prog_10_method_9_code 51 = .ok (.invokestatic 115, 3) := by decide +kernel
theorem dX8_nextRound_54 : decode prog_10_method_9_code 54 = .ok (.ifCond .eq 5, 3) := by decide +kernel
theorem dX8_nextRound_57 : decode prog_10_method_9_code 57 = .ok (.iload_n 3, 1) := by decide +kernel
theorem dX8_nextRound_58 : decode prog_10_method_9_code 58 = .ok (.ireturn, 1) := by decide +kernel
theorem dX8_nextRound_59 : decode prog_10_method_9_code 59 = .ok (.iinc 3 1, 3) := by decide +kernel
theorem dX8_nextRound_62 : decode prog_10_method_9_code 62 = .ok (.goto (-21), 3) := by decide +kernel
theorem dX8_nextRound_65 : decode prog_10_method_9_code 65 = .ok (.bipush (-2), 2) := by decide +kernel
theorem dX8_nextRound_67 : decode prog_10_method_9_code 67 = .ok (.ireturn, 1) := by decide +kernel
theorem dX8_fewestTurns_0 : decode prog_10_method_10_code 0 = .ok (.ldc 134, 2) := by decide +kernel
theorem dX8_fewestTurns_2 : decode prog_10_method_10_code 2 = .ok (.istore_n 2, 1) := by decide +kernel
theorem dX8_fewestTurns_3 : decode prog_10_method_10_code 3 = .ok (.iconst 0, 1) := by decide +kernel
theorem dX8_fewestTurns_4 : decode prog_10_method_10_code 4 = .ok (.istore_n 3, 1) := by decide +kernel
theorem dX8_fewestTurns_5 : decode prog_10_method_10_code 5 = .ok (.iconst 0, 1) := by decide +kernel
theorem dX8_fewestTurns_6 : decode prog_10_method_10_code 6 = .ok (.istore 4, 2) := by decide +kernel
theorem dX8_fewestTurns_8 : decode prog_10_method_10_code 8 = .ok (.iload 4, 2) := by decide +kernel
theorem dX8_fewestTurns_10 : decode prog_10_method_10_code 10 = .ok (.aload_n 0, 1) := by decide +kernel
theorem dX8_fewestTurns_11 : decode prog_10_method_10_code 11 = .ok (.getfield 56, 3) := by decide +kernel
theorem dX8_fewestTurns_14 : decode prog_10_method_10_code 14 = .ok (.getfield 60, 3) := by decide +kernel
theorem dX8_fewestTurns_17 : decode prog_10_method_10_code 17 = .ok (.getfield 66, 3) := by decide +kernel
theorem dX8_fewestTurns_20 : decode prog_10_method_10_code 20 = .ok (.if_icmp .ge 99, 3) := by decide +kernel
theorem dX8_fewestTurns_23 : decode prog_10_method_10_code 23 = .ok (.aload_n 0, 1) := by decide +kernel
theorem dX8_fewestTurns_24 : decode prog_10_method_10_code 24 = .ok (.getfield 56, 3) := by decide +kernel
theorem dX8_fewestTurns_27 : decode prog_10_method_10_code 27 = .ok (.getfield 60, 3) := by decide +kernel
theorem dX8_fewestTurns_30 : decode prog_10_method_10_code 30 = .ok (.getfield 71, 3) := by decide +kernel
theorem dX8_fewestTurns_33 : decode prog_10_method_10_code 33 = .ok (.iload 4, 2) := by decide +kernel
theorem dX8_fewestTurns_35 : decode prog_10_method_10_code 35 = .ok (.aaload, 1) := by decide +kernel
theorem dX8_fewestTurns_36 : decode prog_10_method_10_code 36 = .ok (.iconst 0, 1) := by decide +kernel
theorem dX8_fewestTurns_37 : decode prog_10_method_10_code 37 = .ok (.iaload, 1) := by decide +kernel
theorem dX8_fewestTurns_38 : decode prog_10_method_10_code 38 = .ok (.iconst 4, 1) := by decide +kernel
theorem dX8_fewestTurns_39 : decode prog_10_method_10_code 39 = .ok (.if_icmp .ne 15, 3) := by decide +kernel
theorem dX8_fewestTurns_42 : decode prog_10_method_10_code 42 = .ok (.aload_n 0, 1) := by decide +kernel
theorem dX8_fewestTurns_43 : decode prog_10_method_10_code 43 = .ok (.getfield 43, 3) := by decide +kernel
theorem dX8_fewestTurns_46 : decode prog_10_method_10_code 46 = .ok (.iload 4, 2) := by decide +kernel
theorem dX8_fewestTurns_48 : decode prog_10_method_10_code 48 = .ok (.iaload, 1) := by decide +kernel
theorem dX8_fewestTurns_49 : decode prog_10_method_10_code 49 = .ok (.iconst 1, 1) := by decide +kernel
theorem dX8_fewestTurns_50 : decode prog_10_method_10_code 50 = .ok (.isub, 1) := by decide +kernel
theorem dX8_fewestTurns_51 : decode prog_10_method_10_code 51 = .ok (.goto 10, 3) := by decide +kernel
theorem dX8_fewestTurns_54 : decode prog_10_method_10_code 54 = .ok (.aload_n 0, 1) := by decide +kernel
theorem dX8_fewestTurns_55 : decode prog_10_method_10_code 55 = .ok (.getfield 43, 3) := by decide +kernel
theorem dX8_fewestTurns_58 : decode prog_10_method_10_code 58 = .ok (.iload 4, 2) := by decide +kernel
theorem dX8_fewestTurns_60 : decode prog_10_method_10_code 60 = .ok (.iaload, 1) := by decide +kernel
theorem dX8_fewestTurns_61 : decode prog_10_method_10_code 61 = .ok (.istore 5, 2) := by decide +kernel
theorem dX8_fewestTurns_63 : decode prog_10_method_10_code 63 = .ok (.iload_n 1, 1) := by decide +kernel
theorem dX8_fewestTurns_64 : decode prog_10_method_10_code 64 = .ok (.iload 4, 2) := by decide +kernel
theorem dX8_fewestTurns_66 : decode prog_10_method_10_code 66 = .ok (.ishr, 1) := by decide +kernel
theorem dX8_fewestTurns_67 : decode prog_10_method_10_code 67 = .ok (.iconst 1, 1) := by decide +kernel
theorem dX8_fewestTurns_68 : decode prog_10_method_10_code 68 = .ok (.iand, 1) := by decide +kernel
theorem dX8_fewestTurns_69 : decode prog_10_method_10_code 69 = .ok (.ifCond .eq 7, 3) := by decide +kernel
theorem dX8_fewestTurns_72 : decode prog_10_method_10_code 72 = .ok (.iconst 1, 1) := by decide +kernel
theorem dX8_fewestTurns_73 : decode prog_10_method_10_code 73 = .ok (.goto 4, 3) := by decide +kernel
theorem dX8_fewestTurns_76 : decode prog_10_method_10_code 76 = .ok (.iconst 0, 1) := by decide +kernel
theorem dX8_fewestTurns_77 : decode prog_10_method_10_code 77 = .ok (.istore 6, 2) := by decide +kernel
theorem dX8_fewestTurns_79 : decode prog_10_method_10_code 79 = .ok (.iload 6, 2) := by decide +kernel
theorem dX8_fewestTurns_81 : decode prog_10_method_10_code 81 = .ok (.ifCond .eq 14, 3) := by decide +kernel
theorem dX8_fewestTurns_84 : decode prog_10_method_10_code 84 = .ok (.iload 5, 2) := by decide +kernel
theorem dX8_fewestTurns_86 : decode prog_10_method_10_code 86 = .ok (.iload_n 2, 1) := by decide +kernel
theorem dX8_fewestTurns_87 : decode prog_10_method_10_code 87 = .ok (.if_icmp .ge 8, 3) := by decide +kernel
theorem dX8_fewestTurns_90 : decode prog_10_method_10_code 90 = .ok (.iload 5, 2) := by decide +kernel
theorem dX8_fewestTurns_92 : decode prog_10_method_10_code 92 = .ok (.istore_n 2, 1) := by decide +kernel
theorem dX8_fewestTurns_93 : decode prog_10_method_10_code 93 = .ok (.iconst 0, 1) := by decide +kernel
theorem dX8_fewestTurns_94 : decode prog_10_method_10_code 94 = .ok (.istore_n 3, 1) := by decide +kernel
theorem dX8_fewestTurns_95 : decode prog_10_method_10_code 95 = .ok (.iload 6, 2) := by decide +kernel
theorem dX8_fewestTurns_97 : decode prog_10_method_10_code 97 = .ok (.ifCond .eq 16, 3) := by decide +kernel
theorem dX8_fewestTurns_100 : decode prog_10_method_10_code 100 = .ok (.iload 5, 2) := by decide +kernel
theorem dX8_fewestTurns_102 : decode prog_10_method_10_code 102 = .ok (.iload_n 2, 1) := by decide +kernel
theorem dX8_fewestTurns_103 : decode prog_10_method_10_code 103 = .ok (.if_icmp .ne 10, 3) := by decide +kernel
theorem dX8_fewestTurns_106 : decode prog_10_method_10_code 106 = .ok (.iload_n 3, 1) := by decide +kernel
theorem dX8_fewestTurns_107 : decode prog_10_method_10_code 107 = .ok (.iconst 1, 1) := by decide +kernel
theorem dX8_fewestTurns_108 : decode prog_10_method_10_code 108 = .ok (.iload 4, 2) := by decide +kernel
theorem dX8_fewestTurns_110 : decode prog_10_method_10_code 110 = .ok (.ishl, 1) := by decide +kernel
theorem dX8_fewestTurns_111 : decode prog_10_method_10_code 111 = .ok (.ior, 1) := by decide +kernel
theorem dX8_fewestTurns_112 : decode prog_10_method_10_code 112 = .ok (.istore_n 3, 1) := by decide +kernel
theorem dX8_fewestTurns_113 : decode prog_10_method_10_code 113 = .ok (.iinc 4 1, 3) := by decide +kernel
theorem dX8_fewestTurns_116 : decode prog_10_method_10_code 116 = .ok (.goto (-108), 3) := by decide +kernel
theorem dX8_fewestTurns_119 : decode prog_10_method_10_code 119 = .ok (.iload_n 3, 1) := by decide +kernel
theorem dX8_fewestTurns_120 : decode prog_10_method_10_code 120 = .ok (.ireturn, 1) := by decide +kernel
theorem dX8_byAge_0 : decode prog_10_method_11_code 0 = .ok (.bipush (-2), 2) := by decide +kernel
theorem dX8_byAge_2 : decode prog_10_method_11_code 2 = .ok (.istore_n 3, 1) := by decide +kernel
theorem dX8_byAge_3 : decode prog_10_method_11_code 3 = .ok (.ldc 134, 2) := by decide +kernel
theorem dX8_byAge_5 : decode prog_10_method_11_code 5 = .ok (.istore 4, 2) := by decide +kernel
theorem dX8_byAge_7 : decode prog_10_method_11_code 7 = .ok (.iconst 0, 1) := by decide +kernel
theorem dX8_byAge_8 : decode prog_10_method_11_code 8 = .ok (.istore 5, 2) := by decide +kernel
theorem dX8_byAge_10 : decode prog_10_method_11_code 10 = .ok (.iload 5, 2) := by decide +kernel
theorem dX8_byAge_12 : decode prog_10_method_11_code 12 = .ok (.aload_n 0, 1) := by decide +kernel
theorem dX8_byAge_13 : decode prog_10_method_11_code 13 = .ok (.getfield 56, 3) := by decide +kernel
theorem dX8_byAge_16 : decode prog_10_method_11_code 16 = .ok (.getfield 60, 3) := by decide +kernel
theorem dX8_byAge_19 : decode prog_10_method_11_code 19 = .ok (.getfield 66, 3) := by decide +kernel
theorem dX8_byAge_22 : decode prog_10_method_11_code 22 = .ok (.if_icmp .ge 51, 3) := by decide +kernel
theorem dX8_byAge_25 : decode prog_10_method_11_code 25 = .ok (.iload_n 2, 1) := by decide +kernel
theorem dX8_byAge_26 : decode prog_10_method_11_code 26 = .ok (.aload_n 0, 1) := by decide +kernel
theorem dX8_byAge_27 : decode prog_10_method_11_code 27 = .ok (.getfield 56, 3) := by decide +kernel
theorem dX8_byAge_30 : decode prog_10_method_11_code 30 = .ok (.getfield 60, 3) := by decide +kernel
theorem dX8_byAge_33 : decode prog_10_method_11_code 33 = .ok (.getfield 71, 3) := by decide +kernel
theorem dX8_byAge_36 : decode prog_10_method_11_code 36 = .ok (.iload 5, 2) := by decide +kernel
theorem dX8_byAge_38 : decode prog_10_method_11_code 38 = .ok (.aaload, 1) := by decide +kernel
theorem dX8_byAge_39 : decode prog_10_method_11_code 39 = .ok (.iconst 2, 1) := by decide +kernel
theorem dX8_byAge_40 : decode prog_10_method_11_code 40 = .ok (.iaload, 1) := by decide +kernel
theorem dX8_byAge_41 : decode prog_10_method_11_code 41 = .ok (.imul, 1) := by decide +kernel
theorem dX8_byAge_42 : decode prog_10_method_11_code 42 = .ok (.istore 6, 2) := by decide +kernel
theorem dX8_byAge_44 : decode prog_10_method_11_code 44 = .ok (.iload_n 1, 1) := by decide +kernel
theorem dX8_byAge_45 : decode prog_10_method_11_code 45 = .ok (.iload 5, 2) := by decide +kernel
theorem dX8_byAge_47 : decode prog_10_method_11_code 47 = .ok (.ishr, 1) := by decide +kernel
theorem dX8_byAge_48 : decode prog_10_method_11_code 48 = .ok (.iconst 1, 1) := by decide +kernel
theorem dX8_byAge_49 : decode prog_10_method_11_code 49 = .ok (.iand, 1) := by decide +kernel
theorem dX8_byAge_50 : decode prog_10_method_11_code 50 = .ok (.ifCond .eq 17, 3) := by decide +kernel
theorem dX8_byAge_53 : decode prog_10_method_11_code 53 = .ok (.iload 6, 2) := by decide +kernel
theorem dX8_byAge_55 : decode prog_10_method_11_code 55 = .ok (.iload 4, 2) := by decide +kernel
theorem dX8_byAge_57 : decode prog_10_method_11_code 57 = .ok (.if_icmp .ge 10, 3) := by decide +kernel
theorem dX8_byAge_60 : decode prog_10_method_11_code 60 = .ok (.iload 5, 2) := by decide +kernel
theorem dX8_byAge_62 : decode prog_10_method_11_code 62 = .ok (.istore_n 3, 1) := by decide +kernel
theorem dX8_byAge_63 : decode prog_10_method_11_code 63 = .ok (.iload 6, 2) := by decide +kernel
theorem dX8_byAge_65 : decode prog_10_method_11_code 65 = .ok (.istore 4, 2) := by decide +kernel
theorem dX8_byAge_67 : decode prog_10_method_11_code 67 = .ok (.iinc 5 1, 3) := by decide +kernel
theorem dX8_byAge_70 : decode prog_10_method_11_code 70 = .ok (.goto (-60), 3) := by decide +kernel
theorem dX8_byAge_73 : decode prog_10_method_11_code 73 = .ok (.iload_n 3, 1) := by decide +kernel
theorem dX8_byAge_74 : decode prog_10_method_11_code 74 = .ok (.ireturn, 1) := by decide +kernel
theorem dX8_drawn_0 : decode prog_10_method_12_code 0 = .ok (.iload_n 1, 1) := by decide +kernel
theorem dX8_drawn_1 : decode prog_10_method_12_code 1 = .ok (.invokestatic 135, 3) := by decide +kernel
theorem dX8_drawn_4 : decode prog_10_method_12_code 4 = .ok (.istore_n 2, 1) := by decide +kernel
theorem dX8_drawn_5 : decode prog_10_method_12_code 5 = .ok (.iload_n 2, 1) := by decide +kernel
theorem dX8_drawn_6 : decode prog_10_method_12_code 6 = .ok (.ifCond .ne 6, 3) := by decide +kernel
theorem dX8_drawn_9 : decode prog_10_method_12_code 9 = .ok (.bipush (-2), 2) := by decide +kernel
theorem dX8_drawn_11 : decode prog_10_method_12_code 11 = .ok (.ireturn, 1) := by decide +kernel
theorem dX8_drawn_12 : decode prog_10_method_12_code 12 = .ok (.aload_n 0, 1) := by decide +kernel
theorem dX8_drawn_13 : decode prog_10_method_12_code 13 = .ok (.bipush 75, 2) := by decide +kernel
theorem dX8_drawn_15 : decode prog_10_method_12_code 15 = .ok (.aload_n 0, 1) := by decide +kernel
theorem dX8_drawn_16 : decode prog_10_method_12_code 16 = .ok (.getfield 15, 3) := by decide +kernel
theorem dX8_drawn_19 : decode prog_10_method_12_code 19 = .ok (.imul, 1) := by decide +kernel
theorem dX8_drawn_20 : decode prog_10_method_12_code 20 = .ok (.bipush 74, 2) := by decide +kernel
theorem dX8_drawn_22 : decode prog_10_method_12_code 22 = .ok (.iadd, 1) := by decide +kernel
theorem dX8_drawn_23 : decode prog_10_method_12_code 23 = .ok (.ldc 140, 2) := by decide +kernel
theorem dX8_drawn_25 : decode prog_10_method_12_code 25 = .ok (.irem, 1) := by decide +kernel
theorem dX8_drawn_26 : decode prog_10_method_12_code 26 = .ok (.putfield 15, 3) := by decide +kernel
theorem dX8_drawn_29 : decode prog_10_method_12_code 29 = .ok (.aload_n 0, 1) := by decide +kernel
theorem dX8_drawn_30 : decode prog_10_method_12_code 30 = .ok (.getfield 15, 3) := by decide +kernel
theorem dX8_drawn_33 : decode prog_10_method_12_code 33 = .ok (.iload_n 2, 1) := by decide +kernel
theorem dX8_drawn_34 : decode prog_10_method_12_code 34 = .ok (.irem, 1) := by decide +kernel
theorem dX8_drawn_35 : decode prog_10_method_12_code 35 = .ok (.istore_n 3, 1) := by decide +kernel
theorem dX8_drawn_36 : decode prog_10_method_12_code 36 = .ok (.iconst 0, 1) := by decide +kernel
theorem dX8_drawn_37 : decode prog_10_method_12_code 37 = .ok (.istore 4, 2) := by decide +kernel
theorem dX8_drawn_39 : decode prog_10_method_12_code 39 = .ok (.iload 4, 2) := by decide +kernel
theorem dX8_drawn_41 : decode prog_10_method_12_code 41 = .ok (.aload_n 0, 1) := by decide +kernel
theorem dX8_drawn_42 : decode prog_10_method_12_code 42 = .ok (.getfield 56, 3) := by decide +kernel
theorem dX8_drawn_45 : decode prog_10_method_12_code 45 = .ok (.getfield 60, 3) := by decide +kernel
theorem dX8_drawn_48 : decode prog_10_method_12_code 48 = .ok (.getfield 66, 3) := by decide +kernel
theorem dX8_drawn_51 : decode prog_10_method_12_code 51 = .ok (.if_icmp .ge 28, 3) := by decide +kernel
theorem dX8_drawn_54 : decode prog_10_method_12_code 54 = .ok (.iload_n 1, 1) := by decide +kernel
theorem dX8_drawn_55 : decode prog_10_method_12_code 55 = .ok (.iload 4, 2) := by decide +kernel
theorem dX8_drawn_57 : decode prog_10_method_12_code 57 = .ok (.invokestatic 115, 3) := by decide +kernel
theorem dX8_drawn_60 : decode prog_10_method_12_code 60 = .ok (.ifCond .eq 13, 3) := by decide +kernel
theorem dX8_drawn_63 : decode prog_10_method_12_code 63 = .ok (.iload_n 3, 1) := by decide +kernel
theorem dX8_drawn_64 : decode prog_10_method_12_code 64 = .ok (.ifCond .ne 6, 3) := by decide +kernel
theorem dX8_drawn_67 : decode prog_10_method_12_code 67 = .ok (.iload 4, 2) := by decide +kernel
theorem dX8_drawn_69 : decode prog_10_method_12_code 69 = .ok (.ireturn, 1) := by decide +kernel
theorem dX8_drawn_70 : decode prog_10_method_12_code 70 = .ok (.iinc 3 (-1), 3) := by decide +kernel
theorem dX8_drawn_73 : decode prog_10_method_12_code 73 = .ok (.iinc 4 1, 3) := by decide +kernel
theorem dX8_drawn_76 : decode prog_10_method_12_code 76 = .ok (.goto (-37), 3) := by decide +kernel
theorem dX8_drawn_79 : decode prog_10_method_12_code 79 = .ok (.bipush (-2), 2) := by decide +kernel
theorem dX8_drawn_81 : decode prog_10_method_12_code 81 = .ok (.ireturn, 1) := by decide +kernel
theorem dX8_voted_0 : decode prog_10_method_13_code 0 = .ok (.aload_n 0, 1) := by decide +kernel
theorem dX8_voted_1 : decode prog_10_method_13_code 1 = .ok (.getfield 56, 3) := by decide +kernel
theorem dX8_voted_4 : decode prog_10_method_13_code 4 = .ok (.getfield 103, 3) := by decide +kernel
theorem dX8_voted_7 : decode prog_10_method_13_code 7 = .ok (.getfield 141, 3) := by decide +kernel
theorem dX8_voted_10 : decode prog_10_method_13_code 10 = .ok (.iconst 0, 1) := by decide +kernel
theorem dX8_voted_11 : decode prog_10_method_13_code 11 = .ok (.iaload, 1) := by decide +kernel
theorem dX8_voted_12 : decode prog_10_method_13_code 12 = .ok (.istore_n 3, 1) := by decide +kernel
theorem dX8_voted_13 : decode prog_10_method_13_code 13 = .ok (.aload_n 0, 1) := by decide +kernel
theorem dX8_voted_14 : decode prog_10_method_13_code 14 = .ok (.getfield 56, 3) := by decide +kernel
theorem dX8_voted_17 : decode prog_10_method_13_code 17 = .ok (.getfield 103, 3) := by decide +kernel
theorem dX8_voted_20 : decode prog_10_method_13_code 20 = .ok (.getfield 141, 3) := by decide +kernel
theorem dX8_voted_23 : decode prog_10_method_13_code 23 = .ok (.iconst 1, 1) := by decide +kernel
theorem dX8_voted_24 : decode prog_10_method_13_code 24 = .ok (.iaload, 1) := by decide +kernel
theorem dX8_voted_25 : decode prog_10_method_13_code 25 = .ok (.istore 4, 2) := by decide +kernel
theorem dX8_voted_27 : decode prog_10_method_13_code 27 = .ok (.aload_n 0, 1) := by decide +kernel
theorem dX8_voted_28 : decode prog_10_method_13_code 28 = .ok (.aload_n 0, 1) := by decide +kernel
theorem dX8_voted_29 : decode prog_10_method_13_code 29 = .ok (.iload_n 2, 1) := by decide +kernel
theorem dX8_voted_30 : decode prog_10_method_13_code 30 = .ok (.iload_n 3, 1) := by decide +kernel
theorem dX8_voted_31 : decode prog_10_method_13_code 31 = .ok (.iand, 1) := by decide +kernel
theorem dX8_voted_32 : decode prog_10_method_13_code 32 = .ok (.invokevirtual 122, 3) := by decide +kernel
theorem dX8_voted_35 : decode prog_10_method_13_code 35 = .ok (.iconst 1, 1) := by decide +kernel
theorem dX8_voted_36 : decode prog_10_method_13_code 36 = .ok (.invokevirtual 125, 3) := by decide +kernel
theorem dX8_voted_39 : decode prog_10_method_13_code 39 = .ok (.istore 5, 2) := by decide +kernel
theorem dX8_voted_41 : decode prog_10_method_13_code 41 = .ok (.aload_n 0, 1) := by decide +kernel
theorem dX8_voted_42 : decode prog_10_method_13_code 42 = .ok (.aload_n 0, 1) := by decide +kernel
theorem dX8_voted_43 : decode prog_10_method_13_code 43 = .ok (.iload_n 2, 1) := by decide +kernel
theorem dX8_voted_44 : decode prog_10_method_13_code 44 = .ok (.iload 4, 2) := by decide +kernel
theorem dX8_voted_46 : decode prog_10_method_13_code 46 = .ok (.iand, 1) := by decide +kernel
theorem dX8_voted_47 : decode prog_10_method_13_code 47 = .ok (.invokevirtual 122, 3) := by decide +kernel
theorem dX8_voted_50 : decode prog_10_method_13_code 50 = .ok (.iconst 1, 1) := by decide +kernel
theorem dX8_voted_51 : decode prog_10_method_13_code 51 = .ok (.invokevirtual 125, 3) := by decide +kernel
theorem dX8_voted_54 : decode prog_10_method_13_code 54 = .ok (.istore 6, 2) := by decide +kernel
theorem dX8_voted_56 : decode prog_10_method_13_code 56 = .ok (.iload 5, 2) := by decide +kernel
theorem dX8_voted_58 : decode prog_10_method_13_code 58 = .ok (.ifCond .lt 8, 3) := by decide +kernel
theorem dX8_voted_61 : decode prog_10_method_13_code 61 = .ok (.iload 6, 2) := by decide +kernel
theorem dX8_voted_63 : decode prog_10_method_13_code 63 = .ok (.ifCond .ge 16, 3) := by decide +kernel
theorem dX8_voted_66 : decode prog_10_method_13_code 66 = .ok (.iload 5, 2) := by decide +kernel
theorem dX8_voted_68 : decode prog_10_method_13_code 68 = .ok (.ifCond .ge 8, 3) := by decide +kernel
theorem dX8_voted_71 : decode prog_10_method_13_code 71 = .ok (.iload 6, 2) := by decide +kernel
theorem dX8_voted_73 : decode prog_10_method_13_code 73 = .ok (.goto 5, 3) := by decide +kernel
theorem dX8_voted_76 : decode prog_10_method_13_code 76 = .ok (.iload 5, 2) := by decide +kernel
theorem dX8_voted_78 : decode prog_10_method_13_code 78 = .ok (.ireturn, 1) := by decide +kernel
theorem dX8_voted_79 : decode prog_10_method_13_code 79 = .ok (.aload_n 0, 1) := by decide +kernel
theorem dX8_voted_80 : decode prog_10_method_13_code 80 = .ok (.iload_n 1, 1) := by decide +kernel
theorem dX8_voted_81 : decode prog_10_method_13_code 81 = .ok (.invokevirtual 144, 3) := by decide +kernel
theorem dX8_voted_84 : decode prog_10_method_13_code 84 = .ok (.istore 7, 2) := by decide +kernel
theorem dX8_voted_86 : decode prog_10_method_13_code 86 = .ok (.aload_n 0, 1) := by decide +kernel
theorem dX8_voted_87 : decode prog_10_method_13_code 87 = .ok (.getfield 56, 3) := by decide +kernel
theorem dX8_voted_90 : decode prog_10_method_13_code 90 = .ok (.getfield 60, 3) := by decide +kernel
theorem dX8_voted_93 : decode prog_10_method_13_code 93 = .ok (.iload 7, 2) := by decide +kernel
theorem dX8_voted_95 : decode prog_10_method_13_code 95 = .ok (.iload_n 3, 1) := by decide +kernel
theorem dX8_voted_96 : decode prog_10_method_13_code 96 = .ok (.iand, 1) := by decide +kernel
theorem dX8_voted_97 : decode prog_10_method_13_code 97 = .ok (.invokevirtual 147, 3) := by decide +kernel
theorem dX8_voted_100 : decode prog_10_method_13_code 100 = .ok (.istore 8, 2) := by decide +kernel
theorem dX8_voted_102 : decode prog_10_method_13_code 102 = .ok (.aload_n 0, 1) := by decide +kernel
theorem dX8_voted_103 : decode prog_10_method_13_code 103 = .ok (.getfield 56, 3) := by decide +kernel
theorem dX8_voted_106 : decode prog_10_method_13_code 106 = .ok (.getfield 60, 3) := by decide +kernel
theorem dX8_voted_109 : decode prog_10_method_13_code 109 = .ok (.iload 7, 2) := by decide +kernel
theorem dX8_voted_111 : decode prog_10_method_13_code 111 = .ok (.iload 4, 2) := by decide +kernel
theorem dX8_voted_113 : decode prog_10_method_13_code 113 = .ok (.iand, 1) := by decide +kernel
theorem dX8_voted_114 : decode prog_10_method_13_code 114 = .ok (.invokevirtual 147, 3) := by decide +kernel
theorem dX8_voted_117 : decode prog_10_method_13_code 117 = .ok (.istore 9, 2) := by decide +kernel
theorem dX8_voted_119 : decode prog_10_method_13_code 119 = .ok (.iload 9, 2) := by decide +kernel
theorem dX8_voted_121 : decode prog_10_method_13_code 121 = .ok (.iload 8, 2) := by decide +kernel
theorem dX8_voted_123 : decode prog_10_method_13_code 123 = .ok (.if_icmp .ne 18, 3) := by decide +kernel
theorem dX8_voted_126 : decode prog_10_method_13_code 126 = .ok (.iload 5, 2) := by decide +kernel
theorem dX8_voted_128 : decode prog_10_method_13_code 128 = .ok (.iload 6, 2) := by decide +kernel
theorem dX8_voted_130 : decode prog_10_method_13_code 130 = .ok (.if_icmp .ge 8, 3) := by decide +kernel
theorem dX8_voted_133 : decode prog_10_method_13_code 133 = .ok (.iload 5, 2) := by decide +kernel
theorem dX8_voted_135 : decode prog_10_method_13_code 135 = .ok (.goto 5, 3) := by decide +kernel
theorem dX8_voted_138 : decode prog_10_method_13_code 138 = .ok (.iload 6, 2) := by decide +kernel
theorem dX8_voted_140 : decode prog_10_method_13_code 140 = .ok (.ireturn, 1) := by decide +kernel
theorem dX8_voted_141 : decode prog_10_method_13_code 141 = .ok (.iload 9, 2) := by decide +kernel
theorem dX8_voted_143 : decode prog_10_method_13_code 143 = .ok (.iload 8, 2) := by decide +kernel
theorem dX8_voted_145 : decode prog_10_method_13_code 145 = .ok (.if_icmp .le 8, 3) := by decide +kernel
theorem dX8_voted_148 : decode prog_10_method_13_code 148 = .ok (.iload 5, 2) := by decide +kernel
theorem dX8_voted_150 : decode prog_10_method_13_code 150 = .ok (.goto 5, 3) := by decide +kernel
theorem dX8_voted_153 : decode prog_10_method_13_code 153 = .ok (.iload 6, 2) := by decide +kernel
theorem dX8_voted_155 : decode prog_10_method_13_code 155 = .ok (.ireturn, 1) := by decide +kernel
theorem dX8_inPlaceOf_0 : decode prog_10_method_14_code 0 = .ok (.iload_n 1, 1) := by decide +kernel
theorem dX8_inPlaceOf_1 : decode prog_10_method_14_code 1 = .ok (.aload_n 0, 1) := by decide +kernel
theorem dX8_inPlaceOf_2 : decode prog_10_method_14_code 2 = .ok (.getfield 18, 3) := by decide +kernel
theorem dX8_inPlaceOf_5 : decode prog_10_method_14_code 5 = .ok (.if_icmp .ne 26, 3) := by decide +kernel
theorem dX8_inPlaceOf_8 : decode prog_10_method_14_code 8 = .ok (.aload_n 0, 1) := by decide +kernel
theorem dX8_inPlaceOf_9 : decode prog_10_method_14_code 9 = .ok (.getfield 21, 3) := by decide +kernel
theorem dX8_inPlaceOf_12 : decode prog_10_method_14_code 12 = .ok (.ifCond .lt 19, 3) := by decide +kernel
theorem dX8_inPlaceOf_15 : decode prog_10_method_14_code 15 = .ok (.iload_n 2, 1) := by decide +kernel
theorem dX8_inPlaceOf_16 : decode prog_10_method_14_code 16 = .ok (.aload_n 0, 1) := by decide +kernel
theorem dX8_inPlaceOf_17 : decode prog_10_method_14_code 17 = .ok (.getfield 21, 3) := by decide +kernel
theorem dX8_inPlaceOf_20 : decode prog_10_method_14_code 20 = .ok (.invokestatic 115, 3) := by decide +kernel
theorem dX8_inPlaceOf_23 : decode prog_10_method_14_code 23 = .ok (.ifCond .eq 8, 3) := by decide +kernel
theorem dX8_inPlaceOf_26 : decode prog_10_method_14_code 26 = .ok (.aload_n 0, 1) := by decide +kernel
theorem dX8_inPlaceOf_27 : decode prog_10_method_14_code 27 = .ok (.getfield 21, 3) := by decide +kernel
theorem dX8_inPlaceOf_30 : decode prog_10_method_14_code 30 = .ok (.ireturn, 1) := by decide +kernel
theorem dX8_inPlaceOf_31 : decode prog_10_method_14_code 31 = .ok (.iload_n 1, 1) := by decide +kernel
theorem dX8_inPlaceOf_32 : decode prog_10_method_14_code 32 = .ok (.aload_n 0, 1) := by decide +kernel
theorem dX8_inPlaceOf_33 : decode prog_10_method_14_code 33 = .ok (.getfield 21, 3) := by decide +kernel
theorem dX8_inPlaceOf_36 : decode prog_10_method_14_code 36 = .ok (.if_icmp .ne 26, 3) := by decide +kernel
theorem dX8_inPlaceOf_39 : decode prog_10_method_14_code 39 = .ok (.aload_n 0, 1) := by decide +kernel
theorem dX8_inPlaceOf_40 : decode prog_10_method_14_code 40 = .ok (.getfield 18, 3) := by decide +kernel
theorem dX8_inPlaceOf_43 : decode prog_10_method_14_code 43 = .ok (.ifCond .lt 19, 3) := by decide +kernel
theorem dX8_inPlaceOf_46 : decode prog_10_method_14_code 46 = .ok (.iload_n 2, 1) := by decide +kernel
theorem dX8_inPlaceOf_47 : decode prog_10_method_14_code 47 = .ok (.aload_n 0, 1) := by decide +kernel
theorem dX8_inPlaceOf_48 : decode prog_10_method_14_code 48 = .ok (.getfield 18, 3) := by decide +kernel
theorem dX8_inPlaceOf_51 : decode prog_10_method_14_code 51 = .ok (.invokestatic 115, 3) := by decide +kernel
theorem dX8_inPlaceOf_54 : decode prog_10_method_14_code 54 = .ok (.ifCond .eq 8, 3) := by decide +kernel
theorem dX8_inPlaceOf_57 : decode prog_10_method_14_code 57 = .ok (.aload_n 0, 1) := by decide +kernel
theorem dX8_inPlaceOf_58 : decode prog_10_method_14_code 58 = .ok (.getfield 18, 3) := by decide +kernel
theorem dX8_inPlaceOf_61 : decode prog_10_method_14_code 61 = .ok (.ireturn, 1) := by decide +kernel
theorem dX8_inPlaceOf_62 : decode prog_10_method_14_code 62 = .ok (.iload_n 1, 1) := by decide +kernel
theorem dX8_inPlaceOf_63 : decode prog_10_method_14_code 63 = .ok (.ireturn, 1) := by decide +kernel
theorem dX8_soldTo_0 : decode prog_10_method_15_code 0 = .ok (.iload_n 2, 1) := by decide +kernel
theorem dX8_soldTo_1 : decode prog_10_method_15_code 1 = .ok (.istore_n 3, 1) := by decide +kernel
theorem dX8_soldTo_2 : decode prog_10_method_15_code 2 = .ok (.aload_n 0, 1) := by decide +kernel
theorem dX8_soldTo_3 : decode prog_10_method_15_code 3 = .ok (.iload_n 1, 1) := by decide +kernel
theorem dX8_soldTo_4 : decode prog_10_method_15_code 4 = .ok (.invokevirtual 89, 3) := by decide +kernel
theorem dX8_soldTo_7 : decode prog_10_method_15_code 7 = .ok (.istore 4, 2) := by decide +kernel
theorem dX8_soldTo_9 : decode prog_10_method_15_code 9 = .ok (.aload_n 0, 1) := by decide +kernel
theorem dX8_soldTo_10 : decode prog_10_method_15_code 10 = .ok (.getfield 56, 3) := by decide +kernel
theorem dX8_soldTo_13 : decode prog_10_method_15_code 13 = .ok (.getfield 60, 3) := by decide +kernel
theorem dX8_soldTo_16 : decode prog_10_method_15_code 16 = .ok (.astore 5, 2) := by decide +kernel
theorem dX8_soldTo_18 : decode prog_10_method_15_code 18 = .ok (.iconst 0, 1) := by decide +kernel
theorem dX8_soldTo_19 : decode prog_10_method_15_code 19 = .ok (.istore 6, 2) := by decide +kernel
theorem dX8_soldTo_21 : decode prog_10_method_15_code 21 = .ok (.iload 6, 2) := by decide +kernel
theorem dX8_soldTo_23 : decode prog_10_method_15_code 23 = .ok (.aload 5, 2) := by decide +kernel
theorem dX8_soldTo_25 : decode prog_10_method_15_code 25 = .ok (.getfield 150, 3) := by decide +kernel
theorem dX8_soldTo_28 : decode prog_10_method_15_code 28 = .ok (.if_icmp .ge 65, 3) := by decide +kernel
theorem dX8_soldTo_31 : decode prog_10_method_15_code 31 = .ok (.iload_n 3, 1) := by decide +kernel
theorem dX8_soldTo_32 : decode prog_10_method_15_code 32 = .ok (.ifCond .lt 61, 3) := by decide +kernel
theorem dX8_soldTo_35 : decode prog_10_method_15_code 35 = .ok (.aload 5, 2) := by decide +kernel
theorem dX8_soldTo_37 : decode prog_10_method_15_code 37 = .ok (.getfield 153, 3) := by decide +kernel
theorem dX8_soldTo_40 : decode prog_10_method_15_code 40 = .ok (.iload 6, 2) := by decide +kernel
theorem dX8_soldTo_42 : decode prog_10_method_15_code 42 = .ok (.aaload, 1) := by decide +kernel
theorem dX8_soldTo_43 : decode prog_10_method_15_code 43 = .ok (.astore 7, 2) := by decide +kernel
theorem dX8_soldTo_45 : decode prog_10_method_15_code 45 = .ok (.aload 7, 2) := by decide +kernel
theorem dX8_soldTo_47 : decode prog_10_method_15_code 47 = .ok (.iconst 0, 1) := by decide +kernel
theorem dX8_soldTo_48 : decode prog_10_method_15_code 48 = .ok (.iaload, 1) := by decide +kernel
theorem dX8_soldTo_49 : decode prog_10_method_15_code 49 = .ok (.iload_n 1, 1) := by decide +kernel
theorem dX8_soldTo_50 : decode prog_10_method_15_code 50 = .ok (.if_icmp .ne 37, 3) := by decide +kernel
theorem dX8_soldTo_53 : decode prog_10_method_15_code 53 = .ok (.aload 7, 2) := by decide +kernel
theorem dX8_soldTo_55 : decode prog_10_method_15_code 55 = .ok (.iconst 1, 1) := by decide +kernel
theorem dX8_soldTo_56 : decode prog_10_method_15_code 56 = .ok (.iaload, 1) := by decide +kernel
theorem dX8_soldTo_57 : decode prog_10_method_15_code 57 = .ok (.iload_n 3, 1) := by decide +kernel
theorem dX8_soldTo_58 : decode prog_10_method_15_code 58 = .ok (.if_icmp .ne 29, 3) := by decide +kernel
theorem dX8_soldTo_61 : decode prog_10_method_15_code 61 = .ok (.iload 4, 2) := by decide +kernel
theorem dX8_soldTo_63 : decode prog_10_method_15_code 63 = .ok (.aload 7, 2) := by decide +kernel
theorem dX8_soldTo_65 : decode prog_10_method_15_code 65 = .ok (.iconst 2, 1) := by decide +kernel
theorem dX8_soldTo_66 : decode prog_10_method_15_code 66 = .ok (.iaload, 1) := by decide +kernel
theorem dX8_soldTo_67 : decode prog_10_method_15_code 67 = .ok (.invokestatic 115, 3) := by decide +kernel
theorem dX8_soldTo_70 : decode prog_10_method_15_code 70 = .ok (.ifCond .eq 17, 3) := by decide +kernel
theorem dX8_soldTo_73 : decode prog_10_method_15_code 73 = .ok (.aload_n 0, 1) := by decide +kernel
theorem dX8_soldTo_74 : decode prog_10_method_15_code 74 = .ok (.iload_n 3, 1) := by decide +kernel
theorem dX8_soldTo_75 : decode prog_10_method_15_code 75 = .ok (.aload 7, 2) := by decide +kernel
theorem dX8_soldTo_77 : decode prog_10_method_15_code 77 = .ok (.iconst 2, 1) := by decide +kernel
theorem dX8_soldTo_78 : decode prog_10_method_15_code 78 = .ok (.iaload, 1) := by decide +kernel
theorem dX8_soldTo_79 : decode prog_10_method_15_code 79 = .ok (.aload 7, 2) := by decide +kernel
theorem dX8_soldTo_81 : decode prog_10_method_15_code 81 = .ok (.iconst 3, 1) := by decide +kernel
theorem dX8_soldTo_82 : decode prog_10_method_15_code 82 = .ok (.iaload, 1) := by decide +kernel
theorem dX8_soldTo_83 : decode prog_10_method_15_code 83 = .ok (.invokevirtual 156, 3) := by decide +kernel
theorem dX8_soldTo_86 : decode prog_10_method_15_code 86 = .ok (.istore_n 3, 1) := by decide +kernel
theorem dX8_soldTo_87 : decode prog_10_method_15_code 87 = .ok (.iinc 6 1, 3) := by decide +kernel
theorem dX8_soldTo_90 : decode prog_10_method_15_code 90 = .ok (.goto (-69), 3) := by decide +kernel
theorem dX8_soldTo_93 : decode prog_10_method_15_code 93 = .ok (.aload_n 0, 1) := by decide +kernel
theorem dX8_soldTo_94 : decode prog_10_method_15_code 94 = .ok (.getfield 56, 3) := by decide +kernel
theorem dX8_soldTo_97 : decode prog_10_method_15_code 97 = .ok (.getfield 160, 3) := by decide +kernel
theorem dX8_soldTo_100 : decode prog_10_method_15_code 100 = .ok (.getfield 164, 3) := by decide +kernel
theorem dX8_soldTo_103 : decode prog_10_method_15_code 103 = .ok (.astore 6, 2) := by decide +kernel
theorem dX8_soldTo_105 : decode prog_10_method_15_code 105 = .ok (.iconst 0, 1) := by decide +kernel
theorem dX8_soldTo_106 : decode prog_10_method_15_code 106 = .ok (.istore 7, 2) := by decide +kernel
theorem dX8_soldTo_108 : decode prog_10_method_15_code 108 = .ok (.iload 7, 2) := by decide +kernel
theorem dX8_soldTo_110 : decode prog_10_method_15_code 110 = .ok (.aload_n 0, 1) := by decide +kernel
theorem dX8_soldTo_111 : decode prog_10_method_15_code 111 = .ok (.getfield 56, 3) := by decide +kernel
theorem dX8_soldTo_114 : decode prog_10_method_15_code 114 = .ok (.getfield 160, 3) := by decide +kernel
theorem dX8_soldTo_117 : decode prog_10_method_15_code 117 = .ok (.getfield 168, 3) := by decide +kernel
theorem dX8_soldTo_120 : decode prog_10_method_15_code 120 = .ok (.if_icmp .ge 76, 3) := by decide +kernel
theorem dX8_soldTo_123 : decode prog_10_method_15_code 123 = .ok (.iload_n 3, 1) := by decide +kernel
theorem dX8_soldTo_124 : decode prog_10_method_15_code 124 = .ok (.ifCond .lt 72, 3) := by decide +kernel
theorem dX8_soldTo_127 : decode prog_10_method_15_code 127 = .ok (.iload 7, 2) := by decide +kernel
theorem dX8_soldTo_129 : decode prog_10_method_15_code 129 = .ok (.iconst 4, 1) := by decide +kernel
theorem dX8_soldTo_130 : decode prog_10_method_15_code 130 = .ok (.imul, 1) := by decide +kernel
theorem dX8_soldTo_131 : decode prog_10_method_15_code 131 = .ok (.istore 8, 2) := by decide +kernel
theorem dX8_soldTo_133 : decode prog_10_method_15_code 133 = .ok (.aload 6, 2) := by decide +kernel
theorem dX8_soldTo_135 : decode prog_10_method_15_code 135 = .ok (.iload 8, 2) := by decide +kernel
theorem dX8_soldTo_137 : decode prog_10_method_15_code 137 = .ok (.iconst 0, 1) := by decide +kernel
theorem dX8_soldTo_138 : decode prog_10_method_15_code 138 = .ok (.iadd, 1) := by decide +kernel
theorem dX8_soldTo_139 : decode prog_10_method_15_code 139 = .ok (.iaload, 1) := by decide +kernel
theorem dX8_soldTo_140 : decode prog_10_method_15_code 140 = .ok (.iload_n 1, 1) := by decide +kernel
theorem dX8_soldTo_141 : decode prog_10_method_15_code 141 = .ok (.if_icmp .ne 49, 3) := by decide +kernel
theorem dX8_soldTo_144 : decode prog_10_method_15_code 144 = .ok (.aload 6, 2) := by decide +kernel
theorem dX8_soldTo_146 : decode prog_10_method_15_code 146 = .ok (.iload 8, 2) := by decide +kernel
theorem dX8_soldTo_148 : decode prog_10_method_15_code 148 = .ok (.iconst 1, 1) := by decide +kernel
theorem dX8_soldTo_149 : decode prog_10_method_15_code 149 = .ok (.iadd, 1) := by decide +kernel
theorem dX8_soldTo_150 : decode prog_10_method_15_code 150 = .ok (.iaload, 1) := by decide +kernel
theorem dX8_soldTo_151 : decode prog_10_method_15_code 151 = .ok (.iload_n 3, 1) := by decide +kernel
theorem dX8_soldTo_152 : decode prog_10_method_15_code 152 = .ok (.if_icmp .ne 38, 3) := by decide +kernel
theorem dX8_soldTo_155 : decode prog_10_method_15_code 155 = .ok (.iload 4, 2) := by decide +kernel
theorem dX8_soldTo_157 : decode prog_10_method_15_code 157 = .ok (.aload 6, 2) := by decide +kernel
theorem dX8_soldTo_159 : decode prog_10_method_15_code 159 = .ok (.iload 8, 2) := by decide +kernel
theorem dX8_soldTo_161 : decode prog_10_method_15_code 161 = .ok (.iconst 2, 1) := by decide +kernel
theorem dX8_soldTo_162 : decode prog_10_method_15_code 162 = .ok (.iadd, 1) := by decide +kernel
theorem dX8_soldTo_163 : decode prog_10_method_15_code 163 = .ok (.iaload, 1) := by decide +kernel
theorem dX8_soldTo_164 : decode prog_10_method_15_code 164 = .ok (.invokestatic 115, 3) := by decide +kernel
theorem dX8_soldTo_167 : decode prog_10_method_15_code 167 = .ok (.ifCond .eq 23, 3) := by decide +kernel
theorem dX8_soldTo_170 : decode prog_10_method_15_code 170 = .ok (.aload_n 0, 1) := by decide +kernel
theorem dX8_soldTo_171 : decode prog_10_method_15_code 171 = .ok (.iload_n 3, 1) := by decide +kernel
theorem dX8_soldTo_172 : decode prog_10_method_15_code 172 = .ok (.aload 6, 2) := by decide +kernel
theorem dX8_soldTo_174 : decode prog_10_method_15_code 174 = .ok (.iload 8, 2) := by decide +kernel
theorem dX8_soldTo_176 : decode prog_10_method_15_code 176 = .ok (.iconst 2, 1) := by decide +kernel
theorem dX8_soldTo_177 : decode prog_10_method_15_code 177 = .ok (.iadd, 1) := by decide +kernel
theorem dX8_soldTo_178 : decode prog_10_method_15_code 178 = .ok (.iaload, 1) := by decide +kernel
theorem dX8_soldTo_179 : decode prog_10_method_15_code 179 = .ok (.aload 6, 2) := by decide +kernel
theorem dX8_soldTo_181 : decode prog_10_method_15_code 181 = .ok (.iload 8, 2) := by decide +kernel
theorem dX8_soldTo_183 : decode prog_10_method_15_code 183 = .ok (.iconst 3, 1) := by decide +kernel
theorem dX8_soldTo_184 : decode prog_10_method_15_code 184 = .ok (.iadd, 1) := by decide +kernel
theorem dX8_soldTo_185 : decode prog_10_method_15_code 185 = .ok (.iaload, 1) := by decide +kernel
theorem dX8_soldTo_186 : decode prog_10_method_15_code 186 = .ok (.invokevirtual 156, 3) := by decide +kernel
theorem dX8_soldTo_189 : decode prog_10_method_15_code 189 = .ok (.istore_n 3, 1) := by decide +kernel
theorem dX8_soldTo_190 : decode prog_10_method_15_code 190 = .ok (.iinc 7 1, 3) := by decide +kernel
theorem dX8_soldTo_193 : decode prog_10_method_15_code 193 = .ok (.goto (-85), 3) := by decide +kernel
theorem dX8_soldTo_196 : decode prog_10_method_15_code 196 = .ok (.iload_n 3, 1) := by decide +kernel
theorem dX8_soldTo_197 : decode prog_10_method_15_code 197 = .ok (.ireturn, 1) := by decide +kernel
theorem dX8_pay_0 : decode prog_10_method_16_code 0 = .ok (.aload_n 0, 1) := by decide +kernel
theorem dX8_pay_1 : decode prog_10_method_16_code 1 = .ok (.getfield 50, 3) := by decide +kernel
theorem dX8_pay_4 : decode prog_10_method_16_code 4 = .ok (.iload_n 1, 1) := by decide +kernel
theorem dX8_pay_5 : decode prog_10_method_16_code 5 = .ok (.dup2, 1) := by decide +kernel
theorem dX8_pay_6 : decode prog_10_method_16_code 6 = .ok (.iaload, 1) := by decide +kernel
theorem dX8_pay_7 : decode prog_10_method_16_code 7 = .ok (.iload_n 3, 1) := by decide +kernel
theorem dX8_pay_8 : decode prog_10_method_16_code 8 = .ok (.isub, 1) := by decide +kernel
theorem dX8_pay_9 : decode prog_10_method_16_code 9 = .ok (.iastore, 1) := by decide +kernel
theorem dX8_pay_10 : decode prog_10_method_16_code 10 = .ok (.aload_n 0, 1) := by decide +kernel
theorem dX8_pay_11 : decode prog_10_method_16_code 11 = .ok (.getfield 50, 3) := by decide +kernel
theorem dX8_pay_14 : decode prog_10_method_16_code 14 = .ok (.iload_n 2, 1) := by decide +kernel
theorem dX8_pay_15 : decode prog_10_method_16_code 15 = .ok (.dup2, 1) := by decide +kernel
theorem dX8_pay_16 : decode prog_10_method_16_code 16 = .ok (.iaload, 1) := by decide +kernel
theorem dX8_pay_17 : decode prog_10_method_16_code 17 = .ok (.iload_n 3, 1) := by decide +kernel
theorem dX8_pay_18 : decode prog_10_method_16_code 18 = .ok (.iadd, 1) := by decide +kernel
theorem dX8_pay_19 : decode prog_10_method_16_code 19 = .ok (.iastore, 1) := by decide +kernel
theorem dX8_pay_20 : decode prog_10_method_16_code 20 = .ok (.iload_n 2, 1) := by decide +kernel
theorem dX8_pay_21 : decode prog_10_method_16_code 21 = .ok (.ireturn, 1) := by decide +kernel
theorem dX8_takeTurn_0 : decode prog_10_method_17_code 0 = .ok (.aload_n 0, 1) := by decide +kernel
theorem dX8_takeTurn_1 : decode prog_10_method_17_code 1 = .ok (.getfield 53, 3) := by decide +kernel
theorem dX8_takeTurn_4 : decode prog_10_method_17_code 4 = .ok (.iload_n 1, 1) := by decide +kernel
theorem dX8_takeTurn_5 : decode prog_10_method_17_code 5 = .ok (.iload_n 2, 1) := by decide +kernel
theorem dX8_takeTurn_6 : decode prog_10_method_17_code 6 = .ok (.iastore, 1) := by decide +kernel
theorem dX8_takeTurn_7 : decode prog_10_method_17_code 7 = .ok (.aload_n 0, 1) := by decide +kernel
theorem dX8_takeTurn_8 : decode prog_10_method_17_code 8 = .ok (.getfield 27, 3) := by decide +kernel
theorem dX8_takeTurn_11 : decode prog_10_method_17_code 11 = .ok (.ifCond .eq 13, 3) := by decide +kernel
theorem dX8_takeTurn_14 : decode prog_10_method_17_code 14 = .ok (.aload_n 0, 1) := by decide +kernel
theorem dX8_takeTurn_15 : decode prog_10_method_17_code 15 = .ok (.dup, 1) := by decide +kernel
theorem dX8_takeTurn_16 : decode prog_10_method_17_code 16 = .ok (.getfield 40, 3) := by decide +kernel
theorem dX8_takeTurn_19 : decode prog_10_method_17_code 19 = .ok (.iconst 1, 1) := by decide +kernel
theorem dX8_takeTurn_20 : decode prog_10_method_17_code 20 = .ok (.iadd, 1) := by decide +kernel
theorem dX8_takeTurn_21 : decode prog_10_method_17_code 21 = .ok (.putfield 40, 3) := by decide +kernel
theorem dX8_takeTurn_24 : decode prog_10_method_17_code 24 = .ok (.aload_n 0, 1) := by decide +kernel
theorem dX8_takeTurn_25 : decode prog_10_method_17_code 25 = .ok (.iconst 0, 1) := by decide +kernel
theorem dX8_takeTurn_26 : decode prog_10_method_17_code 26 = .ok (.putfield 27, 3) := by decide +kernel
theorem dX8_takeTurn_29 : decode prog_10_method_17_code 29 = .ok (.iload_n 2, 1) := by decide +kernel
theorem dX8_takeTurn_30 : decode prog_10_method_17_code 30 = .ok (.ifCond .ge 4, 3) := by decide +kernel
theorem dX8_takeTurn_33 : decode prog_10_method_17_code 33 = .ok (.return_, 1) := by decide +kernel
theorem dX8_takeTurn_34 : decode prog_10_method_17_code 34 = .ok (.aload_n 0, 1) := by decide +kernel
theorem dX8_takeTurn_35 : decode prog_10_method_17_code 35 = .ok (.iload_n 2, 1) := by decide +kernel
theorem dX8_takeTurn_36 : decode prog_10_method_17_code 36 = .ok (.putfield 31, 3) := by decide +kernel
theorem dX8_takeTurn_39 : decode prog_10_method_17_code 39 = .ok (.aload_n 0, 1) := by decide +kernel
theorem dX8_takeTurn_40 : decode prog_10_method_17_code 40 = .ok (.getfield 43, 3) := by decide +kernel
theorem dX8_takeTurn_43 : decode prog_10_method_17_code 43 = .ok (.iload_n 2, 1) := by decide +kernel
theorem dX8_takeTurn_44 : decode prog_10_method_17_code 44 = .ok (.dup2, 1) := by decide +kernel
theorem dX8_takeTurn_45 : decode prog_10_method_17_code 45 = .ok (.iaload, 1) := by decide +kernel
theorem dX8_takeTurn_46 : decode prog_10_method_17_code 46 = .ok (.iconst 1, 1) := by decide +kernel
theorem dX8_takeTurn_47 : decode prog_10_method_17_code 47 = .ok (.iadd, 1) := by decide +kernel
theorem dX8_takeTurn_48 : decode prog_10_method_17_code 48 = .ok (.iastore, 1) := by decide +kernel
theorem dX8_takeTurn_49 : decode prog_10_method_17_code 49 = .ok (.aload_n 0, 1) := by decide +kernel
theorem dX8_takeTurn_50 : decode prog_10_method_17_code 50 = .ok (.getfield 47, 3) := by decide +kernel
theorem dX8_takeTurn_53 : decode prog_10_method_17_code 53 = .ok (.iload_n 2, 1) := by decide +kernel
theorem dX8_takeTurn_54 : decode prog_10_method_17_code 54 = .ok (.dup2, 1) := by decide +kernel
theorem dX8_takeTurn_55 : decode prog_10_method_17_code 55 = .ok (.iaload, 1) := by decide +kernel
theorem dX8_takeTurn_56 : decode prog_10_method_17_code 56 = .ok (.iconst 1, 1) := by decide +kernel
theorem dX8_takeTurn_57 : decode prog_10_method_17_code 57 = .ok (.isub, 1) := by decide +kernel
theorem dX8_takeTurn_58 : decode prog_10_method_17_code 58 = .ok (.iastore, 1) := by decide +kernel
theorem dX8_takeTurn_59 : decode prog_10_method_17_code 59 = .ok (.aload_n 0, 1) := by decide +kernel
theorem dX8_takeTurn_60 : decode prog_10_method_17_code 60 = .ok (.dup, 1) := by decide +kernel
theorem dX8_takeTurn_61 : decode prog_10_method_17_code 61 = .ok (.getfield 34, 3) := by decide +kernel
theorem dX8_takeTurn_64 : decode prog_10_method_17_code 64 = .ok (.aload_n 0, 1) := by decide +kernel
theorem dX8_takeTurn_65 : decode prog_10_method_17_code 65 = .ok (.getfield 56, 3) := by decide +kernel
theorem dX8_takeTurn_68 : decode prog_10_method_17_code 68 = .ok (.getfield 103, 3) := by decide +kernel
theorem dX8_takeTurn_71 : decode prog_10_method_17_code 71 = .ok (.getfield 171, 3) := by decide +kernel
theorem dX8_takeTurn_74 : decode prog_10_method_17_code 74 = .ok (.iload_n 1, 1) := by decide +kernel
theorem dX8_takeTurn_75 : decode prog_10_method_17_code 75 = .ok (.bipush 10, 2) := by decide +kernel
theorem dX8_takeTurn_77 : decode prog_10_method_17_code 77 = .ok (.imul, 1) := by decide +kernel
theorem dX8_takeTurn_78 : decode prog_10_method_17_code 78 = .ok (.iload_n 2, 1) := by decide +kernel
theorem dX8_takeTurn_79 : decode prog_10_method_17_code 79 = .ok (.iadd, 1) := by decide +kernel
theorem dX8_takeTurn_80 : decode prog_10_method_17_code 80 = .ok (.iaload, 1) := by decide +kernel
theorem dX8_takeTurn_81 : decode prog_10_method_17_code 81 = .ok (.iadd, 1) := by decide +kernel
theorem dX8_takeTurn_82 : decode prog_10_method_17_code 82 = .ok (.putfield 34, 3) := by decide +kernel
theorem dX8_takeTurn_85 : decode prog_10_method_17_code 85 = .ok (.aload_n 0, 1) := by decide +kernel
theorem dX8_takeTurn_86 : decode prog_10_method_17_code 86 = .ok (.getfield 56, 3) := by decide +kernel
theorem dX8_takeTurn_89 : decode prog_10_method_17_code 89 = .ok (.getfield 60, 3) := by decide +kernel
theorem dX8_takeTurn_92 : decode prog_10_method_17_code 92 = .ok (.getfield 71, 3) := by decide +kernel
theorem dX8_takeTurn_95 : decode prog_10_method_17_code 95 = .ok (.iload_n 2, 1) := by decide +kernel
theorem dX8_takeTurn_96 : decode prog_10_method_17_code 96 = .ok (.aaload, 1) := by decide +kernel
theorem dX8_takeTurn_97 : decode prog_10_method_17_code 97 = .ok (.iconst 0, 1) := by decide +kernel
theorem dX8_takeTurn_98 : decode prog_10_method_17_code 98 = .ok (.iaload, 1) := by decide +kernel
theorem dX8_takeTurn_99 : decode prog_10_method_17_code 99 = .ok (.iconst 2, 1) := by decide +kernel
theorem dX8_takeTurn_100 : decode prog_10_method_17_code 100 = .ok (.if_icmp .ne 22, 3) := by decide +kernel
theorem dX8_takeTurn_103 : decode prog_10_method_17_code 103 = .ok (.aload_n 0, 1) := by decide +kernel
theorem dX8_takeTurn_104 : decode prog_10_method_17_code 104 = .ok (.getfield 50, 3) := by decide +kernel
theorem dX8_takeTurn_107 : decode prog_10_method_17_code 107 = .ok (.iload_n 2, 1) := by decide +kernel
theorem dX8_takeTurn_108 : decode prog_10_method_17_code 108 = .ok (.dup2, 1) := by decide +kernel
theorem dX8_takeTurn_109 : decode prog_10_method_17_code 109 = .ok (.iaload, 1) := by decide +kernel
theorem dX8_takeTurn_110 : decode prog_10_method_17_code 110 = .ok (.aload_n 0, 1) := by decide +kernel
theorem dX8_takeTurn_111 : decode prog_10_method_17_code 111 = .ok (.getfield 56, 3) := by decide +kernel
theorem dX8_takeTurn_114 : decode prog_10_method_17_code 114 = .ok (.getfield 60, 3) := by decide +kernel
theorem dX8_takeTurn_117 : decode prog_10_method_17_code 117 = .ok (.getfield 173, 3) := by decide +kernel
theorem dX8_takeTurn_120 : decode prog_10_method_17_code 120 = .ok (.isub, 1) := by decide +kernel
theorem dX8_takeTurn_121 : decode prog_10_method_17_code 121 = .ok (.iastore, 1) := by decide +kernel
theorem dX8_takeTurn_122 : decode prog_10_method_17_code 122 = .ok (.aload_n 0, 1) := by decide +kernel
theorem dX8_takeTurn_123 : decode prog_10_method_17_code 123 = .ok (.getfield 47, 3) := by decide +kernel
theorem dX8_takeTurn_126 : decode prog_10_method_17_code 126 = .ok (.iload_n 2, 1) := by decide +kernel
theorem dX8_takeTurn_127 : decode prog_10_method_17_code 127 = .ok (.iaload, 1) := by decide +kernel
theorem dX8_takeTurn_128 : decode prog_10_method_17_code 128 = .ok (.ifCond .gt 30, 3) := by decide +kernel
theorem dX8_takeTurn_131 : decode prog_10_method_17_code 131 = .ok (.aload_n 0, 1) := by decide +kernel
theorem dX8_takeTurn_132 : decode prog_10_method_17_code 132 = .ok (.dup, 1) := by decide +kernel
theorem dX8_takeTurn_133 : decode prog_10_method_17_code 133 = .ok (.getfield 24, 3) := by decide +kernel
theorem dX8_takeTurn_136 : decode prog_10_method_17_code 136 = .ok (.iconst 1, 1) := by decide +kernel
theorem dX8_takeTurn_137 : decode prog_10_method_17_code 137 = .ok (.iload_n 2, 1) := by decide +kernel
theorem dX8_takeTurn_138 : decode prog_10_method_17_code 138 = .ok (.ishl, 1) := by decide +kernel
theorem dX8_takeTurn_139 : decode prog_10_method_17_code 139 = .ok (.ior, 1) := by decide +kernel
theorem dX8_takeTurn_140 : decode prog_10_method_17_code 140 = .ok (.putfield 24, 3) := by decide +kernel
theorem dX8_takeTurn_143 : decode prog_10_method_17_code 143 = .ok (.aload_n 0, 1) := by decide +kernel
theorem dX8_takeTurn_144 : decode prog_10_method_17_code 144 = .ok (.iconst 1, 1) := by decide +kernel
theorem dX8_takeTurn_145 : decode prog_10_method_17_code 145 = .ok (.putfield 27, 3) := by decide +kernel
theorem dX8_takeTurn_148 : decode prog_10_method_17_code 148 = .ok (.aload_n 0, 1) := by decide +kernel
theorem dX8_takeTurn_149 : decode prog_10_method_17_code 149 = .ok (.dup, 1) := by decide +kernel
theorem dX8_takeTurn_150 : decode prog_10_method_17_code 150 = .ok (.getfield 37, 3) := by decide +kernel
theorem dX8_takeTurn_153 : decode prog_10_method_17_code 153 = .ok (.iconst 1, 1) := by decide +kernel
theorem dX8_takeTurn_154 : decode prog_10_method_17_code 154 = .ok (.iadd, 1) := by decide +kernel
theorem dX8_takeTurn_155 : decode prog_10_method_17_code 155 = .ok (.putfield 37, 3) := by decide +kernel
theorem dX8_takeTurn_158 : decode prog_10_method_17_code 158 = .ok (.return_, 1) := by decide +kernel
theorem dX8_spread_0 : decode prog_10_method_18_code 0 = .ok (.aload_n 0, 1) := by decide +kernel
theorem dX8_spread_1 : decode prog_10_method_18_code 1 = .ok (.getfield 56, 3) := by decide +kernel
theorem dX8_spread_4 : decode prog_10_method_18_code 4 = .ok (.getfield 60, 3) := by decide +kernel
theorem dX8_spread_7 : decode prog_10_method_18_code 7 = .ok (.getfield 75, 3) := by decide +kernel
theorem dX8_spread_10 : decode prog_10_method_18_code 10 = .ok (.iconst 1, 1) := by decide +kernel
theorem dX8_spread_11 : decode prog_10_method_18_code 11 = .ok (.isub, 1) := by decide +kernel
theorem dX8_spread_12 : decode prog_10_method_18_code 12 = .ok (.istore_n 1, 1) := by decide +kernel
theorem dX8_spread_13 : decode prog_10_method_18_code 13 = .ok (.iload_n 1, 1) := by decide +kernel
theorem dX8_spread_14 : decode prog_10_method_18_code 14 = .ok (.ifCond .ge 7, 3) := by decide +kernel
theorem dX8_spread_17 : decode prog_10_method_18_code 17 = .ok (.iconst 0, 1) := by decide +kernel
theorem dX8_spread_18 : decode prog_10_method_18_code 18 = .ok (.goto 8, 3) := by decide +kernel
theorem dX8_spread_21 : decode prog_10_method_18_code 21 = .ok (.aload_n 0, 1) := by decide +kernel
theorem dX8_spread_22 : decode prog_10_method_18_code 22 = .ok (.iload_n 1, 1) := by decide +kernel
theorem dX8_spread_23 : decode prog_10_method_18_code 23 = .ok (.invokevirtual 144, 3) := by decide +kernel
theorem dX8_spread_26 : decode prog_10_method_18_code 26 = .ok (.istore_n 2, 1) := by decide +kernel
theorem dX8_spread_27 : decode prog_10_method_18_code 27 = .ok (.iload_n 2, 1) := by decide +kernel
theorem dX8_spread_28 : decode prog_10_method_18_code 28 = .ok (.ifCond .ne 5, 3) := by decide +kernel
theorem dX8_spread_31 : decode prog_10_method_18_code 31 = .ok (.iconst 0, 1) := by decide +kernel
theorem dX8_spread_32 : decode prog_10_method_18_code 32 = .ok (.ireturn, 1) := by decide +kernel
theorem dX8_spread_33 : decode prog_10_method_18_code 33 = .ok (.iconst 0, 1) := by decide +kernel
theorem dX8_spread_34 : decode prog_10_method_18_code 34 = .ok (.istore_n 3, 1) := by decide +kernel
theorem dX8_spread_35 : decode prog_10_method_18_code 35 = .ok (.ldc 134, 2) := by decide +kernel
theorem dX8_spread_37 : decode prog_10_method_18_code 37 = .ok (.istore 4, 2) := by decide +kernel
theorem dX8_spread_39 : decode prog_10_method_18_code 39 = .ok (.iconst 0, 1) := by decide +kernel
theorem dX8_spread_40 : decode prog_10_method_18_code 40 = .ok (.istore 5, 2) := by decide +kernel
theorem dX8_spread_42 : decode prog_10_method_18_code 42 = .ok (.iload 5, 2) := by decide +kernel
theorem dX8_spread_44 : decode prog_10_method_18_code 44 = .ok (.aload_n 0, 1) := by decide +kernel
theorem dX8_spread_45 : decode prog_10_method_18_code 45 = .ok (.getfield 56, 3) := by decide +kernel
theorem dX8_spread_48 : decode prog_10_method_18_code 48 = .ok (.getfield 60, 3) := by decide +kernel
theorem dX8_spread_51 : decode prog_10_method_18_code 51 = .ok (.getfield 66, 3) := by decide +kernel
theorem dX8_spread_54 : decode prog_10_method_18_code 54 = .ok (.if_icmp .ge 44, 3) := by decide +kernel
theorem dX8_spread_57 : decode prog_10_method_18_code 57 = .ok (.iload_n 2, 1) := by decide +kernel
theorem dX8_spread_58 : decode prog_10_method_18_code 58 = .ok (.iload 5, 2) := by decide +kernel
theorem dX8_spread_60 : decode prog_10_method_18_code 60 = .ok (.invokestatic 115, 3) := by decide +kernel
theorem dX8_spread_63 : decode prog_10_method_18_code 63 = .ok (.ifCond .eq 29, 3) := by decide +kernel
theorem dX8_spread_66 : decode prog_10_method_18_code 66 = .ok (.iload_n 3, 1) := by decide +kernel
theorem dX8_spread_67 : decode prog_10_method_18_code 67 = .ok (.aload_n 0, 1) := by decide +kernel
theorem dX8_spread_68 : decode prog_10_method_18_code 68 = .ok (.getfield 43, 3) := by decide +kernel
theorem dX8_spread_71 : decode prog_10_method_18_code 71 = .ok (.iload 5, 2) := by decide +kernel
theorem dX8_spread_73 : decode prog_10_method_18_code 73 = .ok (.iaload, 1) := by decide +kernel
theorem dX8_spread_74 : decode prog_10_method_18_code 74 = .ok (.invokestatic 176, 3) := by decide +kernel
theorem dX8_spread_77 : decode prog_10_method_18_code 77 = .ok (.istore_n 3, 1) := by decide +kernel
theorem dX8_spread_78 : decode prog_10_method_18_code 78 = .ok (.iload 4, 2) := by decide +kernel
theorem dX8_spread_80 : decode prog_10_method_18_code 80 = .ok (.aload_n 0, 1) := by decide +kernel
theorem dX8_spread_81 : decode prog_10_method_18_code 81 = .ok (.getfield 43, 3) := by decide +kernel
theorem dX8_spread_84 : decode prog_10_method_18_code 84 = .ok (.iload 5, 2) := by decide +kernel
theorem dX8_spread_86 : decode prog_10_method_18_code 86 = .ok (.iaload, 1) := by decide +kernel
theorem dX8_spread_87 : decode prog_10_method_18_code 87 = .ok (.invokestatic 181, 3) := by decide +kernel
theorem dX8_spread_90 : decode prog_10_method_18_code 90 = .ok (.istore 4, 2) := by decide +kernel
theorem dX8_spread_92 : decode prog_10_method_18_code 92 = .ok (.iinc 5 1, 3) := by decide +kernel
theorem dX8_spread_95 : decode prog_10_method_18_code 95 = .ok (.goto (-53), 3) := by decide +kernel
theorem dX8_spread_98 : decode prog_10_method_18_code 98 = .ok (.iload_n 3, 1) := by decide +kernel
theorem dX8_spread_99 : decode prog_10_method_18_code 99 = .ok (.iload 4, 2) := by decide +kernel
theorem dX8_spread_101 : decode prog_10_method_18_code 101 = .ok (.isub, 1) := by decide +kernel
theorem dX8_spread_102 : decode prog_10_method_18_code 102 = .ok (.ireturn, 1) := by decide +kernel
theorem dX6_init_0 : decode prog_8_method_1_code 0 = .ok (.aload_n 0, 1) := by decide +kernel
theorem dX6_init_1 : decode prog_8_method_1_code 1 = .ok (.invokespecial 3, 3) := by decide +kernel
theorem dX6_init_4 : decode prog_8_method_1_code 4 = .ok (.aload_n 0, 1) := by decide +kernel
theorem dX6_init_5 : decode prog_8_method_1_code 5 = .ok (.new 9, 3) := by decide +kernel
theorem dX6_init_8 : decode prog_8_method_1_code 8 = .ok (.dup, 1) := by decide +kernel
theorem dX6_init_9 : decode prog_8_method_1_code 9 = .ok (.invokespecial 11, 3) := by decide +kernel
theorem dX6_init_12 : decode prog_8_method_1_code 12 = .ok (.putfield 12, 3) := by decide +kernel
theorem dX6_init_15 : decode prog_8_method_1_code 15 = .ok (.aload_n 0, 1) := by decide +kernel
theorem dX6_init_16 : decode prog_8_method_1_code 16 = .ok (.iconst 0, 1) := by decide +kernel
theorem dX6_init_17 : decode prog_8_method_1_code 17 = .ok (.putfield 18, 3) := by decide +kernel
theorem dX6_init_20 : decode prog_8_method_1_code 20 = .ok (.aload_n 0, 1) := by decide +kernel
theorem dX6_init_21 : decode prog_8_method_1_code 21 = .ok (.iconst (-1), 1) := by decide +kernel
theorem dX6_init_22 : decode prog_8_method_1_code 22 = .ok (.putfield 22, 3) := by decide +kernel
theorem dX6_init_25 : decode prog_8_method_1_code 25 = .ok (.aload_n 0, 1) := by decide +kernel
theorem dX6_init_26 : decode prog_8_method_1_code 26 = .ok (.sipush 1100, 3) := by decide +kernel
theorem dX6_init_29 : decode prog_8_method_1_code 29 = .ok (.newarray .byte, 2) := by decide +kernel
theorem dX6_init_31 : decode prog_8_method_1_code 31 = .ok (.putfield 25, 3) := by decide +kernel
theorem dX6_init_34 : decode prog_8_method_1_code 34 = .ok (.aload_n 0, 1) := by decide +kernel
theorem dX6_init_35 : decode prog_8_method_1_code 35 = .ok (.iconst 0, 1) := by decide +kernel
theorem dX6_init_36 : decode prog_8_method_1_code 36 = .ok (.putfield 29, 3) := by decide +kernel
theorem dX6_init_39 : decode prog_8_method_1_code 39 = .ok (.aload_n 0, 1) := by decide +kernel
theorem dX6_init_40 : decode prog_8_method_1_code 40 = .ok (.iconst 0, 1) := by decide +kernel
theorem dX6_init_41 : decode prog_8_method_1_code 41 = .ok (.putfield 32, 3) := by decide +kernel
theorem dX6_init_44 : decode prog_8_method_1_code 44 = .ok (.aload_n 0, 1) := by decide +kernel
theorem dX6_init_45 : decode prog_8_method_1_code 45 = .ok (.iconst 0, 1) := by decide +kernel
theorem dX6_init_46 : decode prog_8_method_1_code 46 = .ok (.putfield 35, 3) := by decide +kernel
theorem dX6_init_49 : decode prog_8_method_1_code 49 = .ok (.aload_n 0, 1) := by decide +kernel
theorem dX6_init_50 : decode prog_8_method_1_code 50 = .ok (.iconst 0, 1) := by decide +kernel
theorem dX6_init_51 : decode prog_8_method_1_code 51 = .ok (.putfield 38, 3) := by decide +kernel
theorem dX6_init_54 : decode prog_8_method_1_code 54 = .ok (.aload_n 0, 1) := by decide +kernel
theorem dX6_init_55 : decode prog_8_method_1_code 55 = .ok (.iconst 0, 1) := by decide +kernel
theorem dX6_init_56 : decode prog_8_method_1_code 56 = .ok (.putfield 41, 3) := by decide +kernel
theorem dX6_init_59 : decode prog_8_method_1_code 59 = .ok (.aload_n 0, 1) := by decide +kernel
theorem dX6_init_60 : decode prog_8_method_1_code 60 = .ok (.iconst 0, 1) := by decide +kernel
theorem dX6_init_61 : decode prog_8_method_1_code 61 = .ok (.putfield 44, 3) := by decide +kernel
theorem dX6_init_64 : decode prog_8_method_1_code 64 = .ok (.aload_n 0, 1) := by decide +kernel
theorem dX6_init_65 : decode prog_8_method_1_code 65 = .ok (.iconst 0, 1) := by decide +kernel
theorem dX6_init_66 : decode prog_8_method_1_code 66 = .ok (.putfield 47, 3) := by decide +kernel
theorem dX6_init_69 : decode prog_8_method_1_code 69 = .ok (.aload_n 0, 1) := by decide +kernel
theorem dX6_init_70 : decode prog_8_method_1_code 70 = .ok (.iconst 0, 1) := by decide +kernel
theorem dX6_init_71 : decode prog_8_method_1_code 71 = .ok (.putfield 50, 3) := by decide +kernel
theorem dX6_init_74 : decode prog_8_method_1_code 74 = .ok (.aload_n 0, 1) := by decide +kernel
theorem dX6_init_75 : decode prog_8_method_1_code 75 = .ok (.iconst 0, 1) := by decide +kernel
theorem dX6_init_76 : decode prog_8_method_1_code 76 = .ok (.putfield 53, 3) := by decide +kernel
theorem dX6_init_79 : decode prog_8_method_1_code 79 = .ok (.aload_n 0, 1) := by decide +kernel
theorem dX6_init_80 : decode prog_8_method_1_code 80 = .ok (.bipush 18, 2) := by decide +kernel
theorem dX6_init_82 : decode prog_8_method_1_code 82 = .ok (.newarray .int, 2) := by decide +kernel
theorem dX6_init_84 : decode prog_8_method_1_code 84 = .ok (.putfield 56, 3) := by decide +kernel
theorem dX6_init_87 : decode prog_8_method_1_code 87 = .ok (.aload_n 0, 1) := by decide +kernel
theorem dX6_init_88 : decode prog_8_method_1_code 88 = .ok (.bipush 18, 2) := by decide +kernel
theorem dX6_init_90 : decode prog_8_method_1_code 90 = .ok (.newarray .int, 2) := by decide +kernel
theorem dX6_init_92 : decode prog_8_method_1_code 92 = .ok (.putfield 60, 3) := by decide +kernel
theorem dX6_init_95 : decode prog_8_method_1_code 95 = .ok (.aload_n 0, 1) := by decide +kernel
theorem dX6_init_96 : decode prog_8_method_1_code 96 = .ok (.bipush 18, 2) := by decide +kernel
theorem dX6_init_98 : decode prog_8_method_1_code 98 = .ok (.newarray .int, 2) := by decide +kernel
theorem dX6_init_100 : decode prog_8_method_1_code 100 = .ok (.putfield 63, 3) := by decide +kernel
theorem dX6_init_103 : decode prog_8_method_1_code 103 = .ok (.aload_n 0, 1) := by decide +kernel
theorem dX6_init_104 : decode prog_8_method_1_code 104 = .ok (.bipush 18, 2) := by decide +kernel
theorem dX6_init_106 : decode prog_8_method_1_code 106 = .ok (.newarray .boolean, 2) := by decide +kernel
theorem dX6_init_108 : decode prog_8_method_1_code 108 = .ok (.putfield 66, 3) := by decide +kernel
theorem dX6_init_111 : decode prog_8_method_1_code 111 = .ok (.aload_n 0, 1) := by decide +kernel
theorem dX6_init_112 : decode prog_8_method_1_code 112 = .ok (.iconst 3, 1) := by decide +kernel
theorem dX6_init_113 : decode prog_8_method_1_code 113 = .ok (.newarray .int, 2) := by decide +kernel
theorem dX6_init_115 : decode prog_8_method_1_code 115 = .ok (.putfield 70, 3) := by decide +kernel
theorem dX6_init_118 : decode prog_8_method_1_code 118 = .ok (.return_, 1) := by decide +kernel
theorem dX6_putBytes_0 : decode prog_8_method_2_code 0 = .ok (.bipush 24, 2) := by decide +kernel
theorem dX6_putBytes_2 : decode prog_8_method_2_code 2 = .ok (.istore_n 2, 1) := by decide +kernel
theorem dX6_putBytes_3 : decode prog_8_method_2_code 3 = .ok (.iload_n 2, 1) := by decide +kernel
theorem dX6_putBytes_4 : decode prog_8_method_2_code 4 = .ok (.ifCond .lt 42, 3) := by decide +kernel
theorem dX6_putBytes_7 : decode prog_8_method_2_code 7 = .ok (.aload_n 0, 1) := by decide +kernel
theorem dX6_putBytes_8 : decode prog_8_method_2_code 8 = .ok (.getfield 29, 3) := by decide +kernel
theorem dX6_putBytes_11 : decode prog_8_method_2_code 11 = .ok (.sipush 1100, 3) := by decide +kernel
theorem dX6_putBytes_14 : decode prog_8_method_2_code 14 = .ok (.if_icmp .ge 32, 3) := by decide +kernel
theorem dX6_putBytes_17 : decode prog_8_method_2_code 17 = .ok (.aload_n 0, 1) := by decide +kernel
theorem dX6_putBytes_18 : decode prog_8_method_2_code 18 = .ok (.getfield 25, 3) := by decide +kernel
theorem dX6_putBytes_21 : decode prog_8_method_2_code 21 = .ok (.aload_n 0, 1) := by decide +kernel
theorem dX6_putBytes_22 : decode prog_8_method_2_code 22 = .ok (.getfield 29, 3) := by decide +kernel
theorem dX6_putBytes_25 : decode prog_8_method_2_code 25 = .ok (.iload_n 1, 1) := by decide +kernel
theorem dX6_putBytes_26 : decode prog_8_method_2_code 26 = .ok (.iload_n 2, 1) := by decide +kernel
theorem dX6_putBytes_27 : decode prog_8_method_2_code 27 = .ok (.iushr, 1) := by decide +kernel
theorem dX6_putBytes_28 : decode prog_8_method_2_code 28 = .ok (.i2b, 1) := by decide +kernel
theorem dX6_putBytes_29 : decode prog_8_method_2_code 29 = .ok (.bastore, 1) := by decide +kernel
theorem dX6_putBytes_30 : decode prog_8_method_2_code 30 = .ok (.aload_n 0, 1) := by decide +kernel
theorem dX6_putBytes_31 : decode prog_8_method_2_code 31 = .ok (.dup, 1) := by decide +kernel
theorem dX6_putBytes_32 : decode prog_8_method_2_code 32 = .ok (.getfield 29, 3) := by decide +kernel
theorem dX6_putBytes_35 : decode prog_8_method_2_code 35 = .ok (.iconst 1, 1) := by decide +kernel
theorem dX6_putBytes_36 : decode prog_8_method_2_code 36 = .ok (.iadd, 1) := by decide +kernel
theorem dX6_putBytes_37 : decode prog_8_method_2_code 37 = .ok (.putfield 29, 3) := by decide +kernel
theorem dX6_putBytes_40 : decode prog_8_method_2_code 40 = .ok (.iinc 2 (-8), 3) := by decide +kernel
theorem dX6_putBytes_43 : decode prog_8_method_2_code 43 = .ok (.goto (-40), 3) := by decide +kernel
theorem dX6_putBytes_46 : decode prog_8_method_2_code 46 = .ok (.return_, 1) := by decide +kernel
theorem dX6_readText_0 : decode prog_8_method_3_code 0 = .ok (.aload_n 0, 1) := by decide +kernel
theorem dX6_readText_1 : decode prog_8_method_3_code 1 = .ok (.iload_n 1, 1) := by decide +kernel
theorem dX6_readText_2 : decode prog_8_method_3_code 2 = .ok (.aload_n 0, 1) := by decide +kernel
theorem dX6_readText_3 : decode prog_8_method_3_code 3 = .ok (.getfield 29, 3) := by decide +kernel
theorem dX6_readText_6 : decode prog_8_method_3_code 6 = .ok (.invokestatic 73, 3) := by decide +kernel
theorem dX6_readText_9 : decode prog_8_method_3_code 9 = .ok (.putfield 32, 3) := by decide +kernel
theorem dX6_readText_12 : decode prog_8_method_3_code 12 = .ok (.aload_n 0, 1) := by decide +kernel
theorem dX6_readText_13 : decode prog_8_method_3_code 13 = .ok (.iconst 0, 1) := by decide +kernel
theorem dX6_readText_14 : decode prog_8_method_3_code 14 = .ok (.putfield 29, 3) := by decide +kernel
theorem dX6_readText_17 : decode prog_8_method_3_code 17 = .ok (.aload_n 0, 1) := by decide +kernel
theorem dX6_readText_18 : decode prog_8_method_3_code 18 = .ok (.iconst 0, 1) := by decide +kernel
theorem dX6_readText_19 : decode prog_8_method_3_code 19 = .ok (.putfield 35, 3) := by decide +kernel
theorem dX6_readText_22 : decode prog_8_method_3_code 22 = .ok (.aload_n 0, 1) := by decide +kernel
theorem dX6_readText_23 : decode prog_8_method_3_code 23 = .ok (.iconst 0, 1) := by decide +kernel
theorem dX6_readText_24 : decode prog_8_method_3_code 24 = .ok (.putfield 18, 3) := by decide +kernel
theorem dX6_readText_27 : decode prog_8_method_3_code 27 = .ok (.aload_n 0, 1) := by decide +kernel
theorem dX6_readText_28 : decode prog_8_method_3_code 28 = .ok (.iconst (-1), 1) := by decide +kernel
theorem dX6_readText_29 : decode prog_8_method_3_code 29 = .ok (.putfield 22, 3) := by decide +kernel
theorem dX6_readText_32 : decode prog_8_method_3_code 32 = .ok (.aload_n 0, 1) := by decide +kernel
theorem dX6_readText_33 : decode prog_8_method_3_code 33 = .ok (.iconst 0, 1) := by decide +kernel
theorem dX6_readText_34 : decode prog_8_method_3_code 34 = .ok (.putfield 53, 3) := by decide +kernel
theorem dX6_readText_37 : decode prog_8_method_3_code 37 = .ok (.aload_n 0, 1) := by decide +kernel
theorem dX6_readText_38 : decode prog_8_method_3_code 38 = .ok (.getfield 12, 3) := by decide +kernel
theorem dX6_readText_41 : decode prog_8_method_3_code 41 = .ok (.invokevirtual 79, 3) := by decide +kernel
theorem dX6_readText_44 : decode prog_8_method_3_code 44 = .ok (.aload_n 0, 1) := by decide +kernel
theorem dX6_readText_45 : decode prog_8_method_3_code 45 = .ok (.invokevirtual 82, 3) := by decide +kernel
theorem dX6_readText_48 : decode prog_8_method_3_code 48 = .ok (.aload_n 0, 1) := by decide +kernel
theorem dX6_readText_49 : decode prog_8_method_3_code 49 = .ok (.invokevirtual 85, 3) := by decide +kernel
theorem dX6_readText_52 : decode prog_8_method_3_code 52 = .ok (.istore_n 2, 1) := by decide +kernel
theorem dX6_readText_53 : decode prog_8_method_3_code 53 = .ok (.iconst 0, 1) := by decide +kernel
theorem dX6_readText_54 : decode prog_8_method_3_code 54 = .ok (.istore_n 3, 1) := by decide +kernel
theorem dX6_readText_55 : decode prog_8_method_3_code 55 = .ok (.iload_n 3, 1) := by decide +kernel
theorem dX6_readText_56 : decode prog_8_method_3_code 56 = .ok (.sipush 1100, 3) := by decide +kernel
theorem dX6_readText_59 : decode prog_8_method_3_code 59 = .ok (.if_icmp .ge 30, 3) := by decide +kernel
theorem dX6_readText_62 : decode prog_8_method_3_code 62 = .ok (.iload_n 2, 1) := by decide +kernel
theorem dX6_readText_63 : decode prog_8_method_3_code 63 = .ok (.ifCond .eq 26, 3) := by decide +kernel
theorem dX6_readText_66 : decode prog_8_method_3_code 66 = .ok (.aload_n 0, 1) := by decide +kernel
theorem dX6_readText_67 : decode prog_8_method_3_code 67 = .ok (.getfield 38, 3) := by decide +kernel
theorem dX6_readText_70 : decode prog_8_method_3_code 70 = .ok (.iconst 3, 1) := by decide +kernel
theorem dX6_readText_71 : decode prog_8_method_3_code 71 = .ok (.if_icmp .ne 18, 3) := by decide +kernel
theorem dX6_readText_74 : decode prog_8_method_3_code 74 = .ok (.aload_n 0, 1) := by decide +kernel
theorem dX6_readText_75 : decode prog_8_method_3_code 75 = .ok (.invokevirtual 82, 3) := by decide +kernel
theorem dX6_readText_78 : decode prog_8_method_3_code 78 = .ok (.aload_n 0, 1) := by decide +kernel
theorem dX6_readText_79 : decode prog_8_method_3_code 79 = .ok (.invokevirtual 85, 3) := by decide +kernel
theorem dX6_readText_82 : decode prog_8_method_3_code 82 = .ok (.istore_n 2, 1) := by decide +kernel
theorem dX6_readText_83 : decode prog_8_method_3_code 83 = .ok (.iinc 3 1, 3) := by decide +kernel
theorem dX6_readText_86 : decode prog_8_method_3_code 86 = .ok (.goto (-31), 3) := by decide +kernel
theorem dX6_readText_89 : decode prog_8_method_3_code 89 = .ok (.iload_n 2, 1) := by decide +kernel
theorem dX6_readText_90 : decode prog_8_method_3_code 90 = .ok (.ifCond .ne 5, 3) := by decide +kernel
theorem dX6_readText_93 : decode prog_8_method_3_code 93 = .ok (.iconst 0, 1) := by decide +kernel
theorem dX6_readText_94 : decode prog_8_method_3_code 94 = .ok (.ireturn, 1) := by decide +kernel
theorem dX6_readText_95 : decode prog_8_method_3_code 95 = .ok (.aload_n 0, 1) := by decide +kernel
theorem dX6_readText_96 : decode prog_8_method_3_code 96 = .ok (.getfield 38, 3) := by decide +kernel
theorem dX6_readText_99 : decode prog_8_method_3_code 99 = .ok (.ifCond .eq 9, 3) := by decide +kernel
theorem dX6_readText_102 : decode prog_8_method_3_code 102 = .ok (.aload_n 0, 1) := by decide +kernel
theorem dX6_readText_103 : decode prog_8_method_3_code 103 = .ok (.iconst 1, 1) := by decide +kernel
theorem dX6_readText_104 : decode prog_8_method_3_code 104 = .ok (.invokevirtual 89, 3) := by decide +kernel
theorem dX6_readText_107 : decode prog_8_method_3_code 107 = .ok (.ireturn, 1) := by decide +kernel
theorem dX6_readText_108 : decode prog_8_method_3_code 108 = .ok (.aload_n 0, 1) := by decide +kernel
theorem dX6_readText_109 : decode prog_8_method_3_code 109 = .ok (.getfield 12, 3) := by decide +kernel
theorem dX6_readText_112 : decode prog_8_method_3_code 112 = .ok (.getfield 93, 3) := by decide +kernel
theorem dX6_readText_115 : decode prog_8_method_3_code 115 = .ok (.ifCond .gt 12, 3) := by decide +kernel
theorem dX6_readText_118 : decode prog_8_method_3_code 118 = .ok (.aload_n 0, 1) := by decide +kernel
theorem dX6_readText_119 : decode prog_8_method_3_code 119 = .ok (.bipush 6, 2) := by decide +kernel
theorem dX6_readText_121 : decode prog_8_method_3_code 121 = .ok (.invokevirtual 89, 3) := by decide +kernel
theorem dX6_readText_124 : decode prog_8_method_3_code 124 = .ok (.ifCond .eq 7, 3) := by decide +kernel
theorem dX6_readText_127 : decode prog_8_method_3_code 127 = .ok (.iconst 1, 1) := by decide +kernel
theorem dX6_readText_128 : decode prog_8_method_3_code 128 = .ok (.goto 4, 3) := by decide +kernel
theorem dX6_readText_131 : decode prog_8_method_3_code 131 = .ok (.iconst 0, 1) := by decide +kernel
theorem dX6_readText_132 : decode prog_8_method_3_code 132 = .ok (.ireturn, 1) := by decide +kernel
theorem dX6_fail_0 : decode prog_8_method_4_code 0 = .ok (.aload_n 0, 1) := by decide +kernel
theorem dX6_fail_1 : decode prog_8_method_4_code 1 = .ok (.iload_n 1, 1) := by decide +kernel
theorem dX6_fail_2 : decode prog_8_method_4_code 2 = .ok (.putfield 18, 3) := by decide +kernel
theorem dX6_fail_5 : decode prog_8_method_4_code 5 = .ok (.aload_n 0, 1) := by decide +kernel
theorem dX6_fail_6 : decode prog_8_method_4_code 6 = .ok (.aload_n 0, 1) := by decide +kernel
theorem dX6_fail_7 : decode prog_8_method_4_code 7 = .ok (.getfield 41, 3) := by decide +kernel
theorem dX6_fail_10 : decode prog_8_method_4_code 10 = .ok (.putfield 22, 3) := by decide +kernel
theorem dX6_fail_13 : decode prog_8_method_4_code 13 = .ok (.iconst 0, 1) := by decide +kernel
theorem dX6_fail_14 : decode prog_8_method_4_code 14 = .ok (.ireturn, 1) := by decide +kernel
theorem dX6_advance_0 : decode prog_8_method_5_code 0 = .ok (.aload_n 0, 1) := by decide +kernel
theorem dX6_advance_1 : decode prog_8_method_5_code 1 = .ok (.aload_n 0, 1) := by decide +kernel
theorem dX6_advance_2 : decode prog_8_method_5_code 2 = .ok (.bipush 32, 2) := by decide +kernel
theorem dX6_advance_4 : decode prog_8_method_5_code 4 = .ok (.bipush 32, 2) := by decide +kernel
theorem dX6_advance_6 : decode prog_8_method_5_code 6 = .ok (.invokevirtual 96, 3) := by decide +kernel
theorem dX6_advance_9 : decode prog_8_method_5_code 9 = .ok (.putfield 35, 3) := by decide +kernel
theorem dX6_advance_12 : decode prog_8_method_5_code 12 = .ok (.aload_n 0, 1) := by decide +kernel
theorem dX6_advance_13 : decode prog_8_method_5_code 13 = .ok (.aload_n 0, 1) := by decide +kernel
theorem dX6_advance_14 : decode prog_8_method_5_code 14 = .ok (.getfield 35, 3) := by decide +kernel
theorem dX6_advance_17 : decode prog_8_method_5_code 17 = .ok (.putfield 41, 3) := by decide +kernel
theorem dX6_advance_20 : decode prog_8_method_5_code 20 = .ok (.aload_n 0, 1) := by decide +kernel
theorem dX6_advance_21 : decode prog_8_method_5_code 21 = .ok (.getfield 35, 3) := by decide +kernel
theorem dX6_advance_24 : decode prog_8_method_5_code 24 = .ok (.aload_n 0, 1) := by decide +kernel
theorem dX6_advance_25 : decode prog_8_method_5_code 25 = .ok (.getfield 32, 3) := by decide +kernel
theorem dX6_advance_28 : decode prog_8_method_5_code 28 = .ok (.if_icmp .lt 9, 3) := by decide +kernel
theorem dX6_advance_31 : decode prog_8_method_5_code 31 = .ok (.aload_n 0, 1) := by decide +kernel
theorem dX6_advance_32 : decode prog_8_method_5_code 32 = .ok (.iconst 0, 1) := by decide +kernel
theorem dX6_advance_33 : decode prog_8_method_5_code 33 = .ok (.putfield 38, 3) := by decide +kernel
theorem dX6_advance_36 : decode prog_8_method_5_code 36 = .ok (.return_, 1) := by decide +kernel
theorem dX6_advance_37 : decode prog_8_method_5_code 37 = .ok (.aload_n 0, 1) := by decide +kernel
theorem dX6_advance_38 : decode prog_8_method_5_code 38 = .ok (.aload_n 0, 1) := by decide +kernel
theorem dX6_advance_39 : decode prog_8_method_5_code 39 = .ok (.bipush 97, 2) := by decide +kernel
theorem dX6_advance_41 : decode prog_8_method_5_code 41 = .ok (.bipush 122, 2) := by decide +kernel
theorem dX6_advance_43 : decode prog_8_method_5_code 43 = .ok (.invokevirtual 96, 3) := by decide +kernel
theorem dX6_advance_46 : decode prog_8_method_5_code 46 = .ok (.putfield 35, 3) := by decide +kernel
theorem dX6_advance_49 : decode prog_8_method_5_code 49 = .ok (.aload_n 0, 1) := by decide +kernel
theorem dX6_advance_50 : decode prog_8_method_5_code 50 = .ok (.getfield 35, 3) := by decide +kernel
theorem dX6_advance_53 : decode prog_8_method_5_code 53 = .ok (.aload_n 0, 1) := by decide +kernel
theorem dX6_advance_54 : decode prog_8_method_5_code 54 = .ok (.getfield 41, 3) := by decide +kernel
theorem dX6_advance_57 : decode prog_8_method_5_code 57 = .ok (.if_icmp .le 35, 3) := by decide +kernel
theorem dX6_advance_60 : decode prog_8_method_5_code 60 = .ok (.aload_n 0, 1) := by decide +kernel
theorem dX6_advance_61 : decode prog_8_method_5_code 61 = .ok (.aload_n 0, 1) := by decide +kernel
theorem dX6_advance_62 : decode prog_8_method_5_code 62 = .ok (.getfield 35, 3) := by decide +kernel
theorem dX6_advance_65 : decode prog_8_method_5_code 65 = .ok (.aload_n 0, 1) := by decide +kernel
theorem dX6_advance_66 : decode prog_8_method_5_code 66 = .ok (.getfield 41, 3) := by decide +kernel
theorem dX6_advance_69 : decode prog_8_method_5_code 69 = .ok (.isub, 1) := by decide +kernel
theorem dX6_advance_70 : decode prog_8_method_5_code 70 = .ok (.putfield 44, 3) := by decide +kernel
theorem dX6_advance_73 : decode prog_8_method_5_code 73 = .ok (.aload_n 0, 1) := by decide +kernel
theorem dX6_advance_74 : decode prog_8_method_5_code 74 = .ok (.aload_n 0, 1) := by decide +kernel
theorem dX6_advance_75 : decode prog_8_method_5_code 75 = .ok (.getfield 44, 3) := by decide +kernel
theorem dX6_advance_78 : decode prog_8_method_5_code 78 = .ok (.bipush 8, 2) := by decide +kernel
theorem dX6_advance_80 : decode prog_8_method_5_code 80 = .ok (.if_icmp .gt 7, 3) := by decide +kernel
theorem dX6_advance_83 : decode prog_8_method_5_code 83 = .ok (.iconst 1, 1) := by decide +kernel
theorem dX6_advance_84 : decode prog_8_method_5_code 84 = .ok (.goto 4, 3) := by decide +kernel
theorem dX6_advance_87 : decode prog_8_method_5_code 87 = .ok (.iconst 4, 1) := by decide +kernel
theorem dX6_advance_88 : decode prog_8_method_5_code 88 = .ok (.putfield 38, 3) := by decide +kernel
theorem dX6_advance_91 : decode prog_8_method_5_code 91 = .ok (.return_, 1) := by decide +kernel
theorem dX6_advance_92 : decode prog_8_method_5_code 92 = .ok (.aload_n 0, 1) := by decide +kernel
theorem dX6_advance_93 : decode prog_8_method_5_code 93 = .ok (.aload_n 0, 1) := by decide +kernel
theorem dX6_advance_94 : decode prog_8_method_5_code 94 = .ok (.bipush 48, 2) := by decide +kernel
theorem dX6_advance_96 : decode prog_8_method_5_code 96 = .ok (.bipush 57, 2) := by decide +kernel
theorem dX6_advance_98 : decode prog_8_method_5_code 98 = .ok (.invokevirtual 96, 3) := by decide +kernel
theorem dX6_advance_101 : decode prog_8_method_5_code 101 = .ok (.putfield 35, 3) := by decide +kernel
theorem dX6_advance_104 : decode prog_8_method_5_code 104 = .ok (.aload_n 0, 1) := by decide +kernel
theorem dX6_advance_105 : decode prog_8_method_5_code 105 = .ok (.getfield 35, 3) := by decide +kernel
theorem dX6_advance_108 : decode prog_8_method_5_code 108 = .ok (.aload_n 0, 1) := by decide +kernel
theorem dX6_advance_109 : decode prog_8_method_5_code 109 = .ok (.getfield 41, 3) := by decide +kernel
theorem dX6_advance_112 : decode prog_8_method_5_code 112 = .ok (.if_icmp .le 42, 3) := by decide +kernel
theorem dX6_advance_115 : decode prog_8_method_5_code 115 = .ok (.aload_n 0, 1) := by decide +kernel
theorem dX6_advance_116 : decode prog_8_method_5_code 116 = .ok (.aload_n 0, 1) := by decide +kernel
theorem dX6_advance_117 : decode prog_8_method_5_code 117 = .ok (.getfield 35, 3) := by decide +kernel
theorem dX6_advance_120 : decode prog_8_method_5_code 120 = .ok (.aload_n 0, 1) := by decide +kernel
theorem dX6_advance_121 : decode prog_8_method_5_code 121 = .ok (.getfield 41, 3) := by decide +kernel
theorem dX6_advance_124 : decode prog_8_method_5_code 124 = .ok (.isub, 1) := by decide +kernel
theorem dX6_advance_125 : decode prog_8_method_5_code 125 = .ok (.iconst 3, 1) := by decide +kernel
theorem dX6_advance_126 : decode prog_8_method_5_code 126 = .ok (.if_icmp .gt 7, 3) := by decide +kernel
theorem dX6_advance_129 : decode prog_8_method_5_code 129 = .ok (.iconst 2, 1) := by decide +kernel
theorem dX6_advance_130 : decode prog_8_method_5_code 130 = .ok (.goto 4, 3) := by decide +kernel
theorem dX6_advance_133 : decode prog_8_method_5_code 133 = .ok (.iconst 4, 1) := by decide +kernel
theorem dX6_advance_134 : decode prog_8_method_5_code 134 = .ok (.putfield 38, 3) := by decide +kernel
theorem dX6_advance_137 : decode prog_8_method_5_code 137 = .ok (.aload_n 0, 1) := by decide +kernel
theorem dX6_advance_138 : decode prog_8_method_5_code 138 = .ok (.aload_n 0, 1) := by decide +kernel
theorem dX6_advance_139 : decode prog_8_method_5_code 139 = .ok (.aload_n 0, 1) := by decide +kernel
theorem dX6_advance_140 : decode prog_8_method_5_code 140 = .ok (.getfield 41, 3) := by decide +kernel
theorem dX6_advance_143 : decode prog_8_method_5_code 143 = .ok (.aload_n 0, 1) := by decide +kernel
theorem dX6_advance_144 : decode prog_8_method_5_code 144 = .ok (.getfield 35, 3) := by decide +kernel
theorem dX6_advance_147 : decode prog_8_method_5_code 147 = .ok (.invokevirtual 100, 3) := by decide +kernel
theorem dX6_advance_150 : decode prog_8_method_5_code 150 = .ok (.putfield 47, 3) := by decide +kernel
theorem dX6_advance_153 : decode prog_8_method_5_code 153 = .ok (.return_, 1) := by decide +kernel
theorem dX6_advance_154 : decode prog_8_method_5_code 154 = .ok (.aload_n 0, 1) := by decide +kernel
theorem dX6_advance_155 : decode prog_8_method_5_code 155 = .ok (.aload_n 0, 1) := by decide +kernel
theorem dX6_advance_156 : decode prog_8_method_5_code 156 = .ok (.getfield 25, 3) := by decide +kernel
theorem dX6_advance_159 : decode prog_8_method_5_code 159 = .ok (.aload_n 0, 1) := by decide +kernel
theorem dX6_advance_160 : decode prog_8_method_5_code 160 = .ok (.getfield 35, 3) := by decide +kernel
theorem dX6_advance_163 : decode prog_8_method_5_code 163 = .ok (.baload, 1) := by decide +kernel
theorem dX6_advance_164 : decode prog_8_method_5_code 164 = .ok (.bipush 59, 2) := by decide +kernel
theorem dX6_advance_166 : decode prog_8_method_5_code 166 = .ok (.if_icmp .ne 7, 3) := by decide +kernel
theorem dX6_advance_169 : decode prog_8_method_5_code 169 = .ok (.iconst 3, 1) := by decide +kernel
theorem dX6_advance_170 : decode prog_8_method_5_code 170 = .ok (.goto 4, 3) := by decide +kernel
theorem dX6_advance_173 : decode prog_8_method_5_code 173 = .ok (.iconst 4, 1) := by decide +kernel
theorem dX6_advance_174 : decode prog_8_method_5_code 174 = .ok (.putfield 38, 3) := by decide +kernel
theorem dX6_advance_177 : decode prog_8_method_5_code 177 = .ok (.aload_n 0, 1) := by decide +kernel
theorem dX6_advance_178 : decode prog_8_method_5_code 178 = .ok (.dup, 1) := by decide +kernel
theorem dX6_advance_179 : decode prog_8_method_5_code 179 = .ok (.getfield 35, 3) := by decide +kernel
theorem dX6_advance_182 : decode prog_8_method_5_code 182 = .ok (.iconst 1, 1) := by decide +kernel
theorem dX6_advance_183 : decode prog_8_method_5_code 183 = .ok (.iadd, 1) := by decide +kernel
theorem dX6_advance_184 : decode prog_8_method_5_code 184 = .ok (.putfield 35, 3) := by decide +kernel
theorem dX6_advance_187 : decode prog_8_method_5_code 187 = .ok (.return_, 1) := by decide +kernel
theorem dX6_endOfRun_0 : decode prog_8_method_6_code 0 = .ok (.aload_n 0, 1) := by decide +kernel
theorem dX6_endOfRun_1 : decode prog_8_method_6_code 1 = .ok (.getfield 35, 3) := by decide +kernel
theorem dX6_endOfRun_4 : decode prog_8_method_6_code 4 = .ok (.istore_n 3, 1) := by decide +kernel
theorem dX6_endOfRun_5 : decode prog_8_method_6_code 5 = .ok (.iload_n 3, 1) := by decide +kernel
theorem dX6_endOfRun_6 : decode prog_8_method_6_code 6 = .ok (.aload_n 0, 1) := by decide +kernel
theorem dX6_endOfRun_7 : decode prog_8_method_6_code 7 = .ok (.getfield 32, 3) := by decide +kernel
theorem dX6_endOfRun_10 : decode prog_8_method_6_code 10 = .ok (.if_icmp .ge 29, 3) := by decide +kernel
theorem dX6_endOfRun_13 : decode prog_8_method_6_code 13 = .ok (.aload_n 0, 1) := by decide +kernel
theorem dX6_endOfRun_14 : decode prog_8_method_6_code 14 = .ok (.getfield 25, 3) := by decide +kernel
theorem dX6_endOfRun_17 : decode prog_8_method_6_code 17 = .ok (.iload_n 3, 1) := by decide +kernel
theorem dX6_endOfRun_18 : decode prog_8_method_6_code 18 = .ok (.baload, 1) := by decide +kernel
theorem dX6_endOfRun_19 : decode prog_8_method_6_code 19 = .ok (.iload_n 1, 1) := by decide +kernel
theorem dX6_endOfRun_20 : decode prog_8_method_6_code 20 = .ok (.if_icmp .lt 19, 3) := by decide +kernel
theorem dX6_endOfRun_23 : decode prog_8_method_6_code 23 = .ok (.aload_n 0, 1) := by decide +kernel
theorem dX6_endOfRun_24 : decode prog_8_method_6_code 24 = .ok (.getfield 25, 3) := by decide +kernel
theorem dX6_endOfRun_27 : decode prog_8_method_6_code 27 = .ok (.iload_n 3, 1) := by decide +kernel
theorem dX6_endOfRun_28 : decode prog_8_method_6_code 28 = .ok (.baload, 1) := by decide +kernel
theorem dX6_endOfRun_29 : decode prog_8_method_6_code 29 = .ok (.iload_n 2, 1) := by decide +kernel
theorem dX6_endOfRun_30 : decode prog_8_method_6_code 30 = .ok (.if_icmp .gt 9, 3) := by decide +kernel
theorem dX6_endOfRun_33 : decode prog_8_method_6_code 33 = .ok (.iinc 3 1, 3) := by decide +kernel
theorem dX6_endOfRun_36 : decode prog_8_method_6_code 36 = .ok (.goto (-31), 3) := by decide +kernel
theorem dX6_endOfRun_39 : decode prog_8_method_6_code 39 = .ok (.iload_n 3, 1) := by decide +kernel
theorem dX6_endOfRun_40 : decode prog_8_method_6_code 40 = .ok (.ireturn, 1) := by decide +kernel
theorem dX6_wholeOf_0 : decode prog_8_method_7_code 0 = .ok (.iconst 0, 1) := by decide +kernel
theorem dX6_wholeOf_1 : decode prog_8_method_7_code 1 = .ok (.istore_n 3, 1) := by decide +kernel
theorem dX6_wholeOf_2 : decode prog_8_method_7_code 2 = .ok (.iload_n 1, 1) := by decide +kernel
theorem dX6_wholeOf_3 : decode prog_8_method_7_code 3 = .ok (.istore 4, 2) := by decide +kernel
theorem dX6_wholeOf_5 : decode prog_8_method_7_code 5 = .ok (.iload 4, 2) := by decide +kernel
theorem dX6_wholeOf_7 : decode prog_8_method_7_code 7 = .ok (.iload_n 2, 1) := by decide +kernel
theorem dX6_wholeOf_8 : decode prog_8_method_7_code 8 = .ok (.if_icmp .ge 25, 3) := by decide +kernel
theorem dX6_wholeOf_11 : decode prog_8_method_7_code 11 = .ok (.bipush 10, 2) := by decide +kernel
theorem dX6_wholeOf_13 : decode prog_8_method_7_code 13 = .ok (.iload_n 3, 1) := by decide +kernel
theorem dX6_wholeOf_14 : decode prog_8_method_7_code 14 = .ok (.imul, 1) := by decide +kernel
theorem dX6_wholeOf_15 : decode prog_8_method_7_code 15 = .ok (.aload_n 0, 1) := by decide +kernel
theorem dX6_wholeOf_16 : decode prog_8_method_7_code 16 = .ok (.getfield 25, 3) := by decide +kernel
theorem dX6_wholeOf_19 : decode prog_8_method_7_code 19 = .ok (.iload 4, 2) := by decide +kernel
theorem dX6_wholeOf_21 : decode prog_8_method_7_code 21 = .ok (.baload, 1) := by decide +kernel
theorem dX6_wholeOf_22 : decode prog_8_method_7_code 22 = .ok (.bipush 48, 2) := by decide +kernel
theorem dX6_wholeOf_24 : decode prog_8_method_7_code 24 = .ok (.isub, 1) := by decide +kernel
theorem dX6_wholeOf_25 : decode prog_8_method_7_code 25 = .ok (.iadd, 1) := by decide +kernel
theorem dX6_wholeOf_26 : decode prog_8_method_7_code 26 = .ok (.istore_n 3, 1) := by decide +kernel
theorem dX6_wholeOf_27 : decode prog_8_method_7_code 27 = .ok (.iinc 4 1, 3) := by decide +kernel
theorem dX6_wholeOf_30 : decode prog_8_method_7_code 30 = .ok (.goto (-25), 3) := by decide +kernel
theorem dX6_wholeOf_33 : decode prog_8_method_7_code 33 = .ok (.iload_n 3, 1) := by decide +kernel
theorem dX6_wholeOf_34 : decode prog_8_method_7_code 34 = .ok (.ireturn, 1) := by decide +kernel
theorem dX6_sees_0 : decode prog_8_method_8_code 0 = .ok (.aload_n 0, 1) := by decide +kernel
theorem dX6_sees_1 : decode prog_8_method_8_code 1 = .ok (.getfield 38, 3) := by decide +kernel
theorem dX6_sees_4 : decode prog_8_method_8_code 4 = .ok (.iconst 1, 1) := by decide +kernel
theorem dX6_sees_5 : decode prog_8_method_8_code 5 = .ok (.if_icmp .ne 14, 3) := by decide +kernel
theorem dX6_sees_8 : decode prog_8_method_8_code 8 = .ok (.aload_n 0, 1) := by decide +kernel
theorem dX6_sees_9 : decode prog_8_method_8_code 9 = .ok (.getfield 44, 3) := by decide +kernel
theorem dX6_sees_12 : decode prog_8_method_8_code 12 = .ok (.aload_n 1, 1) := by decide +kernel
theorem dX6_sees_13 : decode prog_8_method_8_code 13 = .ok (.invokevirtual 103, 3) := by decide +kernel
theorem dX6_sees_16 : decode prog_8_method_8_code 16 = .ok (.if_icmp .eq 5, 3) := by decide +kernel
theorem dX6_sees_19 : decode prog_8_method_8_code 19 = .ok (.iconst 0, 1) := by decide +kernel
theorem dX6_sees_20 : decode prog_8_method_8_code 20 = .ok (.ireturn, 1) := by decide +kernel
theorem dX6_sees_21 : decode prog_8_method_8_code 21 = .ok (.iconst 0, 1) := by decide +kernel
theorem dX6_sees_22 : decode prog_8_method_8_code 22 = .ok (.istore_n 2, 1) := by decide +kernel
theorem dX6_sees_23 : decode prog_8_method_8_code 23 = .ok (.iload_n 2, 1) := by decide +kernel
theorem dX6_sees_24 : decode prog_8_method_8_code 24 = .ok (.aload_n 0, 1) := by decide +kernel
theorem dX6_sees_25 : decode prog_8_method_8_code 25 = .ok (.getfield 44, 3) := by decide +kernel
theorem dX6_sees_28 : decode prog_8_method_8_code 28 = .ok (.if_icmp .ge 30, 3) := by decide +kernel
theorem dX6_sees_31 : decode prog_8_method_8_code 31 = .ok (.aload_n 0, 1) := by decide +kernel
theorem dX6_sees_32 : decode prog_8_method_8_code 32 = .ok (.getfield 25, 3) := by decide +kernel
theorem dX6_sees_35 : decode prog_8_method_8_code 35 = .ok (.aload_n 0, 1) := by decide +kernel
theorem dX6_sees_36 : decode prog_8_method_8_code 36 = .ok (.getfield 41, 3) := by decide +kernel
theorem dX6_sees_39 : decode prog_8_method_8_code 39 = .ok (.iload_n 2, 1) := by decide +kernel
theorem dX6_sees_40 : decode prog_8_method_8_code 40 = .ok (.iadd, 1) := by decide +kernel
theorem dX6_sees_41 : decode prog_8_method_8_code 41 = .ok (.baload, 1) := by decide +kernel
theorem dX6_sees_42 : decode prog_8_method_8_code 42 = .ok (.aload_n 1, 1) := by decide +kernel
theorem dX6_sees_43 : decode prog_8_method_8_code 43 = .ok (.iload_n 2, 1) := by decide +kernel
theorem dX6_sees_44 : decode prog_8_method_8_code 44 = .ok (.invokevirtual 108, 3) := by decide +kernel
theorem dX6_sees_47 : decode prog_8_method_8_code 47 = .ok (.if_icmp .eq 5, 3) := by decide +kernel
theorem dX6_sees_50 : decode prog_8_method_8_code 50 = .ok (.iconst 0, 1) := by decide +kernel
theorem dX6_sees_51 : decode prog_8_method_8_code 51 = .ok (.ireturn, 1) := by decide +kernel
theorem dX6_sees_52 : decode prog_8_method_8_code 52 = .ok (.iinc 2 1, 3) := by decide +kernel
theorem dX6_sees_55 : decode prog_8_method_8_code 55 = .ok (.goto (-32), 3) := by decide +kernel
theorem dX6_sees_58 : decode prog_8_method_8_code 58 = .ok (.iconst 1, 1) := by decide +kernel
theorem dX6_sees_59 : decode prog_8_method_8_code 59 = .ok (.ireturn, 1) := by decide +kernel
theorem dX6_takeWord_0 : decode prog_8_method_9_code 0 = .ok (.aload_n 0, 1) := by decide +kernel
theorem dX6_takeWord_1 : decode prog_8_method_9_code 1 = .ok (.aload_n 1, 1) := by decide +kernel
theorem dX6_takeWord_2 : decode prog_8_method_9_code 2 = .ok (.invokevirtual 112, 3) := by decide +kernel
theorem dX6_takeWord_5 : decode prog_8_method_9_code 5 = .ok (.ifCond .ne 9, 3) := by decide +kernel
theorem dX6_takeWord_8 : decode prog_8_method_9_code 8 = .ok (.aload_n 0, 1) := by decide +kernel
theorem dX6_takeWord_9 : decode prog_8_method_9_code 9 = .ok (.iconst 1, 1) := by decide +kernel
theorem dX6_takeWord_10 : decode prog_8_method_9_code 10 = .ok (.invokevirtual 89, 3) := by decide +kernel
theorem dX6_takeWord_13 : decode prog_8_method_9_code 13 = .ok (.ireturn, 1) := by decide +kernel
theorem dX6_takeWord_14 : decode prog_8_method_9_code 14 = .ok (.aload_n 0, 1) := by decide +kernel
theorem dX6_takeWord_15 : decode prog_8_method_9_code 15 = .ok (.invokevirtual 82, 3) := by decide +kernel
theorem dX6_takeWord_18 : decode prog_8_method_9_code 18 = .ok (.iconst 1, 1) := by decide +kernel
theorem dX6_takeWord_19 : decode prog_8_method_9_code 19 = .ok (.ireturn, 1) := by decide +kernel
theorem dX6_takeChoice_0 : decode prog_8_method_10_code 0 = .ok (.iload_n 3, 1) := by decide +kernel
theorem dX6_takeChoice_1 : decode prog_8_method_10_code 1 = .ok (.ifCond .ge 9, 3) := by decide +kernel
theorem dX6_takeChoice_4 : decode prog_8_method_10_code 4 = .ok (.aload_n 0, 1) := by decide +kernel
theorem dX6_takeChoice_5 : decode prog_8_method_10_code 5 = .ok (.iconst 1, 1) := by decide +kernel
theorem dX6_takeChoice_6 : decode prog_8_method_10_code 6 = .ok (.invokevirtual 89, 3) := by decide +kernel
theorem dX6_takeChoice_9 : decode prog_8_method_10_code 9 = .ok (.ireturn, 1) := by decide +kernel
theorem dX6_takeChoice_10 : decode prog_8_method_10_code 10 = .ok (.aload_n 1, 1) := by decide +kernel
theorem dX6_takeChoice_11 : decode prog_8_method_10_code 11 = .ok (.iload_n 2, 1) := by decide +kernel
theorem dX6_takeChoice_12 : decode prog_8_method_10_code 12 = .ok (.iload_n 3, 1) := by decide +kernel
theorem dX6_takeChoice_13 : decode prog_8_method_10_code 13 = .ok (.iastore, 1) := by decide +kernel
theorem dX6_takeChoice_14 : decode prog_8_method_10_code 14 = .ok (.aload_n 0, 1) := by decide +kernel
theorem dX6_takeChoice_15 : decode prog_8_method_10_code 15 = .ok (.invokevirtual 82, 3) := by decide +kernel
theorem dX6_takeChoice_18 : decode prog_8_method_10_code 18 = .ok (.iconst 1, 1) := by decide +kernel
theorem dX6_takeChoice_19 : decode prog_8_method_10_code 19 = .ok (.ireturn, 1) := by decide +kernel
theorem dX6_takeWhole_0 : decode prog_8_method_11_code 0 = .ok (.aload_n 0, 1) := by decide +kernel
theorem dX6_takeWhole_1 : decode prog_8_method_11_code 1 = .ok (.getfield 38, 3) := by decide +kernel
theorem dX6_takeWhole_4 : decode prog_8_method_11_code 4 = .ok (.iconst 2, 1) := by decide +kernel
theorem dX6_takeWhole_5 : decode prog_8_method_11_code 5 = .ok (.if_icmp .eq 9, 3) := by decide +kernel
theorem dX6_takeWhole_8 : decode prog_8_method_11_code 8 = .ok (.aload_n 0, 1) := by decide +kernel
theorem dX6_takeWhole_9 : decode prog_8_method_11_code 9 = .ok (.iconst 1, 1) := by decide +kernel
theorem dX6_takeWhole_10 : decode prog_8_method_11_code 10 = .ok (.invokevirtual 89, 3) := by decide +kernel
theorem dX6_takeWhole_13 : decode prog_8_method_11_code 13 = .ok (.ireturn, 1) := by decide +kernel
theorem dX6_takeWhole_14 : decode prog_8_method_11_code 14 = .ok (.aload_n 0, 1) := by decide +kernel
theorem dX6_takeWhole_15 : decode prog_8_method_11_code 15 = .ok (.getfield 47, 3) := by decide +kernel
theorem dX6_takeWhole_18 : decode prog_8_method_11_code 18 = .ok (.iload_n 3, 1) := by decide +kernel
theorem dX6_takeWhole_19 : decode prog_8_method_11_code 19 = .ok (.if_icmp .lt 12, 3) := by decide +kernel
theorem dX6_takeWhole_22 : decode prog_8_method_11_code 22 = .ok (.aload_n 0, 1) := by decide +kernel
theorem dX6_takeWhole_23 : decode prog_8_method_11_code 23 = .ok (.getfield 47, 3) := by decide +kernel
theorem dX6_takeWhole_26 : decode prog_8_method_11_code 26 = .ok (.iload 4, 2) := by decide +kernel
theorem dX6_takeWhole_28 : decode prog_8_method_11_code 28 = .ok (.if_icmp .le 9, 3) := by decide +kernel
theorem dX6_takeWhole_31 : decode prog_8_method_11_code 31 = .ok (.aload_n 0, 1) := by decide +kernel
theorem dX6_takeWhole_32 : decode prog_8_method_11_code 32 = .ok (.iconst 4, 1) := by decide +kernel
theorem dX6_takeWhole_33 : decode prog_8_method_11_code 33 = .ok (.invokevirtual 89, 3) := by decide +kernel
theorem dX6_takeWhole_36 : decode prog_8_method_11_code 36 = .ok (.ireturn, 1) := by decide +kernel
theorem dX6_takeWhole_37 : decode prog_8_method_11_code 37 = .ok (.aload_n 1, 1) := by decide +kernel
theorem dX6_takeWhole_38 : decode prog_8_method_11_code 38 = .ok (.iload_n 2, 1) := by decide +kernel
theorem dX6_takeWhole_39 : decode prog_8_method_11_code 39 = .ok (.aload_n 0, 1) := by decide +kernel
theorem dX6_takeWhole_40 : decode prog_8_method_11_code 40 = .ok (.getfield 47, 3) := by decide +kernel
theorem dX6_takeWhole_43 : decode prog_8_method_11_code 43 = .ok (.iastore, 1) := by decide +kernel
theorem dX6_takeWhole_44 : decode prog_8_method_11_code 44 = .ok (.aload_n 0, 1) := by decide +kernel
theorem dX6_takeWhole_45 : decode prog_8_method_11_code 45 = .ok (.invokevirtual 82, 3) := by decide +kernel
theorem dX6_takeWhole_48 : decode prog_8_method_11_code 48 = .ok (.iconst 1, 1) := by decide +kernel
theorem dX6_takeWhole_49 : decode prog_8_method_11_code 49 = .ok (.ireturn, 1) := by decide +kernel
theorem dX6_seenName_0 : decode prog_8_method_12_code 0 = .ok (.iconst 0, 1) := by decide +kernel
theorem dX6_seenName_1 : decode prog_8_method_12_code 1 = .ok (.istore_n 1, 1) := by decide +kernel
theorem dX6_seenName_2 : decode prog_8_method_12_code 2 = .ok (.iload_n 1, 1) := by decide +kernel
theorem dX6_seenName_3 : decode prog_8_method_12_code 3 = .ok (.aload_n 0, 1) := by decide +kernel
theorem dX6_seenName_4 : decode prog_8_method_12_code 4 = .ok (.getfield 53, 3) := by decide +kernel
theorem dX6_seenName_7 : decode prog_8_method_12_code 7 = .ok (.if_icmp .ge 37, 3) := by decide +kernel
theorem dX6_seenName_10 : decode prog_8_method_12_code 10 = .ok (.aload_n 0, 1) := by decide +kernel
theorem dX6_seenName_11 : decode prog_8_method_12_code 11 = .ok (.getfield 60, 3) := by decide +kernel
theorem dX6_seenName_14 : decode prog_8_method_12_code 14 = .ok (.iload_n 1, 1) := by decide +kernel
theorem dX6_seenName_15 : decode prog_8_method_12_code 15 = .ok (.iaload, 1) := by decide +kernel
theorem dX6_seenName_16 : decode prog_8_method_12_code 16 = .ok (.aload_n 0, 1) := by decide +kernel
theorem dX6_seenName_17 : decode prog_8_method_12_code 17 = .ok (.getfield 44, 3) := by decide +kernel
theorem dX6_seenName_20 : decode prog_8_method_12_code 20 = .ok (.if_icmp .ne 18, 3) := by decide +kernel
theorem dX6_seenName_23 : decode prog_8_method_12_code 23 = .ok (.aload_n 0, 1) := by decide +kernel
theorem dX6_seenName_24 : decode prog_8_method_12_code 24 = .ok (.aload_n 0, 1) := by decide +kernel
theorem dX6_seenName_25 : decode prog_8_method_12_code 25 = .ok (.getfield 56, 3) := by decide +kernel
theorem dX6_seenName_28 : decode prog_8_method_12_code 28 = .ok (.iload_n 1, 1) := by decide +kernel
theorem dX6_seenName_29 : decode prog_8_method_12_code 29 = .ok (.iaload, 1) := by decide +kernel
theorem dX6_seenName_30 : decode prog_8_method_12_code 30 = .ok (.invokevirtual 116, 3) := by decide +kernel
theorem dX6_seenName_33 : decode prog_8_method_12_code 33 = .ok (.ifCond .eq 5, 3) := by decide +kernel
theorem dX6_seenName_36 : decode prog_8_method_12_code 36 = .ok (.iload_n 1, 1) := by decide +kernel
theorem dX6_seenName_37 : decode prog_8_method_12_code 37 = .ok (.ireturn, 1) := by decide +kernel
theorem dX6_seenName_38 : decode prog_8_method_12_code 38 = .ok (.iinc 1 1, 3) := by decide +kernel
theorem dX6_seenName_41 : decode prog_8_method_12_code 41 = .ok (.goto (-39), 3) := by decide +kernel
theorem dX6_seenName_44 : decode prog_8_method_12_code 44 = .ok (.iconst (-1), 1) := by decide +kernel
theorem dX6_seenName_45 : decode prog_8_method_12_code 45 = .ok (.ireturn, 1) := by decide +kernel
theorem dX6_standsAt_0 : decode prog_8_method_13_code 0 = .ok (.iconst 0, 1) := by decide +kernel
theorem dX6_standsAt_1 : decode prog_8_method_13_code 1 = .ok (.istore_n 2, 1) := by decide +kernel
theorem dX6_standsAt_2 : decode prog_8_method_13_code 2 = .ok (.iload_n 2, 1) := by decide +kernel
theorem dX6_standsAt_3 : decode prog_8_method_13_code 3 = .ok (.aload_n 0, 1) := by decide +kernel
theorem dX6_standsAt_4 : decode prog_8_method_13_code 4 = .ok (.getfield 44, 3) := by decide +kernel
theorem dX6_standsAt_7 : decode prog_8_method_13_code 7 = .ok (.if_icmp .ge 33, 3) := by decide +kernel
theorem dX6_standsAt_10 : decode prog_8_method_13_code 10 = .ok (.aload_n 0, 1) := by decide +kernel
theorem dX6_standsAt_11 : decode prog_8_method_13_code 11 = .ok (.getfield 25, 3) := by decide +kernel
theorem dX6_standsAt_14 : decode prog_8_method_13_code 14 = .ok (.iload_n 1, 1) := by decide +kernel
theorem dX6_standsAt_15 : decode prog_8_method_13_code 15 = .ok (.iload_n 2, 1) := by decide +kernel
theorem dX6_standsAt_16 : decode prog_8_method_13_code 16 = .ok (.iadd, 1) := by decide +kernel
theorem dX6_standsAt_17 : decode prog_8_method_13_code 17 = .ok (.baload, 1) := by decide +kernel
theorem dX6_standsAt_18 : decode prog_8_method_13_code 18 = .ok (.aload_n 0, 1) := by decide +kernel
theorem dX6_standsAt_19 : decode prog_8_method_13_code 19 = .ok (.getfield 25, 3) := by decide +kernel
theorem dX6_standsAt_22 : decode prog_8_method_13_code 22 = .ok (.aload_n 0, 1) := by decide +kernel
theorem dX6_standsAt_23 : decode prog_8_method_13_code 23 = .ok (.getfield 41, 3) := by decide +kernel
theorem dX6_standsAt_26 : decode prog_8_method_13_code 26 = .ok (.iload_n 2, 1) := by decide +kernel
theorem dX6_standsAt_27 : decode prog_8_method_13_code 27 = .ok (.iadd, 1) := by decide +kernel
theorem dX6_standsAt_28 : decode prog_8_method_13_code 28 = .ok (.baload, 1) := by decide +kernel
theorem dX6_standsAt_29 : decode prog_8_method_13_code 29 = .ok (.if_icmp .eq 5, 3) := by decide +kernel
theorem dX6_standsAt_32 : decode prog_8_method_13_code 32 = .ok (.iconst 0, 1) := by decide +kernel
theorem dX6_standsAt_33 : decode prog_8_method_13_code 33 = .ok (.ireturn, 1) := by decide +kernel
theorem dX6_standsAt_34 : decode prog_8_method_13_code 34 = .ok (.iinc 2 1, 3) := by decide +kernel
theorem dX6_standsAt_37 : decode prog_8_method_13_code 37 = .ok (.goto (-35), 3) := by decide +kernel
theorem dX6_standsAt_40 : decode prog_8_method_13_code 40 = .ok (.iconst 1, 1) := by decide +kernel
theorem dX6_standsAt_41 : decode prog_8_method_13_code 41 = .ok (.ireturn, 1) := by decide +kernel
theorem dX6_takeNewName_0 : decode prog_8_method_14_code 0 = .ok (.aload_n 0, 1) := by decide +kernel
theorem dX6_takeNewName_1 : decode prog_8_method_14_code 1 = .ok (.getfield 38, 3) := by decide +kernel
theorem dX6_takeNewName_4 : decode prog_8_method_14_code 4 = .ok (.iconst 1, 1) := by decide +kernel
theorem dX6_takeNewName_5 : decode prog_8_method_14_code 5 = .ok (.if_icmp .ne 10, 3) := by decide +kernel
theorem dX6_takeNewName_8 : decode prog_8_method_14_code 8 = .ok (.aload_n 0, 1) := by decide +kernel
theorem dX6_takeNewName_9 : decode prog_8_method_14_code 9 = .ok (.invokevirtual 119, 3) := by decide +kernel
theorem dX6_takeNewName_12 : decode prog_8_method_14_code 12 = .ok (.ifCond .lt 9, 3) := by decide +kernel
theorem dX6_takeNewName_15 : decode prog_8_method_14_code 15 = .ok (.aload_n 0, 1) := by decide +kernel
theorem dX6_takeNewName_16 : decode prog_8_method_14_code 16 = .ok (.iconst 1, 1) := by decide +kernel
theorem dX6_takeNewName_17 : decode prog_8_method_14_code 17 = .ok (.invokevirtual 89, 3) := by decide +kernel
theorem dX6_takeNewName_20 : decode prog_8_method_14_code 20 = .ok (.ireturn, 1) := by decide +kernel
theorem dX6_takeNewName_21 : decode prog_8_method_14_code 21 = .ok (.aload_n 0, 1) := by decide +kernel
theorem dX6_takeNewName_22 : decode prog_8_method_14_code 22 = .ok (.invokevirtual 122, 3) := by decide +kernel
theorem dX6_takeNewName_25 : decode prog_8_method_14_code 25 = .ok (.ifCond .lt 9, 3) := by decide +kernel
theorem dX6_takeNewName_28 : decode prog_8_method_14_code 28 = .ok (.aload_n 0, 1) := by decide +kernel
theorem dX6_takeNewName_29 : decode prog_8_method_14_code 29 = .ok (.iconst 3, 1) := by decide +kernel
theorem dX6_takeNewName_30 : decode prog_8_method_14_code 30 = .ok (.invokevirtual 89, 3) := by decide +kernel
theorem dX6_takeNewName_33 : decode prog_8_method_14_code 33 = .ok (.ireturn, 1) := by decide +kernel
theorem dX6_takeNewName_34 : decode prog_8_method_14_code 34 = .ok (.aload_n 0, 1) := by decide +kernel
theorem dX6_takeNewName_35 : decode prog_8_method_14_code 35 = .ok (.getfield 53, 3) := by decide +kernel
theorem dX6_takeNewName_38 : decode prog_8_method_14_code 38 = .ok (.bipush 18, 2) := by decide +kernel
theorem dX6_takeNewName_40 : decode prog_8_method_14_code 40 = .ok (.if_icmp .lt 9, 3) := by decide +kernel
theorem dX6_takeNewName_43 : decode prog_8_method_14_code 43 = .ok (.aload_n 0, 1) := by decide +kernel
theorem dX6_takeNewName_44 : decode prog_8_method_14_code 44 = .ok (.iconst 5, 1) := by decide +kernel
theorem dX6_takeNewName_45 : decode prog_8_method_14_code 45 = .ok (.invokevirtual 89, 3) := by decide +kernel
theorem dX6_takeNewName_48 : decode prog_8_method_14_code 48 = .ok (.ireturn, 1) := by decide +kernel
theorem dX6_takeNewName_49 : decode prog_8_method_14_code 49 = .ok (.aload_n 0, 1) := by decide +kernel
theorem dX6_takeNewName_50 : decode prog_8_method_14_code 50 = .ok (.getfield 56, 3) := by decide +kernel
theorem dX6_takeNewName_53 : decode prog_8_method_14_code 53 = .ok (.aload_n 0, 1) := by decide +kernel
theorem dX6_takeNewName_54 : decode prog_8_method_14_code 54 = .ok (.getfield 53, 3) := by decide +kernel
theorem dX6_takeNewName_57 : decode prog_8_method_14_code 57 = .ok (.aload_n 0, 1) := by decide +kernel
theorem dX6_takeNewName_58 : decode prog_8_method_14_code 58 = .ok (.getfield 41, 3) := by decide +kernel
theorem dX6_takeNewName_61 : decode prog_8_method_14_code 61 = .ok (.iastore, 1) := by decide +kernel
theorem dX6_takeNewName_62 : decode prog_8_method_14_code 62 = .ok (.aload_n 0, 1) := by decide +kernel
theorem dX6_takeNewName_63 : decode prog_8_method_14_code 63 = .ok (.getfield 60, 3) := by decide +kernel
theorem dX6_takeNewName_66 : decode prog_8_method_14_code 66 = .ok (.aload_n 0, 1) := by decide +kernel
theorem dX6_takeNewName_67 : decode prog_8_method_14_code 67 = .ok (.getfield 53, 3) := by decide +kernel
theorem dX6_takeNewName_70 : decode prog_8_method_14_code 70 = .ok (.aload_n 0, 1) := by decide +kernel
theorem dX6_takeNewName_71 : decode prog_8_method_14_code 71 = .ok (.getfield 44, 3) := by decide +kernel
theorem dX6_takeNewName_74 : decode prog_8_method_14_code 74 = .ok (.iastore, 1) := by decide +kernel
theorem dX6_takeNewName_75 : decode prog_8_method_14_code 75 = .ok (.aload_n 0, 1) := by decide +kernel
theorem dX6_takeNewName_76 : decode prog_8_method_14_code 76 = .ok (.getfield 66, 3) := by decide +kernel
theorem dX6_takeNewName_79 : decode prog_8_method_14_code 79 = .ok (.aload_n 0, 1) := by decide +kernel
theorem dX6_takeNewName_80 : decode prog_8_method_14_code 80 = .ok (.getfield 53, 3) := by decide +kernel
theorem dX6_takeNewName_83 : decode prog_8_method_14_code 83 = .ok (.iload_n 1, 1) := by decide +kernel
theorem dX6_takeNewName_84 : decode prog_8_method_14_code 84 = .ok (.bastore, 1) := by decide +kernel
theorem dX6_takeNewName_85 : decode prog_8_method_14_code 85 = .ok (.aload_n 0, 1) := by decide +kernel
theorem dX6_takeNewName_86 : decode prog_8_method_14_code 86 = .ok (.getfield 63, 3) := by decide +kernel
theorem dX6_takeNewName_89 : decode prog_8_method_14_code 89 = .ok (.aload_n 0, 1) := by decide +kernel
theorem dX6_takeNewName_90 : decode prog_8_method_14_code 90 = .ok (.getfield 53, 3) := by decide +kernel
theorem dX6_takeNewName_93 : decode prog_8_method_14_code 93 = .ok (.iload_n 2, 1) := by decide +kernel
theorem dX6_takeNewName_94 : decode prog_8_method_14_code 94 = .ok (.iastore, 1) := by decide +kernel
theorem dX6_takeNewName_95 : decode prog_8_method_14_code 95 = .ok (.aload_n 0, 1) := by decide +kernel
theorem dX6_takeNewName_96 : decode prog_8_method_14_code 96 = .ok (.dup, 1) := by decide +kernel
theorem dX6_takeNewName_97 : decode prog_8_method_14_code 97 = .ok (.getfield 53, 3) := by decide +kernel
theorem dX6_takeNewName_100 : decode prog_8_method_14_code 100 = .ok (.iconst 1, 1) := by decide +kernel
theorem dX6_takeNewName_101 : decode prog_8_method_14_code 101 = .ok (.iadd, 1) := by decide +kernel
theorem dX6_takeNewName_102 : decode prog_8_method_14_code 102 = .ok (.putfield 53, 3) := by decide +kernel
theorem dX6_takeNewName_105 : decode prog_8_method_14_code 105 = .ok (.aload_n 0, 1) := by decide +kernel
theorem dX6_takeNewName_106 : decode prog_8_method_14_code 106 = .ok (.invokevirtual 82, 3) := by decide +kernel
theorem dX6_takeNewName_109 : decode prog_8_method_14_code 109 = .ok (.iconst 1, 1) := by decide +kernel
theorem dX6_takeNewName_110 : decode prog_8_method_14_code 110 = .ok (.ireturn, 1) := by decide +kernel
theorem dX6_takeName_0 : decode prog_8_method_15_code 0 = .ok (.aload_n 0, 1) := by decide +kernel
theorem dX6_takeName_1 : decode prog_8_method_15_code 1 = .ok (.getfield 38, 3) := by decide +kernel
theorem dX6_takeName_4 : decode prog_8_method_15_code 4 = .ok (.iconst 1, 1) := by decide +kernel
theorem dX6_takeName_5 : decode prog_8_method_15_code 5 = .ok (.if_icmp .ne 10, 3) := by decide +kernel
theorem dX6_takeName_8 : decode prog_8_method_15_code 8 = .ok (.aload_n 0, 1) := by decide +kernel
theorem dX6_takeName_9 : decode prog_8_method_15_code 9 = .ok (.invokevirtual 119, 3) := by decide +kernel
theorem dX6_takeName_12 : decode prog_8_method_15_code 12 = .ok (.ifCond .lt 9, 3) := by decide +kernel
theorem dX6_takeName_15 : decode prog_8_method_15_code 15 = .ok (.aload_n 0, 1) := by decide +kernel
theorem dX6_takeName_16 : decode prog_8_method_15_code 16 = .ok (.iconst 1, 1) := by decide +kernel
theorem dX6_takeName_17 : decode prog_8_method_15_code 17 = .ok (.invokevirtual 89, 3) := by decide +kernel
theorem dX6_takeName_20 : decode prog_8_method_15_code 20 = .ok (.ireturn, 1) := by decide +kernel
theorem dX6_takeName_21 : decode prog_8_method_15_code 21 = .ok (.aload_n 0, 1) := by decide +kernel
theorem dX6_takeName_22 : decode prog_8_method_15_code 22 = .ok (.invokevirtual 122, 3) := by decide +kernel
theorem dX6_takeName_25 : decode prog_8_method_15_code 25 = .ok (.istore 4, 2) := by decide +kernel
theorem dX6_takeName_27 : decode prog_8_method_15_code 27 = .ok (.iload 4, 2) := by decide +kernel
theorem dX6_takeName_29 : decode prog_8_method_15_code 29 = .ok (.ifCond .lt 14, 3) := by decide +kernel
theorem dX6_takeName_32 : decode prog_8_method_15_code 32 = .ok (.aload_n 0, 1) := by decide +kernel
theorem dX6_takeName_33 : decode prog_8_method_15_code 33 = .ok (.getfield 66, 3) := by decide +kernel
theorem dX6_takeName_36 : decode prog_8_method_15_code 36 = .ok (.iload 4, 2) := by decide +kernel
theorem dX6_takeName_38 : decode prog_8_method_15_code 38 = .ok (.baload, 1) := by decide +kernel
theorem dX6_takeName_39 : decode prog_8_method_15_code 39 = .ok (.iload_n 3, 1) := by decide +kernel
theorem dX6_takeName_40 : decode prog_8_method_15_code 40 = .ok (.if_icmp .eq 9, 3) := by decide +kernel
theorem dX6_takeName_43 : decode prog_8_method_15_code 43 = .ok (.aload_n 0, 1) := by decide +kernel
theorem dX6_takeName_44 : decode prog_8_method_15_code 44 = .ok (.iconst 2, 1) := by decide +kernel
theorem dX6_takeName_45 : decode prog_8_method_15_code 45 = .ok (.invokevirtual 89, 3) := by decide +kernel
theorem dX6_takeName_48 : decode prog_8_method_15_code 48 = .ok (.ireturn, 1) := by decide +kernel
theorem dX6_takeName_49 : decode prog_8_method_15_code 49 = .ok (.aload_n 1, 1) := by decide +kernel
theorem dX6_takeName_50 : decode prog_8_method_15_code 50 = .ok (.iload_n 2, 1) := by decide +kernel
theorem dX6_takeName_51 : decode prog_8_method_15_code 51 = .ok (.aload_n 0, 1) := by decide +kernel
theorem dX6_takeName_52 : decode prog_8_method_15_code 52 = .ok (.getfield 63, 3) := by decide +kernel
theorem dX6_takeName_55 : decode prog_8_method_15_code 55 = .ok (.iload 4, 2) := by decide +kernel
theorem dX6_takeName_57 : decode prog_8_method_15_code 57 = .ok (.iaload, 1) := by decide +kernel
theorem dX6_takeName_58 : decode prog_8_method_15_code 58 = .ok (.iastore, 1) := by decide +kernel
theorem dX6_takeName_59 : decode prog_8_method_15_code 59 = .ok (.aload_n 0, 1) := by decide +kernel
theorem dX6_takeName_60 : decode prog_8_method_15_code 60 = .ok (.aload_n 0, 1) := by decide +kernel
theorem dX6_takeName_61 : decode prog_8_method_15_code 61 = .ok (.getfield 41, 3) := by decide +kernel
theorem dX6_takeName_64 : decode prog_8_method_15_code 64 = .ok (.putfield 50, 3) := by decide +kernel
theorem dX6_takeName_67 : decode prog_8_method_15_code 67 = .ok (.aload_n 0, 1) := by decide +kernel
theorem dX6_takeName_68 : decode prog_8_method_15_code 68 = .ok (.invokevirtual 82, 3) := by decide +kernel
theorem dX6_takeName_71 : decode prog_8_method_15_code 71 = .ok (.iconst 1, 1) := by decide +kernel
theorem dX6_takeName_72 : decode prog_8_method_15_code 72 = .ok (.ireturn, 1) := by decide +kernel
theorem dX6_failAtName_0 : decode prog_8_method_16_code 0 = .ok (.aload_n 0, 1) := by decide +kernel
theorem dX6_failAtName_1 : decode prog_8_method_16_code 1 = .ok (.iload_n 1, 1) := by decide +kernel
theorem dX6_failAtName_2 : decode prog_8_method_16_code 2 = .ok (.putfield 18, 3) := by decide +kernel
theorem dX6_failAtName_5 : decode prog_8_method_16_code 5 = .ok (.aload_n 0, 1) := by decide +kernel
theorem dX6_failAtName_6 : decode prog_8_method_16_code 6 = .ok (.aload_n 0, 1) := by decide +kernel
theorem dX6_failAtName_7 : decode prog_8_method_16_code 7 = .ok (.getfield 50, 3) := by decide +kernel
theorem dX6_failAtName_10 : decode prog_8_method_16_code 10 = .ok (.putfield 22, 3) := by decide +kernel
theorem dX6_failAtName_13 : decode prog_8_method_16_code 13 = .ok (.iconst 0, 1) := by decide +kernel
theorem dX6_failAtName_14 : decode prog_8_method_16_code 14 = .ok (.ireturn, 1) := by decide +kernel
theorem dX6_seenLine_0 : decode prog_8_method_17_code 0 = .ok (.aload_n 0, 1) := by decide +kernel
theorem dX6_seenLine_1 : decode prog_8_method_17_code 1 = .ok (.ldc 125, 2) := by decide +kernel
theorem dX6_seenLine_3 : decode prog_8_method_17_code 3 = .ok (.invokevirtual 112, 3) := by decide +kernel
theorem dX6_seenLine_6 : decode prog_8_method_17_code 6 = .ok (.ifCond .eq 5, 3) := by decide +kernel
theorem dX6_seenLine_9 : decode prog_8_method_17_code 9 = .ok (.iconst 0, 1) := by decide +kernel
theorem dX6_seenLine_10 : decode prog_8_method_17_code 10 = .ok (.ireturn, 1) := by decide +kernel
theorem dX6_seenLine_11 : decode prog_8_method_17_code 11 = .ok (.aload_n 0, 1) := by decide +kernel
theorem dX6_seenLine_12 : decode prog_8_method_17_code 12 = .ok (.ldc 127, 2) := by decide +kernel
theorem dX6_seenLine_14 : decode prog_8_method_17_code 14 = .ok (.invokevirtual 112, 3) := by decide +kernel
theorem dX6_seenLine_17 : decode prog_8_method_17_code 17 = .ok (.ifCond .eq 5, 3) := by decide +kernel
theorem dX6_seenLine_20 : decode prog_8_method_17_code 20 = .ok (.iconst 1, 1) := by decide +kernel
theorem dX6_seenLine_21 : decode prog_8_method_17_code 21 = .ok (.ireturn, 1) := by decide +kernel
theorem dX6_seenLine_22 : decode prog_8_method_17_code 22 = .ok (.aload_n 0, 1) := by decide +kernel
theorem dX6_seenLine_23 : decode prog_8_method_17_code 23 = .ok (.ldc 129, 2) := by decide +kernel
theorem dX6_seenLine_25 : decode prog_8_method_17_code 25 = .ok (.invokevirtual 112, 3) := by decide +kernel
theorem dX6_seenLine_28 : decode prog_8_method_17_code 28 = .ok (.ifCond .eq 5, 3) := by decide +kernel
theorem dX6_seenLine_31 : decode prog_8_method_17_code 31 = .ok (.iconst 2, 1) := by decide +kernel
theorem dX6_seenLine_32 : decode prog_8_method_17_code 32 = .ok (.ireturn, 1) := by decide +kernel
theorem dX6_seenLine_33 : decode prog_8_method_17_code 33 = .ok (.aload_n 0, 1) := by decide +kernel
theorem dX6_seenLine_34 : decode prog_8_method_17_code 34 = .ok (.ldc 131, 2) := by decide +kernel
theorem dX6_seenLine_36 : decode prog_8_method_17_code 36 = .ok (.invokevirtual 112, 3) := by decide +kernel
theorem dX6_seenLine_39 : decode prog_8_method_17_code 39 = .ok (.ifCond .eq 5, 3) := by decide +kernel
theorem dX6_seenLine_42 : decode prog_8_method_17_code 42 = .ok (.iconst 3, 1) := by decide +kernel
theorem dX6_seenLine_43 : decode prog_8_method_17_code 43 = .ok (.ireturn, 1) := by decide +kernel
theorem dX6_seenLine_44 : decode prog_8_method_17_code 44 = .ok (.aload_n 0, 1) := by decide +kernel
theorem dX6_seenLine_45 : decode prog_8_method_17_code 45 = .ok (.ldc 133, 2) := by decide +kernel
theorem dX6_seenLine_47 : decode prog_8_method_17_code 47 = .ok (.invokevirtual 112, 3) := by decide +kernel
theorem dX6_seenLine_50 : decode prog_8_method_17_code 50 = .ok (.ifCond .eq 5, 3) := by decide +kernel
theorem dX6_seenLine_53 : decode prog_8_method_17_code 53 = .ok (.iconst 4, 1) := by decide +kernel
theorem dX6_seenLine_54 : decode prog_8_method_17_code 54 = .ok (.ireturn, 1) := by decide +kernel
theorem dX6_seenLine_55 : decode prog_8_method_17_code 55 = .ok (.aload_n 0, 1) := by decide +kernel
theorem dX6_seenLine_56 : decode prog_8_method_17_code 56 = .ok (.ldc 135, 2) := by decide +kernel
theorem dX6_seenLine_58 : decode prog_8_method_17_code 58 = .ok (.invokevirtual 112, 3) := by decide +kernel
theorem dX6_seenLine_61 : decode prog_8_method_17_code 61 = .ok (.ifCond .eq 5, 3) := by decide +kernel
theorem dX6_seenLine_64 : decode prog_8_method_17_code 64 = .ok (.iconst 5, 1) := by decide +kernel
theorem dX6_seenLine_65 : decode prog_8_method_17_code 65 = .ok (.ireturn, 1) := by decide +kernel
theorem dX6_seenLine_66 : decode prog_8_method_17_code 66 = .ok (.aload_n 0, 1) := by decide +kernel
theorem dX6_seenLine_67 : decode prog_8_method_17_code 67 = .ok (.ldc 137, 2) := by decide +kernel
theorem dX6_seenLine_69 : decode prog_8_method_17_code 69 = .ok (.invokevirtual 112, 3) := by decide +kernel
theorem dX6_seenLine_72 : decode prog_8_method_17_code 72 = .ok (.ifCond .eq 6, 3) := by decide +kernel
theorem dX6_seenLine_75 : decode prog_8_method_17_code 75 = .ok (.bipush 6, 2) := by decide +kernel
theorem dX6_seenLine_77 : decode prog_8_method_17_code 77 = .ok (.ireturn, 1) := by decide +kernel
theorem dX6_seenLine_78 : decode prog_8_method_17_code 78 = .ok (.aload_n 0, 1) := by decide +kernel
theorem dX6_seenLine_79 : decode prog_8_method_17_code 79 = .ok (.ldc 139, 2) := by decide +kernel
theorem dX6_seenLine_81 : decode prog_8_method_17_code 81 = .ok (.invokevirtual 112, 3) := by decide +kernel
theorem dX6_seenLine_84 : decode prog_8_method_17_code 84 = .ok (.ifCond .eq 6, 3) := by decide +kernel
theorem dX6_seenLine_87 : decode prog_8_method_17_code 87 = .ok (.bipush 7, 2) := by decide +kernel
theorem dX6_seenLine_89 : decode prog_8_method_17_code 89 = .ok (.ireturn, 1) := by decide +kernel
theorem dX6_seenLine_90 : decode prog_8_method_17_code 90 = .ok (.aload_n 0, 1) := by decide +kernel
theorem dX6_seenLine_91 : decode prog_8_method_17_code 91 = .ok (.ldc 141, 2) := by decide +kernel
theorem dX6_seenLine_93 : decode prog_8_method_17_code 93 = .ok (.invokevirtual 112, 3) := by decide +kernel
theorem dX6_seenLine_96 : decode prog_8_method_17_code 96 = .ok (.ifCond .eq 8, 3) := by decide +kernel
theorem dX6_seenLine_99 : decode prog_8_method_17_code 99 = .ok (.bipush 8, 2) := by decide +kernel
theorem dX6_seenLine_101 : decode prog_8_method_17_code 101 = .ok (.goto 4, 3) := by decide +kernel
theorem dX6_seenLine_104 : decode prog_8_method_17_code 104 = .ok (.iconst (-1), 1) := by decide +kernel
theorem dX6_seenLine_105 : decode prog_8_method_17_code 105 = .ok (.ireturn, 1) := by decide +kernel
theorem dX6_isFull_0 : decode prog_8_method_18_code 0 = .ok (.iload_n 1, 1) := by decide +kernel
theorem dX6_isFull_1 : decode prog_8_method_18_code 1 = .ok (.tableswitch 155 1 8 #[47, 65, 155, 83, 101, 119, 137, 137], 47) := by decide +kernel
theorem dX6_isFull_48 : decode prog_8_method_18_code 48 = .ok (.aload_n 0, 1) := by decide +kernel
theorem dX6_isFull_49 : decode prog_8_method_18_code 49 = .ok (.getfield 12, 3) := by decide +kernel
theorem dX6_isFull_52 : decode prog_8_method_18_code 52 = .ok (.getfield 93, 3) := by decide +kernel
theorem dX6_isFull_55 : decode prog_8_method_18_code 55 = .ok (.bipush 10, 2) := by decide +kernel
theorem dX6_isFull_57 : decode prog_8_method_18_code 57 = .ok (.if_icmp .lt 7, 3) := by decide +kernel
theorem dX6_isFull_60 : decode prog_8_method_18_code 60 = .ok (.iconst 1, 1) := by decide +kernel
theorem dX6_isFull_61 : decode prog_8_method_18_code 61 = .ok (.goto 4, 3) := by decide +kernel
theorem dX6_isFull_64 : decode prog_8_method_18_code 64 = .ok (.iconst 0, 1) := by decide +kernel
theorem dX6_isFull_65 : decode prog_8_method_18_code 65 = .ok (.ireturn, 1) := by decide +kernel
theorem dX6_isFull_66 : decode prog_8_method_18_code 66 = .ok (.aload_n 0, 1) := by decide +kernel
theorem dX6_isFull_67 : decode prog_8_method_18_code 67 = .ok (.getfield 12, 3) := by decide +kernel
theorem dX6_isFull_70 : decode prog_8_method_18_code 70 = .ok (.getfield 143, 3) := by decide +kernel
theorem dX6_isFull_73 : decode prog_8_method_18_code 73 = .ok (.bipush 12, 2) := by decide +kernel
theorem dX6_isFull_75 : decode prog_8_method_18_code 75 = .ok (.if_icmp .lt 7, 3) := by decide +kernel
theorem dX6_isFull_78 : decode prog_8_method_18_code 78 = .ok (.iconst 1, 1) := by decide +kernel
theorem dX6_isFull_79 : decode prog_8_method_18_code 79 = .ok (.goto 4, 3) := by decide +kernel
theorem dX6_isFull_82 : decode prog_8_method_18_code 82 = .ok (.iconst 0, 1) := by decide +kernel
theorem dX6_isFull_83 : decode prog_8_method_18_code 83 = .ok (.ireturn, 1) := by decide +kernel
theorem dX6_isFull_84 : decode prog_8_method_18_code 84 = .ok (.aload_n 0, 1) := by decide +kernel
theorem dX6_isFull_85 : decode prog_8_method_18_code 85 = .ok (.getfield 12, 3) := by decide +kernel
theorem dX6_isFull_88 : decode prog_8_method_18_code 88 = .ok (.getfield 146, 3) := by decide +kernel
theorem dX6_isFull_91 : decode prog_8_method_18_code 91 = .ok (.bipush 8, 2) := by decide +kernel
theorem dX6_isFull_93 : decode prog_8_method_18_code 93 = .ok (.if_icmp .lt 7, 3) := by decide +kernel
theorem dX6_isFull_96 : decode prog_8_method_18_code 96 = .ok (.iconst 1, 1) := by decide +kernel
theorem dX6_isFull_97 : decode prog_8_method_18_code 97 = .ok (.goto 4, 3) := by decide +kernel
theorem dX6_isFull_100 : decode prog_8_method_18_code 100 = .ok (.iconst 0, 1) := by decide +kernel
theorem dX6_isFull_101 : decode prog_8_method_18_code 101 = .ok (.ireturn, 1) := by decide +kernel
theorem dX6_isFull_102 : decode prog_8_method_18_code 102 = .ok (.aload_n 0, 1) := by decide +kernel
theorem dX6_isFull_103 : decode prog_8_method_18_code 103 = .ok (.getfield 12, 3) := by decide +kernel
theorem dX6_isFull_106 : decode prog_8_method_18_code 106 = .ok (.getfield 148, 3) := by decide +kernel
theorem dX6_isFull_109 : decode prog_8_method_18_code 109 = .ok (.bipush 8, 2) := by decide +kernel
theorem dX6_isFull_111 : decode prog_8_method_18_code 111 = .ok (.if_icmp .lt 7, 3) := by decide +kernel
theorem dX6_isFull_114 : decode prog_8_method_18_code 114 = .ok (.iconst 1, 1) := by decide +kernel
theorem dX6_isFull_115 : decode prog_8_method_18_code 115 = .ok (.goto 4, 3) := by decide +kernel
theorem dX6_isFull_118 : decode prog_8_method_18_code 118 = .ok (.iconst 0, 1) := by decide +kernel
theorem dX6_isFull_119 : decode prog_8_method_18_code 119 = .ok (.ireturn, 1) := by decide +kernel
theorem dX6_isFull_120 : decode prog_8_method_18_code 120 = .ok (.aload_n 0, 1) := by decide +kernel
theorem dX6_isFull_121 : decode prog_8_method_18_code 121 = .ok (.getfield 12, 3) := by decide +kernel
theorem dX6_isFull_124 : decode prog_8_method_18_code 124 = .ok (.getfield 151, 3) := by decide +kernel
theorem dX6_isFull_127 : decode prog_8_method_18_code 127 = .ok (.bipush 8, 2) := by decide +kernel
theorem dX6_isFull_129 : decode prog_8_method_18_code 129 = .ok (.if_icmp .lt 7, 3) := by decide +kernel
theorem dX6_isFull_132 : decode prog_8_method_18_code 132 = .ok (.iconst 1, 1) := by decide +kernel
theorem dX6_isFull_133 : decode prog_8_method_18_code 133 = .ok (.goto 4, 3) := by decide +kernel
theorem dX6_isFull_136 : decode prog_8_method_18_code 136 = .ok (.iconst 0, 1) := by decide +kernel
theorem dX6_isFull_137 : decode prog_8_method_18_code 137 = .ok (.ireturn, 1) := by decide +kernel
theorem dX6_isFull_138 : decode prog_8_method_18_code 138 = .ok (.aload_n 0, 1) := by decide +kernel
theorem dX6_isFull_139 : decode prog_8_method_18_code 139 = .ok (.getfield 12, 3) := by decide +kernel
theorem dX6_isFull_142 : decode prog_8_method_18_code 142 = .ok (.getfield 153, 3) := by decide +kernel
theorem dX6_isFull_145 : decode prog_8_method_18_code 145 = .ok (.bipush 8, 2) := by decide +kernel
theorem dX6_isFull_147 : decode prog_8_method_18_code 147 = .ok (.if_icmp .lt 7, 3) := by decide +kernel
theorem dX6_isFull_150 : decode prog_8_method_18_code 150 = .ok (.iconst 1, 1) := by decide +kernel
theorem dX6_isFull_151 : decode prog_8_method_18_code 151 = .ok (.goto 4, 3) := by decide +kernel
theorem dX6_isFull_154 : decode prog_8_method_18_code 154 = .ok (.iconst 0, 1) := by decide +kernel
theorem dX6_isFull_155 : decode prog_8_method_18_code 155 = .ok (.ireturn, 1) := by decide +kernel
theorem dX6_isFull_156 : decode prog_8_method_18_code 156 = .ok (.iconst 0, 1) := by decide +kernel
theorem dX6_isFull_157 : decode prog_8_method_18_code 157 = .ok (.ireturn, 1) := by decide +kernel
theorem dX6_readLine_0 : decode prog_8_method_19_code 0 = .ok (.aload_n 0, 1) := by decide +kernel
theorem dX6_readLine_1 : decode prog_8_method_19_code 1 = .ok (.invokevirtual 119, 3) := by decide +kernel
theorem dX6_readLine_4 : decode prog_8_method_19_code 4 = .ok (.istore_n 1, 1) := by decide +kernel
theorem dX6_readLine_5 : decode prog_8_method_19_code 5 = .ok (.iload_n 1, 1) := by decide +kernel
theorem dX6_readLine_6 : decode prog_8_method_19_code 6 = .ok (.ifCond .ge 9, 3) := by decide +kernel
theorem dX6_readLine_9 : decode prog_8_method_19_code 9 = .ok (.aload_n 0, 1) := by decide +kernel
theorem dX6_readLine_10 : decode prog_8_method_19_code 10 = .ok (.iconst 1, 1) := by decide +kernel
theorem dX6_readLine_11 : decode prog_8_method_19_code 11 = .ok (.invokevirtual 89, 3) := by decide +kernel
theorem dX6_readLine_14 : decode prog_8_method_19_code 14 = .ok (.ireturn, 1) := by decide +kernel
theorem dX6_readLine_15 : decode prog_8_method_19_code 15 = .ok (.aload_n 0, 1) := by decide +kernel
theorem dX6_readLine_16 : decode prog_8_method_19_code 16 = .ok (.getfield 12, 3) := by decide +kernel
theorem dX6_readLine_19 : decode prog_8_method_19_code 19 = .ok (.getfield 156, 3) := by decide +kernel
theorem dX6_readLine_22 : decode prog_8_method_19_code 22 = .ok (.ifCond .le 7, 3) := by decide +kernel
theorem dX6_readLine_25 : decode prog_8_method_19_code 25 = .ok (.iconst 1, 1) := by decide +kernel
theorem dX6_readLine_26 : decode prog_8_method_19_code 26 = .ok (.goto 4, 3) := by decide +kernel
theorem dX6_readLine_29 : decode prog_8_method_19_code 29 = .ok (.iconst 0, 1) := by decide +kernel
theorem dX6_readLine_30 : decode prog_8_method_19_code 30 = .ok (.istore_n 2, 1) := by decide +kernel
theorem dX6_readLine_31 : decode prog_8_method_19_code 31 = .ok (.iload_n 1, 1) := by decide +kernel
theorem dX6_readLine_32 : decode prog_8_method_19_code 32 = .ok (.ifCond .ne 13, 3) := by decide +kernel
theorem dX6_readLine_35 : decode prog_8_method_19_code 35 = .ok (.iload_n 2, 1) := by decide +kernel
theorem dX6_readLine_36 : decode prog_8_method_19_code 36 = .ok (.ifCond .eq 9, 3) := by decide +kernel
theorem dX6_readLine_39 : decode prog_8_method_19_code 39 = .ok (.aload_n 0, 1) := by decide +kernel
theorem dX6_readLine_40 : decode prog_8_method_19_code 40 = .ok (.iconst 3, 1) := by decide +kernel
theorem dX6_readLine_41 : decode prog_8_method_19_code 41 = .ok (.invokevirtual 89, 3) := by decide +kernel
theorem dX6_readLine_44 : decode prog_8_method_19_code 44 = .ok (.ireturn, 1) := by decide +kernel
theorem dX6_readLine_45 : decode prog_8_method_19_code 45 = .ok (.iload_n 1, 1) := by decide +kernel
theorem dX6_readLine_46 : decode prog_8_method_19_code 46 = .ok (.ifCond .eq 14, 3) := by decide +kernel
theorem dX6_readLine_49 : decode prog_8_method_19_code 49 = .ok (.iload_n 2, 1) := by decide +kernel
theorem dX6_readLine_50 : decode prog_8_method_19_code 50 = .ok (.ifCond .ne 10, 3) := by decide +kernel
theorem dX6_readLine_53 : decode prog_8_method_19_code 53 = .ok (.aload_n 0, 1) := by decide +kernel
theorem dX6_readLine_54 : decode prog_8_method_19_code 54 = .ok (.bipush 6, 2) := by decide +kernel
theorem dX6_readLine_56 : decode prog_8_method_19_code 56 = .ok (.invokevirtual 89, 3) := by decide +kernel
theorem dX6_readLine_59 : decode prog_8_method_19_code 59 = .ok (.ireturn, 1) := by decide +kernel
theorem dX6_readLine_60 : decode prog_8_method_19_code 60 = .ok (.aload_n 0, 1) := by decide +kernel
theorem dX6_readLine_61 : decode prog_8_method_19_code 61 = .ok (.iload_n 1, 1) := by decide +kernel
theorem dX6_readLine_62 : decode prog_8_method_19_code 62 = .ok (.invokevirtual 159, 3) := by decide +kernel
theorem dX6_readLine_65 : decode prog_8_method_19_code 65 = .ok (.ifCond .eq 9, 3) := by decide +kernel
theorem dX6_readLine_68 : decode prog_8_method_19_code 68 = .ok (.aload_n 0, 1) := by decide +kernel
theorem dX6_readLine_69 : decode prog_8_method_19_code 69 = .ok (.iconst 5, 1) := by decide +kernel
theorem dX6_readLine_70 : decode prog_8_method_19_code 70 = .ok (.invokevirtual 89, 3) := by decide +kernel
theorem dX6_readLine_73 : decode prog_8_method_19_code 73 = .ok (.ireturn, 1) := by decide +kernel
theorem dX6_readLine_74 : decode prog_8_method_19_code 74 = .ok (.aload_n 0, 1) := by decide +kernel
theorem dX6_readLine_75 : decode prog_8_method_19_code 75 = .ok (.invokevirtual 82, 3) := by decide +kernel
theorem dX6_readLine_78 : decode prog_8_method_19_code 78 = .ok (.iload_n 1, 1) := by decide +kernel
theorem dX6_readLine_79 : decode prog_8_method_19_code 79 = .ok (.tableswitch 146 0 7 #[45, 50, 70, 90, 95, 115, 120, 125], 45) := by decide +kernel
theorem dX6_readLine_124 : decode prog_8_method_19_code 124 = .ok (.aload_n 0, 1) := by decide +kernel
theorem dX6_readLine_125 : decode prog_8_method_19_code 125 = .ok (.invokevirtual 162, 3) := by decide +kernel
theorem dX6_readLine_128 : decode prog_8_method_19_code 128 = .ok (.ireturn, 1) := by decide +kernel
theorem dX6_readLine_129 : decode prog_8_method_19_code 129 = .ok (.aload_n 0, 1) := by decide +kernel
theorem dX6_readLine_130 : decode prog_8_method_19_code 130 = .ok (.aload_n 0, 1) := by decide +kernel
theorem dX6_readLine_131 : decode prog_8_method_19_code 131 = .ok (.getfield 12, 3) := by decide +kernel
theorem dX6_readLine_134 : decode prog_8_method_19_code 134 = .ok (.getfield 165, 3) := by decide +kernel
theorem dX6_readLine_137 : decode prog_8_method_19_code 137 = .ok (.aload_n 0, 1) := by decide +kernel
theorem dX6_readLine_138 : decode prog_8_method_19_code 138 = .ok (.getfield 12, 3) := by decide +kernel
theorem dX6_readLine_141 : decode prog_8_method_19_code 141 = .ok (.getfield 93, 3) := by decide +kernel
theorem dX6_readLine_144 : decode prog_8_method_19_code 144 = .ok (.aaload, 1) := by decide +kernel
theorem dX6_readLine_145 : decode prog_8_method_19_code 145 = .ok (.invokevirtual 168, 3) := by decide +kernel
theorem dX6_readLine_148 : decode prog_8_method_19_code 148 = .ok (.ireturn, 1) := by decide +kernel
theorem dX6_readLine_149 : decode prog_8_method_19_code 149 = .ok (.aload_n 0, 1) := by decide +kernel
theorem dX6_readLine_150 : decode prog_8_method_19_code 150 = .ok (.aload_n 0, 1) := by decide +kernel
theorem dX6_readLine_151 : decode prog_8_method_19_code 151 = .ok (.getfield 12, 3) := by decide +kernel
theorem dX6_readLine_154 : decode prog_8_method_19_code 154 = .ok (.getfield 172, 3) := by decide +kernel
theorem dX6_readLine_157 : decode prog_8_method_19_code 157 = .ok (.aload_n 0, 1) := by decide +kernel
theorem dX6_readLine_158 : decode prog_8_method_19_code 158 = .ok (.getfield 12, 3) := by decide +kernel
theorem dX6_readLine_161 : decode prog_8_method_19_code 161 = .ok (.getfield 143, 3) := by decide +kernel
theorem dX6_readLine_164 : decode prog_8_method_19_code 164 = .ok (.aaload, 1) := by decide +kernel
theorem dX6_readLine_165 : decode prog_8_method_19_code 165 = .ok (.invokevirtual 174, 3) := by decide +kernel
theorem dX6_readLine_168 : decode prog_8_method_19_code 168 = .ok (.ireturn, 1) := by decide +kernel
theorem dX6_readLine_169 : decode prog_8_method_19_code 169 = .ok (.aload_n 0, 1) := by decide +kernel
theorem dX6_readLine_170 : decode prog_8_method_19_code 170 = .ok (.invokevirtual 177, 3) := by decide +kernel
theorem dX6_readLine_173 : decode prog_8_method_19_code 173 = .ok (.ireturn, 1) := by decide +kernel
theorem dX6_readLine_174 : decode prog_8_method_19_code 174 = .ok (.aload_n 0, 1) := by decide +kernel
theorem dX6_readLine_175 : decode prog_8_method_19_code 175 = .ok (.aload_n 0, 1) := by decide +kernel
theorem dX6_readLine_176 : decode prog_8_method_19_code 176 = .ok (.getfield 12, 3) := by decide +kernel
theorem dX6_readLine_179 : decode prog_8_method_19_code 179 = .ok (.getfield 180, 3) := by decide +kernel
theorem dX6_readLine_182 : decode prog_8_method_19_code 182 = .ok (.aload_n 0, 1) := by decide +kernel
theorem dX6_readLine_183 : decode prog_8_method_19_code 183 = .ok (.getfield 12, 3) := by decide +kernel
theorem dX6_readLine_186 : decode prog_8_method_19_code 186 = .ok (.getfield 146, 3) := by decide +kernel
theorem dX6_readLine_189 : decode prog_8_method_19_code 189 = .ok (.aaload, 1) := by decide +kernel
theorem dX6_readLine_190 : decode prog_8_method_19_code 190 = .ok (.invokevirtual 183, 3) := by decide +kernel
theorem dX6_readLine_193 : decode prog_8_method_19_code 193 = .ok (.ireturn, 1) := by decide +kernel
theorem dX6_readLine_194 : decode prog_8_method_19_code 194 = .ok (.aload_n 0, 1) := by decide +kernel
theorem dX6_readLine_195 : decode prog_8_method_19_code 195 = .ok (.invokevirtual 186, 3) := by decide +kernel
theorem dX6_readLine_198 : decode prog_8_method_19_code 198 = .ok (.ireturn, 1) := by decide +kernel
theorem dX6_readLine_199 : decode prog_8_method_19_code 199 = .ok (.aload_n 0, 1) := by decide +kernel
theorem dX6_readLine_200 : decode prog_8_method_19_code 200 = .ok (.invokevirtual 189, 3) := by decide +kernel
theorem dX6_readLine_203 : decode prog_8_method_19_code 203 = .ok (.ireturn, 1) := by decide +kernel
theorem dX6_readLine_204 : decode prog_8_method_19_code 204 = .ok (.aload_n 0, 1) := by decide +kernel
theorem dX6_readLine_205 : decode prog_8_method_19_code 205 = .ok (.aload_n 0, 1) := by decide +kernel
theorem dX6_readLine_206 : decode prog_8_method_19_code 206 = .ok (.getfield 12, 3) := by decide +kernel
theorem dX6_readLine_209 : decode prog_8_method_19_code 209 = .ok (.getfield 192, 3) := by decide +kernel
theorem dX6_readLine_212 : decode prog_8_method_19_code 212 = .ok (.aload_n 0, 1) := by decide +kernel
theorem dX6_readLine_213 : decode prog_8_method_19_code 213 = .ok (.getfield 12, 3) := by decide +kernel
theorem dX6_readLine_216 : decode prog_8_method_19_code 216 = .ok (.getfield 153, 3) := by decide +kernel
theorem dX6_readLine_219 : decode prog_8_method_19_code 219 = .ok (.aaload, 1) := by decide +kernel
theorem dX6_readLine_220 : decode prog_8_method_19_code 220 = .ok (.iconst 0, 1) := by decide +kernel
theorem dX6_readLine_221 : decode prog_8_method_19_code 221 = .ok (.invokevirtual 194, 3) := by decide +kernel
theorem dX6_readLine_224 : decode prog_8_method_19_code 224 = .ok (.ireturn, 1) := by decide +kernel
theorem dX6_readLine_225 : decode prog_8_method_19_code 225 = .ok (.aload_n 0, 1) := by decide +kernel
theorem dX6_readLine_226 : decode prog_8_method_19_code 226 = .ok (.aload_n 0, 1) := by decide +kernel
theorem dX6_readLine_227 : decode prog_8_method_19_code 227 = .ok (.getfield 12, 3) := by decide +kernel
theorem dX6_readLine_230 : decode prog_8_method_19_code 230 = .ok (.getfield 192, 3) := by decide +kernel
theorem dX6_readLine_233 : decode prog_8_method_19_code 233 = .ok (.aload_n 0, 1) := by decide +kernel
theorem dX6_readLine_234 : decode prog_8_method_19_code 234 = .ok (.getfield 12, 3) := by decide +kernel
theorem dX6_readLine_237 : decode prog_8_method_19_code 237 = .ok (.getfield 153, 3) := by decide +kernel
theorem dX6_readLine_240 : decode prog_8_method_19_code 240 = .ok (.aaload, 1) := by decide +kernel
theorem dX6_readLine_241 : decode prog_8_method_19_code 241 = .ok (.iconst 1, 1) := by decide +kernel
theorem dX6_readLine_242 : decode prog_8_method_19_code 242 = .ok (.invokevirtual 194, 3) := by decide +kernel
theorem dX6_readLine_245 : decode prog_8_method_19_code 245 = .ok (.ireturn, 1) := by decide +kernel
theorem dX6_readFamily_0 : decode prog_8_method_20_code 0 = .ok (.aload_n 0, 1) := by decide +kernel
theorem dX6_readFamily_1 : decode prog_8_method_20_code 1 = .ok (.ldc 198, 2) := by decide +kernel
theorem dX6_readFamily_3 : decode prog_8_method_20_code 3 = .ok (.invokevirtual 199, 3) := by decide +kernel
theorem dX6_readFamily_6 : decode prog_8_method_20_code 6 = .ok (.ifCond .eq 67, 3) := by decide +kernel
theorem dX6_readFamily_9 : decode prog_8_method_20_code 9 = .ok (.aload_n 0, 1) := by decide +kernel
theorem dX6_readFamily_10 : decode prog_8_method_20_code 10 = .ok (.aload_n 0, 1) := by decide +kernel
theorem dX6_readFamily_11 : decode prog_8_method_20_code 11 = .ok (.getfield 70, 3) := by decide +kernel
theorem dX6_readFamily_14 : decode prog_8_method_20_code 14 = .ok (.iconst 0, 1) := by decide +kernel
theorem dX6_readFamily_15 : decode prog_8_method_20_code 15 = .ok (.iconst 4, 1) := by decide +kernel
theorem dX6_readFamily_16 : decode prog_8_method_20_code 16 = .ok (.bipush 24, 2) := by decide +kernel
theorem dX6_readFamily_18 : decode prog_8_method_20_code 18 = .ok (.invokevirtual 202, 3) := by decide +kernel
theorem dX6_readFamily_21 : decode prog_8_method_20_code 21 = .ok (.ifCond .eq 52, 3) := by decide +kernel
theorem dX6_readFamily_24 : decode prog_8_method_20_code 24 = .ok (.aload_n 0, 1) := by decide +kernel
theorem dX6_readFamily_25 : decode prog_8_method_20_code 25 = .ok (.ldc 206, 2) := by decide +kernel
theorem dX6_readFamily_27 : decode prog_8_method_20_code 27 = .ok (.invokevirtual 199, 3) := by decide +kernel
theorem dX6_readFamily_30 : decode prog_8_method_20_code 30 = .ok (.ifCond .eq 43, 3) := by decide +kernel
theorem dX6_readFamily_33 : decode prog_8_method_20_code 33 = .ok (.aload_n 0, 1) := by decide +kernel
theorem dX6_readFamily_34 : decode prog_8_method_20_code 34 = .ok (.aload_n 0, 1) := by decide +kernel
theorem dX6_readFamily_35 : decode prog_8_method_20_code 35 = .ok (.getfield 70, 3) := by decide +kernel
theorem dX6_readFamily_38 : decode prog_8_method_20_code 38 = .ok (.iconst 1, 1) := by decide +kernel
theorem dX6_readFamily_39 : decode prog_8_method_20_code 39 = .ok (.aload_n 0, 1) := by decide +kernel
theorem dX6_readFamily_40 : decode prog_8_method_20_code 40 = .ok (.invokevirtual 208, 3) := by decide +kernel
theorem dX6_readFamily_43 : decode prog_8_method_20_code 43 = .ok (.invokevirtual 211, 3) := by decide +kernel
theorem dX6_readFamily_46 : decode prog_8_method_20_code 46 = .ok (.ifCond .eq 27, 3) := by decide +kernel
theorem dX6_readFamily_49 : decode prog_8_method_20_code 49 = .ok (.aload_n 0, 1) := by decide +kernel
theorem dX6_readFamily_50 : decode prog_8_method_20_code 50 = .ok (.ldc 215, 2) := by decide +kernel
theorem dX6_readFamily_52 : decode prog_8_method_20_code 52 = .ok (.invokevirtual 199, 3) := by decide +kernel
theorem dX6_readFamily_55 : decode prog_8_method_20_code 55 = .ok (.ifCond .eq 18, 3) := by decide +kernel
theorem dX6_readFamily_58 : decode prog_8_method_20_code 58 = .ok (.aload_n 0, 1) := by decide +kernel
theorem dX6_readFamily_59 : decode prog_8_method_20_code 59 = .ok (.aload_n 0, 1) := by decide +kernel
theorem dX6_readFamily_60 : decode prog_8_method_20_code 60 = .ok (.getfield 70, 3) := by decide +kernel
theorem dX6_readFamily_63 : decode prog_8_method_20_code 63 = .ok (.iconst 2, 1) := by decide +kernel
theorem dX6_readFamily_64 : decode prog_8_method_20_code 64 = .ok (.iconst 0, 1) := by decide +kernel
theorem dX6_readFamily_65 : decode prog_8_method_20_code 65 = .ok (.bipush 99, 2) := by decide +kernel
theorem dX6_readFamily_67 : decode prog_8_method_20_code 67 = .ok (.invokevirtual 202, 3) := by decide +kernel
theorem dX6_readFamily_70 : decode prog_8_method_20_code 70 = .ok (.ifCond .ne 5, 3) := by decide +kernel
theorem dX6_readFamily_73 : decode prog_8_method_20_code 73 = .ok (.iconst 0, 1) := by decide +kernel
theorem dX6_readFamily_74 : decode prog_8_method_20_code 74 = .ok (.ireturn, 1) := by decide +kernel
theorem dX6_readFamily_75 : decode prog_8_method_20_code 75 = .ok (.aload_n 0, 1) := by decide +kernel
theorem dX6_readFamily_76 : decode prog_8_method_20_code 76 = .ok (.getfield 12, 3) := by decide +kernel
theorem dX6_readFamily_79 : decode prog_8_method_20_code 79 = .ok (.aload_n 0, 1) := by decide +kernel
theorem dX6_readFamily_80 : decode prog_8_method_20_code 80 = .ok (.getfield 70, 3) := by decide +kernel
theorem dX6_readFamily_83 : decode prog_8_method_20_code 83 = .ok (.iconst 0, 1) := by decide +kernel
theorem dX6_readFamily_84 : decode prog_8_method_20_code 84 = .ok (.iaload, 1) := by decide +kernel
theorem dX6_readFamily_85 : decode prog_8_method_20_code 85 = .ok (.putfield 156, 3) := by decide +kernel
theorem dX6_readFamily_88 : decode prog_8_method_20_code 88 = .ok (.aload_n 0, 1) := by decide +kernel
theorem dX6_readFamily_89 : decode prog_8_method_20_code 89 = .ok (.getfield 12, 3) := by decide +kernel
theorem dX6_readFamily_92 : decode prog_8_method_20_code 92 = .ok (.aload_n 0, 1) := by decide +kernel
theorem dX6_readFamily_93 : decode prog_8_method_20_code 93 = .ok (.getfield 70, 3) := by decide +kernel
theorem dX6_readFamily_96 : decode prog_8_method_20_code 96 = .ok (.iconst 1, 1) := by decide +kernel
theorem dX6_readFamily_97 : decode prog_8_method_20_code 97 = .ok (.iaload, 1) := by decide +kernel
theorem dX6_readFamily_98 : decode prog_8_method_20_code 98 = .ok (.putfield 217, 3) := by decide +kernel
theorem dX6_readFamily_101 : decode prog_8_method_20_code 101 = .ok (.aload_n 0, 1) := by decide +kernel
theorem dX6_readFamily_102 : decode prog_8_method_20_code 102 = .ok (.getfield 12, 3) := by decide +kernel
theorem dX6_readFamily_105 : decode prog_8_method_20_code 105 = .ok (.aload_n 0, 1) := by decide +kernel
theorem dX6_readFamily_106 : decode prog_8_method_20_code 106 = .ok (.getfield 70, 3) := by decide +kernel
theorem dX6_readFamily_109 : decode prog_8_method_20_code 109 = .ok (.iconst 2, 1) := by decide +kernel
theorem dX6_readFamily_110 : decode prog_8_method_20_code 110 = .ok (.iaload, 1) := by decide +kernel
theorem dX6_readFamily_111 : decode prog_8_method_20_code 111 = .ok (.putfield 219, 3) := by decide +kernel
theorem dX6_readFamily_114 : decode prog_8_method_20_code 114 = .ok (.iconst 1, 1) := by decide +kernel
theorem dX6_readFamily_115 : decode prog_8_method_20_code 115 = .ok (.ireturn, 1) := by decide +kernel
