/-! ===== decode rows, by wip/whole/gen09.py ===== -/
theorem dX0_init_0 : decode prog_2_method_1_code 0 = .ok (.aload_n 0, 1) := by decide +kernel
theorem dX0_init_1 : decode prog_2_method_1_code 1 = .ok (.invokespecial 3, 3) := by decide +kernel
theorem dX0_init_4 : decode prog_2_method_1_code 4 = .ok (.aload_n 0, 1) := by decide +kernel
theorem dX0_init_5 : decode prog_2_method_1_code 5 = .ok (.bipush 24, 2) := by decide +kernel
theorem dX0_init_7 : decode prog_2_method_1_code 7 = .ok (.newarray .int, 2) := by decide +kernel
theorem dX0_init_9 : decode prog_2_method_1_code 9 = .ok (.putfield 9, 3) := by decide +kernel
theorem dX0_init_12 : decode prog_2_method_1_code 12 = .ok (.aload_n 0, 1) := by decide +kernel
theorem dX0_init_13 : decode prog_2_method_1_code 13 = .ok (.bipush 24, 2) := by decide +kernel
theorem dX0_init_15 : decode prog_2_method_1_code 15 = .ok (.newarray .int, 2) := by decide +kernel
theorem dX0_init_17 : decode prog_2_method_1_code 17 = .ok (.putfield 15, 3) := by decide +kernel
theorem dX0_init_20 : decode prog_2_method_1_code 20 = .ok (.aload_n 0, 1) := by decide +kernel
theorem dX0_init_21 : decode prog_2_method_1_code 21 = .ok (.sipush 240, 3) := by decide +kernel
theorem dX0_init_24 : decode prog_2_method_1_code 24 = .ok (.newarray .int, 2) := by decide +kernel
theorem dX0_init_26 : decode prog_2_method_1_code 26 = .ok (.putfield 18, 3) := by decide +kernel
theorem dX0_init_29 : decode prog_2_method_1_code 29 = .ok (.aload_n 0, 1) := by decide +kernel
theorem dX0_init_30 : decode prog_2_method_1_code 30 = .ok (.iconst 2, 1) := by decide +kernel
theorem dX0_init_31 : decode prog_2_method_1_code 31 = .ok (.newarray .int, 2) := by decide +kernel
theorem dX0_init_33 : decode prog_2_method_1_code 33 = .ok (.putfield 21, 3) := by decide +kernel
theorem dX0_init_36 : decode prog_2_method_1_code 36 = .ok (.return_, 1) := by decide +kernel
theorem dX0_drawUp_0 : decode prog_2_method_2_code 0 = .ok (.aload_n 0, 1) := by decide +kernel
theorem dX0_drawUp_1 : decode prog_2_method_2_code 1 = .ok (.getfield 21, 3) := by decide +kernel
theorem dX0_drawUp_4 : decode prog_2_method_2_code 4 = .ok (.iconst 0, 1) := by decide +kernel
theorem dX0_drawUp_5 : decode prog_2_method_2_code 5 = .ok (.iconst 0, 1) := by decide +kernel
theorem dX0_drawUp_6 : decode prog_2_method_2_code 6 = .ok (.iastore, 1) := by decide +kernel
theorem dX0_drawUp_7 : decode prog_2_method_2_code 7 = .ok (.aload_n 0, 1) := by decide +kernel
theorem dX0_drawUp_8 : decode prog_2_method_2_code 8 = .ok (.getfield 21, 3) := by decide +kernel
theorem dX0_drawUp_11 : decode prog_2_method_2_code 11 = .ok (.iconst 1, 1) := by decide +kernel
theorem dX0_drawUp_12 : decode prog_2_method_2_code 12 = .ok (.iconst 0, 1) := by decide +kernel
theorem dX0_drawUp_13 : decode prog_2_method_2_code 13 = .ok (.iastore, 1) := by decide +kernel
theorem dX0_drawUp_14 : decode prog_2_method_2_code 14 = .ok (.iconst 0, 1) := by decide +kernel
theorem dX0_drawUp_15 : decode prog_2_method_2_code 15 = .ok (.istore_n 3, 1) := by decide +kernel
theorem dX0_drawUp_16 : decode prog_2_method_2_code 16 = .ok (.iload_n 3, 1) := by decide +kernel
theorem dX0_drawUp_17 : decode prog_2_method_2_code 17 = .ok (.aload_n 1, 1) := by decide +kernel
theorem dX0_drawUp_18 : decode prog_2_method_2_code 18 = .ok (.getfield 24, 3) := by decide +kernel
theorem dX0_drawUp_21 : decode prog_2_method_2_code 21 = .ok (.if_icmp .ge 36, 3) := by decide +kernel
theorem dX0_drawUp_24 : decode prog_2_method_2_code 24 = .ok (.aload_n 0, 1) := by decide +kernel
theorem dX0_drawUp_25 : decode prog_2_method_2_code 25 = .ok (.getfield 21, 3) := by decide +kernel
theorem dX0_drawUp_28 : decode prog_2_method_2_code 28 = .ok (.aload_n 1, 1) := by decide +kernel
theorem dX0_drawUp_29 : decode prog_2_method_2_code 29 = .ok (.getfield 30, 3) := by decide +kernel
theorem dX0_drawUp_32 : decode prog_2_method_2_code 32 = .ok (.iload_n 3, 1) := by decide +kernel
theorem dX0_drawUp_33 : decode prog_2_method_2_code 33 = .ok (.aaload, 1) := by decide +kernel
theorem dX0_drawUp_34 : decode prog_2_method_2_code 34 = .ok (.iconst 1, 1) := by decide +kernel
theorem dX0_drawUp_35 : decode prog_2_method_2_code 35 = .ok (.iaload, 1) := by decide +kernel
theorem dX0_drawUp_36 : decode prog_2_method_2_code 36 = .ok (.ifCond .ne 7, 3) := by decide +kernel
theorem dX0_drawUp_39 : decode prog_2_method_2_code 39 = .ok (.iconst 0, 1) := by decide +kernel
theorem dX0_drawUp_40 : decode prog_2_method_2_code 40 = .ok (.goto 4, 3) := by decide +kernel
theorem dX0_drawUp_43 : decode prog_2_method_2_code 43 = .ok (.iconst 1, 1) := by decide +kernel
theorem dX0_drawUp_44 : decode prog_2_method_2_code 44 = .ok (.dup2, 1) := by decide +kernel
theorem dX0_drawUp_45 : decode prog_2_method_2_code 45 = .ok (.iaload, 1) := by decide +kernel
theorem dX0_drawUp_46 : decode prog_2_method_2_code 46 = .ok (.iconst 1, 1) := by decide +kernel
theorem dX0_drawUp_47 : decode prog_2_method_2_code 47 = .ok (.iload_n 3, 1) := by decide +kernel
theorem dX0_drawUp_48 : decode prog_2_method_2_code 48 = .ok (.ishl, 1) := by decide +kernel
theorem dX0_drawUp_49 : decode prog_2_method_2_code 49 = .ok (.ior, 1) := by decide +kernel
theorem dX0_drawUp_50 : decode prog_2_method_2_code 50 = .ok (.iastore, 1) := by decide +kernel
theorem dX0_drawUp_51 : decode prog_2_method_2_code 51 = .ok (.iinc 3 1, 3) := by decide +kernel
theorem dX0_drawUp_54 : decode prog_2_method_2_code 54 = .ok (.goto (-38), 3) := by decide +kernel
theorem dX0_drawUp_57 : decode prog_2_method_2_code 57 = .ok (.iconst 0, 1) := by decide +kernel
theorem dX0_drawUp_58 : decode prog_2_method_2_code 58 = .ok (.istore_n 3, 1) := by decide +kernel
theorem dX0_drawUp_59 : decode prog_2_method_2_code 59 = .ok (.iload_n 3, 1) := by decide +kernel
theorem dX0_drawUp_60 : decode prog_2_method_2_code 60 = .ok (.aload_n 1, 1) := by decide +kernel
theorem dX0_drawUp_61 : decode prog_2_method_2_code 61 = .ok (.getfield 34, 3) := by decide +kernel
theorem dX0_drawUp_64 : decode prog_2_method_2_code 64 = .ok (.if_icmp .ge 22, 3) := by decide +kernel
theorem dX0_drawUp_67 : decode prog_2_method_2_code 67 = .ok (.aload_n 0, 1) := by decide +kernel
theorem dX0_drawUp_68 : decode prog_2_method_2_code 68 = .ok (.iload_n 3, 1) := by decide +kernel
theorem dX0_drawUp_69 : decode prog_2_method_2_code 69 = .ok (.aload_n 1, 1) := by decide +kernel
theorem dX0_drawUp_70 : decode prog_2_method_2_code 70 = .ok (.aload_n 2, 1) := by decide +kernel
theorem dX0_drawUp_71 : decode prog_2_method_2_code 71 = .ok (.invokevirtual 37, 3) := by decide +kernel
theorem dX0_drawUp_74 : decode prog_2_method_2_code 74 = .ok (.aload_n 0, 1) := by decide +kernel
theorem dX0_drawUp_75 : decode prog_2_method_2_code 75 = .ok (.iload_n 3, 1) := by decide +kernel
theorem dX0_drawUp_76 : decode prog_2_method_2_code 76 = .ok (.aload_n 1, 1) := by decide +kernel
theorem dX0_drawUp_77 : decode prog_2_method_2_code 77 = .ok (.invokevirtual 41, 3) := by decide +kernel
theorem dX0_drawUp_80 : decode prog_2_method_2_code 80 = .ok (.iinc 3 1, 3) := by decide +kernel
theorem dX0_drawUp_83 : decode prog_2_method_2_code 83 = .ok (.goto (-24), 3) := by decide +kernel
theorem dX0_drawUp_86 : decode prog_2_method_2_code 86 = .ok (.return_, 1) := by decide +kernel
theorem dX0_enterPeople_0 : decode prog_2_method_3_code 0 = .ok (.aload_n 0, 1) := by decide +kernel
theorem dX0_enterPeople_1 : decode prog_2_method_3_code 1 = .ok (.getfield 9, 3) := by decide +kernel
theorem dX0_enterPeople_4 : decode prog_2_method_3_code 4 = .ok (.iload_n 1, 1) := by decide +kernel
theorem dX0_enterPeople_5 : decode prog_2_method_3_code 5 = .ok (.iconst 0, 1) := by decide +kernel
theorem dX0_enterPeople_6 : decode prog_2_method_3_code 6 = .ok (.iastore, 1) := by decide +kernel
theorem dX0_enterPeople_7 : decode prog_2_method_3_code 7 = .ok (.aload_n 0, 1) := by decide +kernel
theorem dX0_enterPeople_8 : decode prog_2_method_3_code 8 = .ok (.getfield 15, 3) := by decide +kernel
theorem dX0_enterPeople_11 : decode prog_2_method_3_code 11 = .ok (.iload_n 1, 1) := by decide +kernel
theorem dX0_enterPeople_12 : decode prog_2_method_3_code 12 = .ok (.iconst 0, 1) := by decide +kernel
theorem dX0_enterPeople_13 : decode prog_2_method_3_code 13 = .ok (.iastore, 1) := by decide +kernel
theorem dX0_enterPeople_14 : decode prog_2_method_3_code 14 = .ok (.iconst 0, 1) := by decide +kernel
theorem dX0_enterPeople_15 : decode prog_2_method_3_code 15 = .ok (.istore 4, 2) := by decide +kernel
theorem dX0_enterPeople_17 : decode prog_2_method_3_code 17 = .ok (.iload 4, 2) := by decide +kernel
theorem dX0_enterPeople_19 : decode prog_2_method_3_code 19 = .ok (.aload_n 2, 1) := by decide +kernel
theorem dX0_enterPeople_20 : decode prog_2_method_3_code 20 = .ok (.getfield 24, 3) := by decide +kernel
theorem dX0_enterPeople_23 : decode prog_2_method_3_code 23 = .ok (.if_icmp .ge 106, 3) := by decide +kernel
theorem dX0_enterPeople_26 : decode prog_2_method_3_code 26 = .ok (.aload_n 2, 1) := by decide +kernel
theorem dX0_enterPeople_27 : decode prog_2_method_3_code 27 = .ok (.getfield 30, 3) := by decide +kernel
theorem dX0_enterPeople_30 : decode prog_2_method_3_code 30 = .ok (.iload 4, 2) := by decide +kernel
theorem dX0_enterPeople_32 : decode prog_2_method_3_code 32 = .ok (.aaload, 1) := by decide +kernel
theorem dX0_enterPeople_33 : decode prog_2_method_3_code 33 = .ok (.astore 5, 2) := by decide +kernel
theorem dX0_enterPeople_35 : decode prog_2_method_3_code 35 = .ok (.aload_n 3, 1) := by decide +kernel
theorem dX0_enterPeople_36 : decode prog_2_method_3_code 36 = .ok (.getfield 45, 3) := by decide +kernel
theorem dX0_enterPeople_39 : decode prog_2_method_3_code 39 = .ok (.iload 4, 2) := by decide +kernel
theorem dX0_enterPeople_41 : decode prog_2_method_3_code 41 = .ok (.iaload, 1) := by decide +kernel
theorem dX0_enterPeople_42 : decode prog_2_method_3_code 42 = .ok (.bipush (-2), 2) := by decide +kernel
theorem dX0_enterPeople_44 : decode prog_2_method_3_code 44 = .ok (.if_icmp .eq 14, 3) := by decide +kernel
theorem dX0_enterPeople_47 : decode prog_2_method_3_code 47 = .ok (.iload_n 1, 1) := by decide +kernel
theorem dX0_enterPeople_48 : decode prog_2_method_3_code 48 = .ok (.aload_n 3, 1) := by decide +kernel
theorem dX0_enterPeople_49 : decode prog_2_method_3_code 49 = .ok (.getfield 45, 3) := by decide +kernel
theorem dX0_enterPeople_52 : decode prog_2_method_3_code 52 = .ok (.iload 4, 2) := by decide +kernel
theorem dX0_enterPeople_54 : decode prog_2_method_3_code 54 = .ok (.iaload, 1) := by decide +kernel
theorem dX0_enterPeople_55 : decode prog_2_method_3_code 55 = .ok (.if_icmp .ge 7, 3) := by decide +kernel
theorem dX0_enterPeople_58 : decode prog_2_method_3_code 58 = .ok (.iconst 1, 1) := by decide +kernel
theorem dX0_enterPeople_59 : decode prog_2_method_3_code 59 = .ok (.goto 4, 3) := by decide +kernel
theorem dX0_enterPeople_62 : decode prog_2_method_3_code 62 = .ok (.iconst 0, 1) := by decide +kernel
theorem dX0_enterPeople_63 : decode prog_2_method_3_code 63 = .ok (.istore 6, 2) := by decide +kernel
theorem dX0_enterPeople_65 : decode prog_2_method_3_code 65 = .ok (.aload 5, 2) := by decide +kernel
theorem dX0_enterPeople_67 : decode prog_2_method_3_code 67 = .ok (.iconst 2, 1) := by decide +kernel
theorem dX0_enterPeople_68 : decode prog_2_method_3_code 68 = .ok (.iaload, 1) := by decide +kernel
theorem dX0_enterPeople_69 : decode prog_2_method_3_code 69 = .ok (.iload_n 1, 1) := by decide +kernel
theorem dX0_enterPeople_70 : decode prog_2_method_3_code 70 = .ok (.if_icmp .gt 53, 3) := by decide +kernel
theorem dX0_enterPeople_73 : decode prog_2_method_3_code 73 = .ok (.iload 6, 2) := by decide +kernel
theorem dX0_enterPeople_75 : decode prog_2_method_3_code 75 = .ok (.ifCond .eq 48, 3) := by decide +kernel
theorem dX0_enterPeople_78 : decode prog_2_method_3_code 78 = .ok (.aload_n 0, 1) := by decide +kernel
theorem dX0_enterPeople_79 : decode prog_2_method_3_code 79 = .ok (.getfield 9, 3) := by decide +kernel
theorem dX0_enterPeople_82 : decode prog_2_method_3_code 82 = .ok (.iload_n 1, 1) := by decide +kernel
theorem dX0_enterPeople_83 : decode prog_2_method_3_code 83 = .ok (.dup2, 1) := by decide +kernel
theorem dX0_enterPeople_84 : decode prog_2_method_3_code 84 = .ok (.iaload, 1) := by decide +kernel
theorem dX0_enterPeople_85 : decode prog_2_method_3_code 85 = .ok (.iconst 1, 1) := by decide +kernel
theorem dX0_enterPeople_86 : decode prog_2_method_3_code 86 = .ok (.iload 4, 2) := by decide +kernel
theorem dX0_enterPeople_88 : decode prog_2_method_3_code 88 = .ok (.ishl, 1) := by decide +kernel
theorem dX0_enterPeople_89 : decode prog_2_method_3_code 89 = .ok (.ior, 1) := by decide +kernel
theorem dX0_enterPeople_90 : decode prog_2_method_3_code 90 = .ok (.iastore, 1) := by decide +kernel
theorem dX0_enterPeople_91 : decode prog_2_method_3_code 91 = .ok (.aload 5, 2) := by decide +kernel
theorem dX0_enterPeople_93 : decode prog_2_method_3_code 93 = .ok (.iconst 0, 1) := by decide +kernel
theorem dX0_enterPeople_94 : decode prog_2_method_3_code 94 = .ok (.iaload, 1) := by decide +kernel
theorem dX0_enterPeople_95 : decode prog_2_method_3_code 95 = .ok (.iconst 1, 1) := by decide +kernel
theorem dX0_enterPeople_96 : decode prog_2_method_3_code 96 = .ok (.if_icmp .ne 14, 3) := by decide +kernel
theorem dX0_enterPeople_99 : decode prog_2_method_3_code 99 = .ok (.iload_n 1, 1) := by decide +kernel
theorem dX0_enterPeople_100 : decode prog_2_method_3_code 100 = .ok (.aload 5, 2) := by decide +kernel
theorem dX0_enterPeople_102 : decode prog_2_method_3_code 102 = .ok (.iconst 2, 1) := by decide +kernel
theorem dX0_enterPeople_103 : decode prog_2_method_3_code 103 = .ok (.iaload, 1) := by decide +kernel
theorem dX0_enterPeople_104 : decode prog_2_method_3_code 104 = .ok (.isub, 1) := by decide +kernel
theorem dX0_enterPeople_105 : decode prog_2_method_3_code 105 = .ok (.bipush 30, 2) := by decide +kernel
theorem dX0_enterPeople_107 : decode prog_2_method_3_code 107 = .ok (.if_icmp .ge 16, 3) := by decide +kernel
theorem dX0_enterPeople_110 : decode prog_2_method_3_code 110 = .ok (.aload_n 0, 1) := by decide +kernel
theorem dX0_enterPeople_111 : decode prog_2_method_3_code 111 = .ok (.getfield 15, 3) := by decide +kernel
theorem dX0_enterPeople_114 : decode prog_2_method_3_code 114 = .ok (.iload_n 1, 1) := by decide +kernel
theorem dX0_enterPeople_115 : decode prog_2_method_3_code 115 = .ok (.dup2, 1) := by decide +kernel
theorem dX0_enterPeople_116 : decode prog_2_method_3_code 116 = .ok (.iaload, 1) := by decide +kernel
theorem dX0_enterPeople_117 : decode prog_2_method_3_code 117 = .ok (.iconst 1, 1) := by decide +kernel
theorem dX0_enterPeople_118 : decode prog_2_method_3_code 118 = .ok (.iload 4, 2) := by decide +kernel
theorem dX0_enterPeople_120 : decode prog_2_method_3_code 120 = .ok (.ishl, 1) := by decide +kernel
theorem dX0_enterPeople_121 : decode prog_2_method_3_code 121 = .ok (.ior, 1) := by decide +kernel
theorem dX0_enterPeople_122 : decode prog_2_method_3_code 122 = .ok (.iastore, 1) := by decide +kernel
theorem dX0_enterPeople_123 : decode prog_2_method_3_code 123 = .ok (.iinc 4 1, 3) := by decide +kernel
theorem dX0_enterPeople_126 : decode prog_2_method_3_code 126 = .ok (.goto (-109), 3) := by decide +kernel
theorem dX0_enterPeople_129 : decode prog_2_method_3_code 129 = .ok (.return_, 1) := by decide +kernel
theorem dX0_enterHarm_0 : decode prog_2_method_4_code 0 = .ok (.iconst 0, 1) := by decide +kernel
theorem dX0_enterHarm_1 : decode prog_2_method_4_code 1 = .ok (.istore_n 3, 1) := by decide +kernel
theorem dX0_enterHarm_2 : decode prog_2_method_4_code 2 = .ok (.iload_n 3, 1) := by decide +kernel
theorem dX0_enterHarm_3 : decode prog_2_method_4_code 3 = .ok (.aload_n 2, 1) := by decide +kernel
theorem dX0_enterHarm_4 : decode prog_2_method_4_code 4 = .ok (.getfield 24, 3) := by decide +kernel
theorem dX0_enterHarm_7 : decode prog_2_method_4_code 7 = .ok (.if_icmp .ge 21, 3) := by decide +kernel
theorem dX0_enterHarm_10 : decode prog_2_method_4_code 10 = .ok (.aload_n 0, 1) := by decide +kernel
theorem dX0_enterHarm_11 : decode prog_2_method_4_code 11 = .ok (.getfield 18, 3) := by decide +kernel
theorem dX0_enterHarm_14 : decode prog_2_method_4_code 14 = .ok (.iload_n 1, 1) := by decide +kernel
theorem dX0_enterHarm_15 : decode prog_2_method_4_code 15 = .ok (.bipush 10, 2) := by decide +kernel
theorem dX0_enterHarm_17 : decode prog_2_method_4_code 17 = .ok (.imul, 1) := by decide +kernel
theorem dX0_enterHarm_18 : decode prog_2_method_4_code 18 = .ok (.iload_n 3, 1) := by decide +kernel
theorem dX0_enterHarm_19 : decode prog_2_method_4_code 19 = .ok (.iadd, 1) := by decide +kernel
theorem dX0_enterHarm_20 : decode prog_2_method_4_code 20 = .ok (.iconst 0, 1) := by decide +kernel
theorem dX0_enterHarm_21 : decode prog_2_method_4_code 21 = .ok (.iastore, 1) := by decide +kernel
theorem dX0_enterHarm_22 : decode prog_2_method_4_code 22 = .ok (.iinc 3 1, 3) := by decide +kernel
theorem dX0_enterHarm_25 : decode prog_2_method_4_code 25 = .ok (.goto (-23), 3) := by decide +kernel
theorem dX0_enterHarm_28 : decode prog_2_method_4_code 28 = .ok (.iconst 0, 1) := by decide +kernel
theorem dX0_enterHarm_29 : decode prog_2_method_4_code 29 = .ok (.istore_n 3, 1) := by decide +kernel
theorem dX0_enterHarm_30 : decode prog_2_method_4_code 30 = .ok (.iload_n 3, 1) := by decide +kernel
theorem dX0_enterHarm_31 : decode prog_2_method_4_code 31 = .ok (.aload_n 2, 1) := by decide +kernel
theorem dX0_enterHarm_32 : decode prog_2_method_4_code 32 = .ok (.getfield 50, 3) := by decide +kernel
theorem dX0_enterHarm_35 : decode prog_2_method_4_code 35 = .ok (.if_icmp .ge 54, 3) := by decide +kernel
theorem dX0_enterHarm_38 : decode prog_2_method_4_code 38 = .ok (.aload_n 2, 1) := by decide +kernel
theorem dX0_enterHarm_39 : decode prog_2_method_4_code 39 = .ok (.getfield 53, 3) := by decide +kernel
theorem dX0_enterHarm_42 : decode prog_2_method_4_code 42 = .ok (.iload_n 3, 1) := by decide +kernel
theorem dX0_enterHarm_43 : decode prog_2_method_4_code 43 = .ok (.aaload, 1) := by decide +kernel
theorem dX0_enterHarm_44 : decode prog_2_method_4_code 44 = .ok (.astore 4, 2) := by decide +kernel
theorem dX0_enterHarm_46 : decode prog_2_method_4_code 46 = .ok (.aload 4, 2) := by decide +kernel
theorem dX0_enterHarm_48 : decode prog_2_method_4_code 48 = .ok (.iconst 1, 1) := by decide +kernel
theorem dX0_enterHarm_49 : decode prog_2_method_4_code 49 = .ok (.iaload, 1) := by decide +kernel
theorem dX0_enterHarm_50 : decode prog_2_method_4_code 50 = .ok (.iload_n 1, 1) := by decide +kernel
theorem dX0_enterHarm_51 : decode prog_2_method_4_code 51 = .ok (.if_icmp .gt 32, 3) := by decide +kernel
theorem dX0_enterHarm_54 : decode prog_2_method_4_code 54 = .ok (.iload_n 1, 1) := by decide +kernel
theorem dX0_enterHarm_55 : decode prog_2_method_4_code 55 = .ok (.aload 4, 2) := by decide +kernel
theorem dX0_enterHarm_57 : decode prog_2_method_4_code 57 = .ok (.iconst 2, 1) := by decide +kernel
theorem dX0_enterHarm_58 : decode prog_2_method_4_code 58 = .ok (.iaload, 1) := by decide +kernel
theorem dX0_enterHarm_59 : decode prog_2_method_4_code 59 = .ok (.if_icmp .gt 24, 3) := by decide +kernel
theorem dX0_enterHarm_62 : decode prog_2_method_4_code 62 = .ok (.aload_n 0, 1) := by decide +kernel
theorem dX0_enterHarm_63 : decode prog_2_method_4_code 63 = .ok (.getfield 18, 3) := by decide +kernel
theorem dX0_enterHarm_66 : decode prog_2_method_4_code 66 = .ok (.iload_n 1, 1) := by decide +kernel
theorem dX0_enterHarm_67 : decode prog_2_method_4_code 67 = .ok (.bipush 10, 2) := by decide +kernel
theorem dX0_enterHarm_69 : decode prog_2_method_4_code 69 = .ok (.imul, 1) := by decide +kernel
theorem dX0_enterHarm_70 : decode prog_2_method_4_code 70 = .ok (.aload 4, 2) := by decide +kernel
theorem dX0_enterHarm_72 : decode prog_2_method_4_code 72 = .ok (.iconst 0, 1) := by decide +kernel
theorem dX0_enterHarm_73 : decode prog_2_method_4_code 73 = .ok (.iaload, 1) := by decide +kernel
theorem dX0_enterHarm_74 : decode prog_2_method_4_code 74 = .ok (.iadd, 1) := by decide +kernel
theorem dX0_enterHarm_75 : decode prog_2_method_4_code 75 = .ok (.dup2, 1) := by decide +kernel
theorem dX0_enterHarm_76 : decode prog_2_method_4_code 76 = .ok (.iaload, 1) := by decide +kernel
theorem dX0_enterHarm_77 : decode prog_2_method_4_code 77 = .ok (.aload 4, 2) := by decide +kernel
theorem dX0_enterHarm_79 : decode prog_2_method_4_code 79 = .ok (.iconst 3, 1) := by decide +kernel
theorem dX0_enterHarm_80 : decode prog_2_method_4_code 80 = .ok (.iaload, 1) := by decide +kernel
theorem dX0_enterHarm_81 : decode prog_2_method_4_code 81 = .ok (.iadd, 1) := by decide +kernel
theorem dX0_enterHarm_82 : decode prog_2_method_4_code 82 = .ok (.iastore, 1) := by decide +kernel
theorem dX0_enterHarm_83 : decode prog_2_method_4_code 83 = .ok (.iinc 3 1, 3) := by decide +kernel
theorem dX0_enterHarm_86 : decode prog_2_method_4_code 86 = .ok (.goto (-56), 3) := by decide +kernel
theorem dX0_enterHarm_89 : decode prog_2_method_4_code 89 = .ok (.return_, 1) := by decide +kernel
theorem dX1_init_0 : decode prog_3_method_1_code 0 = .ok (.aload_n 0, 1) := by decide +kernel
theorem dX1_init_1 : decode prog_3_method_1_code 1 = .ok (.invokespecial 3, 3) := by decide +kernel
theorem dX1_init_4 : decode prog_3_method_1_code 4 = .ok (.aload_n 0, 1) := by decide +kernel
theorem dX1_init_5 : decode prog_3_method_1_code 5 = .ok (.bipush 24, 2) := by decide +kernel
theorem dX1_init_7 : decode prog_3_method_1_code 7 = .ok (.newarray .int, 2) := by decide +kernel
theorem dX1_init_9 : decode prog_3_method_1_code 9 = .ok (.putfield 9, 3) := by decide +kernel
theorem dX1_init_12 : decode prog_3_method_1_code 12 = .ok (.aload_n 0, 1) := by decide +kernel
theorem dX1_init_13 : decode prog_3_method_1_code 13 = .ok (.bipush 24, 2) := by decide +kernel
theorem dX1_init_15 : decode prog_3_method_1_code 15 = .ok (.newarray .int, 2) := by decide +kernel
theorem dX1_init_17 : decode prog_3_method_1_code 17 = .ok (.putfield 15, 3) := by decide +kernel
theorem dX1_init_20 : decode prog_3_method_1_code 20 = .ok (.aload_n 0, 1) := by decide +kernel
theorem dX1_init_21 : decode prog_3_method_1_code 21 = .ok (.bipush 24, 2) := by decide +kernel
theorem dX1_init_23 : decode prog_3_method_1_code 23 = .ok (.newarray .int, 2) := by decide +kernel
theorem dX1_init_25 : decode prog_3_method_1_code 25 = .ok (.putfield 18, 3) := by decide +kernel
theorem dX1_init_28 : decode prog_3_method_1_code 28 = .ok (.aload_n 0, 1) := by decide +kernel
theorem dX1_init_29 : decode prog_3_method_1_code 29 = .ok (.bipush 24, 2) := by decide +kernel
theorem dX1_init_31 : decode prog_3_method_1_code 31 = .ok (.newarray .int, 2) := by decide +kernel
theorem dX1_init_33 : decode prog_3_method_1_code 33 = .ok (.putfield 21, 3) := by decide +kernel
theorem dX1_init_36 : decode prog_3_method_1_code 36 = .ok (.aload_n 0, 1) := by decide +kernel
theorem dX1_init_37 : decode prog_3_method_1_code 37 = .ok (.bipush 24, 2) := by decide +kernel
theorem dX1_init_39 : decode prog_3_method_1_code 39 = .ok (.newarray .int, 2) := by decide +kernel
theorem dX1_init_41 : decode prog_3_method_1_code 41 = .ok (.putfield 24, 3) := by decide +kernel
theorem dX1_init_44 : decode prog_3_method_1_code 44 = .ok (.aload_n 0, 1) := by decide +kernel
theorem dX1_init_45 : decode prog_3_method_1_code 45 = .ok (.sipush 240, 3) := by decide +kernel
theorem dX1_init_48 : decode prog_3_method_1_code 48 = .ok (.newarray .int, 2) := by decide +kernel
theorem dX1_init_50 : decode prog_3_method_1_code 50 = .ok (.putfield 27, 3) := by decide +kernel
theorem dX1_init_53 : decode prog_3_method_1_code 53 = .ok (.aload_n 0, 1) := by decide +kernel
theorem dX1_init_54 : decode prog_3_method_1_code 54 = .ok (.sipush 192, 3) := by decide +kernel
theorem dX1_init_57 : decode prog_3_method_1_code 57 = .ok (.newarray .int, 2) := by decide +kernel
theorem dX1_init_59 : decode prog_3_method_1_code 59 = .ok (.putfield 30, 3) := by decide +kernel
theorem dX1_init_62 : decode prog_3_method_1_code 62 = .ok (.aload_n 0, 1) := by decide +kernel
theorem dX1_init_63 : decode prog_3_method_1_code 63 = .ok (.aload_n 1, 1) := by decide +kernel
theorem dX1_init_64 : decode prog_3_method_1_code 64 = .ok (.putfield 33, 3) := by decide +kernel
theorem dX1_init_67 : decode prog_3_method_1_code 67 = .ok (.aload_n 0, 1) := by decide +kernel
theorem dX1_init_68 : decode prog_3_method_1_code 68 = .ok (.new 37, 3) := by decide +kernel
theorem dX1_init_71 : decode prog_3_method_1_code 71 = .ok (.dup, 1) := by decide +kernel
theorem dX1_init_72 : decode prog_3_method_1_code 72 = .ok (.aload_n 1, 1) := by decide +kernel
theorem dX1_init_73 : decode prog_3_method_1_code 73 = .ok (.invokespecial 39, 3) := by decide +kernel
theorem dX1_init_76 : decode prog_3_method_1_code 76 = .ok (.putfield 42, 3) := by decide +kernel
theorem dX1_init_79 : decode prog_3_method_1_code 79 = .ok (.aload_n 0, 1) := by decide +kernel
theorem dX1_init_80 : decode prog_3_method_1_code 80 = .ok (.new 46, 3) := by decide +kernel
theorem dX1_init_83 : decode prog_3_method_1_code 83 = .ok (.dup, 1) := by decide +kernel
theorem dX1_init_84 : decode prog_3_method_1_code 84 = .ok (.aload_n 1, 1) := by decide +kernel
theorem dX1_init_85 : decode prog_3_method_1_code 85 = .ok (.invokespecial 48, 3) := by decide +kernel
theorem dX1_init_88 : decode prog_3_method_1_code 88 = .ok (.putfield 49, 3) := by decide +kernel
theorem dX1_init_91 : decode prog_3_method_1_code 91 = .ok (.return_, 1) := by decide +kernel
theorem dX1_write_0 : decode prog_3_method_2_code 0 = .ok (.aload_n 0, 1) := by decide +kernel
theorem dX1_write_1 : decode prog_3_method_2_code 1 = .ok (.getfield 42, 3) := by decide +kernel
theorem dX1_write_4 : decode prog_3_method_2_code 4 = .ok (.aload_n 0, 1) := by decide +kernel
theorem dX1_write_5 : decode prog_3_method_2_code 5 = .ok (.getfield 33, 3) := by decide +kernel
theorem dX1_write_8 : decode prog_3_method_2_code 8 = .ok (.getfield 53, 3) := by decide +kernel
theorem dX1_write_11 : decode prog_3_method_2_code 11 = .ok (.getfield 59, 3) := by decide +kernel
theorem dX1_write_14 : decode prog_3_method_2_code 14 = .ok (.aload_n 0, 1) := by decide +kernel
theorem dX1_write_15 : decode prog_3_method_2_code 15 = .ok (.getfield 33, 3) := by decide +kernel
theorem dX1_write_18 : decode prog_3_method_2_code 18 = .ok (.getfield 53, 3) := by decide +kernel
theorem dX1_write_21 : decode prog_3_method_2_code 21 = .ok (.getfield 65, 3) := by decide +kernel
theorem dX1_write_24 : decode prog_3_method_2_code 24 = .ok (.invokevirtual 68, 3) := by decide +kernel
theorem dX1_write_27 : decode prog_3_method_2_code 27 = .ok (.aload_n 0, 1) := by decide +kernel
theorem dX1_write_28 : decode prog_3_method_2_code 28 = .ok (.getfield 49, 3) := by decide +kernel
theorem dX1_write_31 : decode prog_3_method_2_code 31 = .ok (.invokevirtual 72, 3) := by decide +kernel
theorem dX1_write_34 : decode prog_3_method_2_code 34 = .ok (.iconst 0, 1) := by decide +kernel
theorem dX1_write_35 : decode prog_3_method_2_code 35 = .ok (.istore_n 1, 1) := by decide +kernel
theorem dX1_write_36 : decode prog_3_method_2_code 36 = .ok (.iload_n 1, 1) := by decide +kernel
theorem dX1_write_37 : decode prog_3_method_2_code 37 = .ok (.aload_n 0, 1) := by decide +kernel
theorem dX1_write_38 : decode prog_3_method_2_code 38 = .ok (.getfield 33, 3) := by decide +kernel
theorem dX1_write_41 : decode prog_3_method_2_code 41 = .ok (.getfield 74, 3) := by decide +kernel
theorem dX1_write_44 : decode prog_3_method_2_code 44 = .ok (.getfield 78, 3) := by decide +kernel
theorem dX1_write_47 : decode prog_3_method_2_code 47 = .ok (.if_icmp .ge 103, 3) := by decide +kernel
theorem dX1_write_50 : decode prog_3_method_2_code 50 = .ok (.aload_n 0, 1) := by decide +kernel
theorem dX1_write_51 : decode prog_3_method_2_code 51 = .ok (.getfield 9, 3) := by decide +kernel
theorem dX1_write_54 : decode prog_3_method_2_code 54 = .ok (.iload_n 1, 1) := by decide +kernel
theorem dX1_write_55 : decode prog_3_method_2_code 55 = .ok (.aload_n 0, 1) := by decide +kernel
theorem dX1_write_56 : decode prog_3_method_2_code 56 = .ok (.getfield 42, 3) := by decide +kernel
theorem dX1_write_59 : decode prog_3_method_2_code 59 = .ok (.iload_n 1, 1) := by decide +kernel
theorem dX1_write_60 : decode prog_3_method_2_code 60 = .ok (.invokevirtual 83, 3) := by decide +kernel
theorem dX1_write_63 : decode prog_3_method_2_code 63 = .ok (.iastore, 1) := by decide +kernel
theorem dX1_write_64 : decode prog_3_method_2_code 64 = .ok (.aload_n 0, 1) := by decide +kernel
theorem dX1_write_65 : decode prog_3_method_2_code 65 = .ok (.getfield 15, 3) := by decide +kernel
theorem dX1_write_68 : decode prog_3_method_2_code 68 = .ok (.iload_n 1, 1) := by decide +kernel
theorem dX1_write_69 : decode prog_3_method_2_code 69 = .ok (.aload_n 0, 1) := by decide +kernel
theorem dX1_write_70 : decode prog_3_method_2_code 70 = .ok (.getfield 42, 3) := by decide +kernel
theorem dX1_write_73 : decode prog_3_method_2_code 73 = .ok (.iload_n 1, 1) := by decide +kernel
theorem dX1_write_74 : decode prog_3_method_2_code 74 = .ok (.invokevirtual 87, 3) := by decide +kernel
theorem dX1_write_77 : decode prog_3_method_2_code 77 = .ok (.iastore, 1) := by decide +kernel
theorem dX1_write_78 : decode prog_3_method_2_code 78 = .ok (.aload_n 0, 1) := by decide +kernel
theorem dX1_write_79 : decode prog_3_method_2_code 79 = .ok (.getfield 18, 3) := by decide +kernel
theorem dX1_write_82 : decode prog_3_method_2_code 82 = .ok (.iload_n 1, 1) := by decide +kernel
theorem dX1_write_83 : decode prog_3_method_2_code 83 = .ok (.aload_n 0, 1) := by decide +kernel
theorem dX1_write_84 : decode prog_3_method_2_code 84 = .ok (.getfield 42, 3) := by decide +kernel
theorem dX1_write_87 : decode prog_3_method_2_code 87 = .ok (.getfield 90, 3) := by decide +kernel
theorem dX1_write_90 : decode prog_3_method_2_code 90 = .ok (.ifCond .eq 7, 3) := by decide +kernel
theorem dX1_write_93 : decode prog_3_method_2_code 93 = .ok (.iconst 1, 1) := by decide +kernel
theorem dX1_write_94 : decode prog_3_method_2_code 94 = .ok (.goto 4, 3) := by decide +kernel
theorem dX1_write_97 : decode prog_3_method_2_code 97 = .ok (.iconst 0, 1) := by decide +kernel
theorem dX1_write_98 : decode prog_3_method_2_code 98 = .ok (.iastore, 1) := by decide +kernel
theorem dX1_write_99 : decode prog_3_method_2_code 99 = .ok (.aload_n 0, 1) := by decide +kernel
theorem dX1_write_100 : decode prog_3_method_2_code 100 = .ok (.getfield 42, 3) := by decide +kernel
theorem dX1_write_103 : decode prog_3_method_2_code 103 = .ok (.getfield 94, 3) := by decide +kernel
theorem dX1_write_106 : decode prog_3_method_2_code 106 = .ok (.istore_n 2, 1) := by decide +kernel
theorem dX1_write_107 : decode prog_3_method_2_code 107 = .ok (.aload_n 0, 1) := by decide +kernel
theorem dX1_write_108 : decode prog_3_method_2_code 108 = .ok (.getfield 42, 3) := by decide +kernel
theorem dX1_write_111 : decode prog_3_method_2_code 111 = .ok (.iload_n 1, 1) := by decide +kernel
theorem dX1_write_112 : decode prog_3_method_2_code 112 = .ok (.invokevirtual 96, 3) := by decide +kernel
theorem dX1_write_115 : decode prog_3_method_2_code 115 = .ok (.aload_n 0, 1) := by decide +kernel
theorem dX1_write_116 : decode prog_3_method_2_code 116 = .ok (.getfield 21, 3) := by decide +kernel
theorem dX1_write_119 : decode prog_3_method_2_code 119 = .ok (.iload_n 1, 1) := by decide +kernel
theorem dX1_write_120 : decode prog_3_method_2_code 120 = .ok (.aload_n 0, 1) := by decide +kernel
theorem dX1_write_121 : decode prog_3_method_2_code 121 = .ok (.getfield 42, 3) := by decide +kernel
theorem dX1_write_124 : decode prog_3_method_2_code 124 = .ok (.getfield 94, 3) := by decide +kernel
theorem dX1_write_127 : decode prog_3_method_2_code 127 = .ok (.iload_n 2, 1) := by decide +kernel
theorem dX1_write_128 : decode prog_3_method_2_code 128 = .ok (.isub, 1) := by decide +kernel
theorem dX1_write_129 : decode prog_3_method_2_code 129 = .ok (.iastore, 1) := by decide +kernel
theorem dX1_write_130 : decode prog_3_method_2_code 130 = .ok (.aload_n 0, 1) := by decide +kernel
theorem dX1_write_131 : decode prog_3_method_2_code 131 = .ok (.iload_n 1, 1) := by decide +kernel
theorem dX1_write_132 : decode prog_3_method_2_code 132 = .ok (.aload_n 0, 1) := by decide +kernel
theorem dX1_write_133 : decode prog_3_method_2_code 133 = .ok (.getfield 42, 3) := by decide +kernel
theorem dX1_write_136 : decode prog_3_method_2_code 136 = .ok (.getfield 100, 3) := by decide +kernel
theorem dX1_write_139 : decode prog_3_method_2_code 139 = .ok (.iload_n 1, 1) := by decide +kernel
theorem dX1_write_140 : decode prog_3_method_2_code 140 = .ok (.iaload, 1) := by decide +kernel
theorem dX1_write_141 : decode prog_3_method_2_code 141 = .ok (.invokevirtual 103, 3) := by decide +kernel
theorem dX1_write_144 : decode prog_3_method_2_code 144 = .ok (.iinc 1 1, 3) := by decide +kernel
theorem dX1_write_147 : decode prog_3_method_2_code 147 = .ok (.goto (-111), 3) := by decide +kernel
theorem dX1_write_150 : decode prog_3_method_2_code 150 = .ok (.return_, 1) := by decide +kernel
theorem dX1_writeNotes_0 : decode prog_3_method_3_code 0 = .ok (.iload_n 2, 1) := by decide +kernel
theorem dX1_writeNotes_1 : decode prog_3_method_3_code 1 = .ok (.ifCond .lt 18, 3) := by decide +kernel
theorem dX1_writeNotes_4 : decode prog_3_method_3_code 4 = .ok (.aload_n 0, 1) := by decide +kernel
theorem dX1_writeNotes_5 : decode prog_3_method_3_code 5 = .ok (.getfield 49, 3) := by decide +kernel
theorem dX1_writeNotes_8 : decode prog_3_method_3_code 8 = .ok (.iload_n 2, 1) := by decide +kernel
theorem dX1_writeNotes_9 : decode prog_3_method_3_code 9 = .ok (.aload_n 0, 1) := by decide +kernel
theorem dX1_writeNotes_10 : decode prog_3_method_3_code 10 = .ok (.getfield 42, 3) := by decide +kernel
theorem dX1_writeNotes_13 : decode prog_3_method_3_code 13 = .ok (.getfield 90, 3) := by decide +kernel
theorem dX1_writeNotes_16 : decode prog_3_method_3_code 16 = .ok (.invokevirtual 106, 3) := by decide +kernel
theorem dX1_writeNotes_19 : decode prog_3_method_3_code 19 = .ok (.aload_n 0, 1) := by decide +kernel
theorem dX1_writeNotes_20 : decode prog_3_method_3_code 20 = .ok (.getfield 24, 3) := by decide +kernel
theorem dX1_writeNotes_23 : decode prog_3_method_3_code 23 = .ok (.iload_n 1, 1) := by decide +kernel
theorem dX1_writeNotes_24 : decode prog_3_method_3_code 24 = .ok (.aload_n 0, 1) := by decide +kernel
theorem dX1_writeNotes_25 : decode prog_3_method_3_code 25 = .ok (.getfield 49, 3) := by decide +kernel
theorem dX1_writeNotes_28 : decode prog_3_method_3_code 28 = .ok (.getfield 110, 3) := by decide +kernel
theorem dX1_writeNotes_31 : decode prog_3_method_3_code 31 = .ok (.iastore, 1) := by decide +kernel
theorem dX1_writeNotes_32 : decode prog_3_method_3_code 32 = .ok (.aload_n 0, 1) := by decide +kernel
theorem dX1_writeNotes_33 : decode prog_3_method_3_code 33 = .ok (.getfield 49, 3) := by decide +kernel
theorem dX1_writeNotes_36 : decode prog_3_method_3_code 36 = .ok (.getfield 113, 3) := by decide +kernel
theorem dX1_writeNotes_39 : decode prog_3_method_3_code 39 = .ok (.iconst 0, 1) := by decide +kernel
theorem dX1_writeNotes_40 : decode prog_3_method_3_code 40 = .ok (.aload_n 0, 1) := by decide +kernel
theorem dX1_writeNotes_41 : decode prog_3_method_3_code 41 = .ok (.getfield 27, 3) := by decide +kernel
theorem dX1_writeNotes_44 : decode prog_3_method_3_code 44 = .ok (.iload_n 1, 1) := by decide +kernel
theorem dX1_writeNotes_45 : decode prog_3_method_3_code 45 = .ok (.bipush 10, 2) := by decide +kernel
theorem dX1_writeNotes_47 : decode prog_3_method_3_code 47 = .ok (.imul, 1) := by decide +kernel
theorem dX1_writeNotes_48 : decode prog_3_method_3_code 48 = .ok (.bipush 10, 2) := by decide +kernel
theorem dX1_writeNotes_50 : decode prog_3_method_3_code 50 = .ok (.invokestatic 116, 3) := by decide +kernel
theorem dX1_writeNotes_53 : decode prog_3_method_3_code 53 = .ok (.aload_n 0, 1) := by decide +kernel
theorem dX1_writeNotes_54 : decode prog_3_method_3_code 54 = .ok (.getfield 49, 3) := by decide +kernel
theorem dX1_writeNotes_57 : decode prog_3_method_3_code 57 = .ok (.getfield 122, 3) := by decide +kernel
theorem dX1_writeNotes_60 : decode prog_3_method_3_code 60 = .ok (.iconst 0, 1) := by decide +kernel
theorem dX1_writeNotes_61 : decode prog_3_method_3_code 61 = .ok (.aload_n 0, 1) := by decide +kernel
theorem dX1_writeNotes_62 : decode prog_3_method_3_code 62 = .ok (.getfield 30, 3) := by decide +kernel
theorem dX1_writeNotes_65 : decode prog_3_method_3_code 65 = .ok (.iload_n 1, 1) := by decide +kernel
theorem dX1_writeNotes_66 : decode prog_3_method_3_code 66 = .ok (.bipush 8, 2) := by decide +kernel
theorem dX1_writeNotes_68 : decode prog_3_method_3_code 68 = .ok (.imul, 1) := by decide +kernel
theorem dX1_writeNotes_69 : decode prog_3_method_3_code 69 = .ok (.bipush 8, 2) := by decide +kernel
theorem dX1_writeNotes_71 : decode prog_3_method_3_code 71 = .ok (.invokestatic 116, 3) := by decide +kernel
theorem dX1_writeNotes_74 : decode prog_3_method_3_code 74 = .ok (.return_, 1) := by decide +kernel
theorem dX1_turnsBehind_0 : decode prog_3_method_4_code 0 = .ok (.iconst 0, 1) := by decide +kernel
theorem dX1_turnsBehind_1 : decode prog_3_method_4_code 1 = .ok (.istore_n 3, 1) := by decide +kernel
theorem dX1_turnsBehind_2 : decode prog_3_method_4_code 2 = .ok (.iconst 0, 1) := by decide +kernel
theorem dX1_turnsBehind_3 : decode prog_3_method_4_code 3 = .ok (.istore 4, 2) := by decide +kernel
theorem dX1_turnsBehind_5 : decode prog_3_method_4_code 5 = .ok (.iload 4, 2) := by decide +kernel
theorem dX1_turnsBehind_7 : decode prog_3_method_4_code 7 = .ok (.iload_n 2, 1) := by decide +kernel
theorem dX1_turnsBehind_8 : decode prog_3_method_4_code 8 = .ok (.if_icmp .gt 26, 3) := by decide +kernel
theorem dX1_turnsBehind_11 : decode prog_3_method_4_code 11 = .ok (.aload_n 0, 1) := by decide +kernel
theorem dX1_turnsBehind_12 : decode prog_3_method_4_code 12 = .ok (.getfield 42, 3) := by decide +kernel
theorem dX1_turnsBehind_15 : decode prog_3_method_4_code 15 = .ok (.getfield 100, 3) := by decide +kernel
theorem dX1_turnsBehind_18 : decode prog_3_method_4_code 18 = .ok (.iload 4, 2) := by decide +kernel
theorem dX1_turnsBehind_20 : decode prog_3_method_4_code 20 = .ok (.iaload, 1) := by decide +kernel
theorem dX1_turnsBehind_21 : decode prog_3_method_4_code 21 = .ok (.iload_n 1, 1) := by decide +kernel
theorem dX1_turnsBehind_22 : decode prog_3_method_4_code 22 = .ok (.if_icmp .ne 6, 3) := by decide +kernel
theorem dX1_turnsBehind_25 : decode prog_3_method_4_code 25 = .ok (.iinc 3 1, 3) := by decide +kernel
theorem dX1_turnsBehind_28 : decode prog_3_method_4_code 28 = .ok (.iinc 4 1, 3) := by decide +kernel
theorem dX1_turnsBehind_31 : decode prog_3_method_4_code 31 = .ok (.goto (-26), 3) := by decide +kernel
theorem dX1_turnsBehind_34 : decode prog_3_method_4_code 34 = .ok (.iload_n 3, 1) := by decide +kernel
theorem dX1_turnsBehind_35 : decode prog_3_method_4_code 35 = .ok (.ireturn, 1) := by decide +kernel
theorem dX1_harmTo_0 : decode prog_3_method_5_code 0 = .ok (.iconst 0, 1) := by decide +kernel
theorem dX1_harmTo_1 : decode prog_3_method_5_code 1 = .ok (.istore_n 2, 1) := by decide +kernel
theorem dX1_harmTo_2 : decode prog_3_method_5_code 2 = .ok (.iconst 0, 1) := by decide +kernel
theorem dX1_harmTo_3 : decode prog_3_method_5_code 3 = .ok (.istore_n 3, 1) := by decide +kernel
theorem dX1_harmTo_4 : decode prog_3_method_5_code 4 = .ok (.iload_n 3, 1) := by decide +kernel
theorem dX1_harmTo_5 : decode prog_3_method_5_code 5 = .ok (.aload_n 0, 1) := by decide +kernel
theorem dX1_harmTo_6 : decode prog_3_method_5_code 6 = .ok (.getfield 33, 3) := by decide +kernel
theorem dX1_harmTo_9 : decode prog_3_method_5_code 9 = .ok (.getfield 74, 3) := by decide +kernel
theorem dX1_harmTo_12 : decode prog_3_method_5_code 12 = .ok (.getfield 78, 3) := by decide +kernel
theorem dX1_harmTo_15 : decode prog_3_method_5_code 15 = .ok (.if_icmp .ge 31, 3) := by decide +kernel
theorem dX1_harmTo_18 : decode prog_3_method_5_code 18 = .ok (.aload_n 0, 1) := by decide +kernel
theorem dX1_harmTo_19 : decode prog_3_method_5_code 19 = .ok (.getfield 42, 3) := by decide +kernel
theorem dX1_harmTo_22 : decode prog_3_method_5_code 22 = .ok (.getfield 100, 3) := by decide +kernel
theorem dX1_harmTo_25 : decode prog_3_method_5_code 25 = .ok (.iload_n 3, 1) := by decide +kernel
theorem dX1_harmTo_26 : decode prog_3_method_5_code 26 = .ok (.iaload, 1) := by decide +kernel
theorem dX1_harmTo_27 : decode prog_3_method_5_code 27 = .ok (.iload_n 1, 1) := by decide +kernel
theorem dX1_harmTo_28 : decode prog_3_method_5_code 28 = .ok (.if_icmp .ne 12, 3) := by decide +kernel
theorem dX1_harmTo_31 : decode prog_3_method_5_code 31 = .ok (.iload_n 2, 1) := by decide +kernel
theorem dX1_harmTo_32 : decode prog_3_method_5_code 32 = .ok (.aload_n 0, 1) := by decide +kernel
theorem dX1_harmTo_33 : decode prog_3_method_5_code 33 = .ok (.getfield 21, 3) := by decide +kernel
theorem dX1_harmTo_36 : decode prog_3_method_5_code 36 = .ok (.iload_n 3, 1) := by decide +kernel
theorem dX1_harmTo_37 : decode prog_3_method_5_code 37 = .ok (.iaload, 1) := by decide +kernel
theorem dX1_harmTo_38 : decode prog_3_method_5_code 38 = .ok (.iadd, 1) := by decide +kernel
theorem dX1_harmTo_39 : decode prog_3_method_5_code 39 = .ok (.istore_n 2, 1) := by decide +kernel
theorem dX1_harmTo_40 : decode prog_3_method_5_code 40 = .ok (.iinc 3 1, 3) := by decide +kernel
theorem dX1_harmTo_43 : decode prog_3_method_5_code 43 = .ok (.goto (-39), 3) := by decide +kernel
theorem dX1_harmTo_46 : decode prog_3_method_5_code 46 = .ok (.iload_n 2, 1) := by decide +kernel
theorem dX1_harmTo_47 : decode prog_3_method_5_code 47 = .ok (.ireturn, 1) := by decide +kernel
theorem dX1_firstTurn_0 : decode prog_3_method_6_code 0 = .ok (.iconst 0, 1) := by decide +kernel
theorem dX1_firstTurn_1 : decode prog_3_method_6_code 1 = .ok (.istore_n 2, 1) := by decide +kernel
theorem dX1_firstTurn_2 : decode prog_3_method_6_code 2 = .ok (.iload_n 2, 1) := by decide +kernel
theorem dX1_firstTurn_3 : decode prog_3_method_6_code 3 = .ok (.aload_n 0, 1) := by decide +kernel
theorem dX1_firstTurn_4 : decode prog_3_method_6_code 4 = .ok (.getfield 33, 3) := by decide +kernel
theorem dX1_firstTurn_7 : decode prog_3_method_6_code 7 = .ok (.getfield 74, 3) := by decide +kernel
theorem dX1_firstTurn_10 : decode prog_3_method_6_code 10 = .ok (.getfield 78, 3) := by decide +kernel
theorem dX1_firstTurn_13 : decode prog_3_method_6_code 13 = .ok (.if_icmp .ge 24, 3) := by decide +kernel
theorem dX1_firstTurn_16 : decode prog_3_method_6_code 16 = .ok (.aload_n 0, 1) := by decide +kernel
theorem dX1_firstTurn_17 : decode prog_3_method_6_code 17 = .ok (.getfield 42, 3) := by decide +kernel
theorem dX1_firstTurn_20 : decode prog_3_method_6_code 20 = .ok (.getfield 100, 3) := by decide +kernel
theorem dX1_firstTurn_23 : decode prog_3_method_6_code 23 = .ok (.iload_n 2, 1) := by decide +kernel
theorem dX1_firstTurn_24 : decode prog_3_method_6_code 24 = .ok (.iaload, 1) := by decide +kernel
theorem dX1_firstTurn_25 : decode prog_3_method_6_code 25 = .ok (.iload_n 1, 1) := by decide +kernel
theorem dX1_firstTurn_26 : decode prog_3_method_6_code 26 = .ok (.if_icmp .ne 5, 3) := by decide +kernel
theorem dX1_firstTurn_29 : decode prog_3_method_6_code 29 = .ok (.iload_n 2, 1) := by decide +kernel
theorem dX1_firstTurn_30 : decode prog_3_method_6_code 30 = .ok (.ireturn, 1) := by decide +kernel
theorem dX1_firstTurn_31 : decode prog_3_method_6_code 31 = .ok (.iinc 2 1, 3) := by decide +kernel
theorem dX1_firstTurn_34 : decode prog_3_method_6_code 34 = .ok (.goto (-32), 3) := by decide +kernel
theorem dX1_firstTurn_37 : decode prog_3_method_6_code 37 = .ok (.bipush (-2), 2) := by decide +kernel
theorem dX1_firstTurn_39 : decode prog_3_method_6_code 39 = .ok (.ireturn, 1) := by decide +kernel
theorem dX1_lastTurn_0 : decode prog_3_method_7_code 0 = .ok (.aload_n 0, 1) := by decide +kernel
theorem dX1_lastTurn_1 : decode prog_3_method_7_code 1 = .ok (.getfield 33, 3) := by decide +kernel
theorem dX1_lastTurn_4 : decode prog_3_method_7_code 4 = .ok (.getfield 74, 3) := by decide +kernel
theorem dX1_lastTurn_7 : decode prog_3_method_7_code 7 = .ok (.getfield 78, 3) := by decide +kernel
theorem dX1_lastTurn_10 : decode prog_3_method_7_code 10 = .ok (.iconst 1, 1) := by decide +kernel
theorem dX1_lastTurn_11 : decode prog_3_method_7_code 11 = .ok (.isub, 1) := by decide +kernel
theorem dX1_lastTurn_12 : decode prog_3_method_7_code 12 = .ok (.istore_n 2, 1) := by decide +kernel
theorem dX1_lastTurn_13 : decode prog_3_method_7_code 13 = .ok (.iload_n 2, 1) := by decide +kernel
theorem dX1_lastTurn_14 : decode prog_3_method_7_code 14 = .ok (.ifCond .lt 24, 3) := by decide +kernel
theorem dX1_lastTurn_17 : decode prog_3_method_7_code 17 = .ok (.aload_n 0, 1) := by decide +kernel
theorem dX1_lastTurn_18 : decode prog_3_method_7_code 18 = .ok (.getfield 42, 3) := by decide +kernel
theorem dX1_lastTurn_21 : decode prog_3_method_7_code 21 = .ok (.getfield 100, 3) := by decide +kernel
theorem dX1_lastTurn_24 : decode prog_3_method_7_code 24 = .ok (.iload_n 2, 1) := by decide +kernel
theorem dX1_lastTurn_25 : decode prog_3_method_7_code 25 = .ok (.iaload, 1) := by decide +kernel
theorem dX1_lastTurn_26 : decode prog_3_method_7_code 26 = .ok (.iload_n 1, 1) := by decide +kernel
theorem dX1_lastTurn_27 : decode prog_3_method_7_code 27 = .ok (.if_icmp .ne 5, 3) := by decide +kernel
theorem dX1_lastTurn_30 : decode prog_3_method_7_code 30 = .ok (.iload_n 2, 1) := by decide +kernel
theorem dX1_lastTurn_31 : decode prog_3_method_7_code 31 = .ok (.ireturn, 1) := by decide +kernel
theorem dX1_lastTurn_32 : decode prog_3_method_7_code 32 = .ok (.iinc 2 (-1), 3) := by decide +kernel
theorem dX1_lastTurn_35 : decode prog_3_method_7_code 35 = .ok (.goto (-22), 3) := by decide +kernel
theorem dX1_lastTurn_38 : decode prog_3_method_7_code 38 = .ok (.bipush (-2), 2) := by decide +kernel
theorem dX1_lastTurn_40 : decode prog_3_method_7_code 40 = .ok (.ireturn, 1) := by decide +kernel
theorem dX1_firstKnowing_0 : decode prog_3_method_8_code 0 = .ok (.iconst 0, 1) := by decide +kernel
theorem dX1_firstKnowing_1 : decode prog_3_method_8_code 1 = .ok (.istore_n 3, 1) := by decide +kernel
theorem dX1_firstKnowing_2 : decode prog_3_method_8_code 2 = .ok (.iload_n 3, 1) := by decide +kernel
theorem dX1_firstKnowing_3 : decode prog_3_method_8_code 3 = .ok (.aload_n 0, 1) := by decide +kernel
theorem dX1_firstKnowing_4 : decode prog_3_method_8_code 4 = .ok (.getfield 33, 3) := by decide +kernel
theorem dX1_firstKnowing_7 : decode prog_3_method_8_code 7 = .ok (.getfield 74, 3) := by decide +kernel
theorem dX1_firstKnowing_10 : decode prog_3_method_8_code 10 = .ok (.getfield 78, 3) := by decide +kernel
theorem dX1_firstKnowing_13 : decode prog_3_method_8_code 13 = .ok (.if_icmp .ge 29, 3) := by decide +kernel
theorem dX1_firstKnowing_16 : decode prog_3_method_8_code 16 = .ok (.aload_n 0, 1) := by decide +kernel
theorem dX1_firstKnowing_17 : decode prog_3_method_8_code 17 = .ok (.getfield 27, 3) := by decide +kernel
theorem dX1_firstKnowing_20 : decode prog_3_method_8_code 20 = .ok (.iload_n 3, 1) := by decide +kernel
theorem dX1_firstKnowing_21 : decode prog_3_method_8_code 21 = .ok (.bipush 10, 2) := by decide +kernel
theorem dX1_firstKnowing_23 : decode prog_3_method_8_code 23 = .ok (.imul, 1) := by decide +kernel
theorem dX1_firstKnowing_24 : decode prog_3_method_8_code 24 = .ok (.iload_n 2, 1) := by decide +kernel
theorem dX1_firstKnowing_25 : decode prog_3_method_8_code 25 = .ok (.iadd, 1) := by decide +kernel
theorem dX1_firstKnowing_26 : decode prog_3_method_8_code 26 = .ok (.iaload, 1) := by decide +kernel
theorem dX1_firstKnowing_27 : decode prog_3_method_8_code 27 = .ok (.iload_n 1, 1) := by decide +kernel
theorem dX1_firstKnowing_28 : decode prog_3_method_8_code 28 = .ok (.invokestatic 125, 3) := by decide +kernel
theorem dX1_firstKnowing_31 : decode prog_3_method_8_code 31 = .ok (.ifCond .eq 5, 3) := by decide +kernel
theorem dX1_firstKnowing_34 : decode prog_3_method_8_code 34 = .ok (.iload_n 3, 1) := by decide +kernel
theorem dX1_firstKnowing_35 : decode prog_3_method_8_code 35 = .ok (.ireturn, 1) := by decide +kernel
theorem dX1_firstKnowing_36 : decode prog_3_method_8_code 36 = .ok (.iinc 3 1, 3) := by decide +kernel
theorem dX1_firstKnowing_39 : decode prog_3_method_8_code 39 = .ok (.goto (-37), 3) := by decide +kernel
theorem dX1_firstKnowing_42 : decode prog_3_method_8_code 42 = .ok (.bipush (-2), 2) := by decide +kernel
theorem dX1_firstKnowing_44 : decode prog_3_method_8_code 44 = .ok (.ireturn, 1) := by decide +kernel
theorem dX1_knowers_0 : decode prog_3_method_9_code 0 = .ok (.iconst 0, 1) := by decide +kernel
theorem dX1_knowers_1 : decode prog_3_method_9_code 1 = .ok (.istore_n 2, 1) := by decide +kernel
theorem dX1_knowers_2 : decode prog_3_method_9_code 2 = .ok (.iconst 0, 1) := by decide +kernel
theorem dX1_knowers_3 : decode prog_3_method_9_code 3 = .ok (.istore_n 3, 1) := by decide +kernel
theorem dX1_knowers_4 : decode prog_3_method_9_code 4 = .ok (.iload_n 3, 1) := by decide +kernel
theorem dX1_knowers_5 : decode prog_3_method_9_code 5 = .ok (.aload_n 0, 1) := by decide +kernel
theorem dX1_knowers_6 : decode prog_3_method_9_code 6 = .ok (.getfield 33, 3) := by decide +kernel
theorem dX1_knowers_9 : decode prog_3_method_9_code 9 = .ok (.getfield 74, 3) := by decide +kernel
theorem dX1_knowers_12 : decode prog_3_method_9_code 12 = .ok (.getfield 129, 3) := by decide +kernel
theorem dX1_knowers_15 : decode prog_3_method_9_code 15 = .ok (.if_icmp .ge 28, 3) := by decide +kernel
theorem dX1_knowers_18 : decode prog_3_method_9_code 18 = .ok (.aload_n 0, 1) := by decide +kernel
theorem dX1_knowers_19 : decode prog_3_method_9_code 19 = .ok (.getfield 49, 3) := by decide +kernel
theorem dX1_knowers_22 : decode prog_3_method_9_code 22 = .ok (.getfield 113, 3) := by decide +kernel
theorem dX1_knowers_25 : decode prog_3_method_9_code 25 = .ok (.iload_n 3, 1) := by decide +kernel
theorem dX1_knowers_26 : decode prog_3_method_9_code 26 = .ok (.iaload, 1) := by decide +kernel
theorem dX1_knowers_27 : decode prog_3_method_9_code 27 = .ok (.iload_n 1, 1) := by decide +kernel
theorem dX1_knowers_28 : decode prog_3_method_9_code 28 = .ok (.invokestatic 125, 3) := by decide +kernel
theorem dX1_knowers_31 : decode prog_3_method_9_code 31 = .ok (.ifCond .eq 6, 3) := by decide +kernel
theorem dX1_knowers_34 : decode prog_3_method_9_code 34 = .ok (.iinc 2 1, 3) := by decide +kernel
theorem dX1_knowers_37 : decode prog_3_method_9_code 37 = .ok (.iinc 3 1, 3) := by decide +kernel
theorem dX1_knowers_40 : decode prog_3_method_9_code 40 = .ok (.goto (-36), 3) := by decide +kernel
theorem dX1_knowers_43 : decode prog_3_method_9_code 43 = .ok (.iload_n 2, 1) := by decide +kernel
theorem dX1_knowers_44 : decode prog_3_method_9_code 44 = .ok (.ireturn, 1) := by decide +kernel
theorem dX1_deadInTurn_0 : decode prog_3_method_10_code 0 = .ok (.iload_n 1, 1) := by decide +kernel
theorem dX1_deadInTurn_1 : decode prog_3_method_10_code 1 = .ok (.istore_n 2, 1) := by decide +kernel
theorem dX1_deadInTurn_2 : decode prog_3_method_10_code 2 = .ok (.iconst 0, 1) := by decide +kernel
theorem dX1_deadInTurn_3 : decode prog_3_method_10_code 3 = .ok (.istore_n 3, 1) := by decide +kernel
theorem dX1_deadInTurn_4 : decode prog_3_method_10_code 4 = .ok (.iload_n 3, 1) := by decide +kernel
theorem dX1_deadInTurn_5 : decode prog_3_method_10_code 5 = .ok (.aload_n 0, 1) := by decide +kernel
theorem dX1_deadInTurn_6 : decode prog_3_method_10_code 6 = .ok (.getfield 33, 3) := by decide +kernel
theorem dX1_deadInTurn_9 : decode prog_3_method_10_code 9 = .ok (.getfield 74, 3) := by decide +kernel
theorem dX1_deadInTurn_12 : decode prog_3_method_10_code 12 = .ok (.getfield 78, 3) := by decide +kernel
theorem dX1_deadInTurn_15 : decode prog_3_method_10_code 15 = .ok (.if_icmp .ge 64, 3) := by decide +kernel
theorem dX1_deadInTurn_18 : decode prog_3_method_10_code 18 = .ok (.iload_n 2, 1) := by decide +kernel
theorem dX1_deadInTurn_19 : decode prog_3_method_10_code 19 = .ok (.ifCond .lt 60, 3) := by decide +kernel
theorem dX1_deadInTurn_22 : decode prog_3_method_10_code 22 = .ok (.aload_n 0, 1) := by decide +kernel
theorem dX1_deadInTurn_23 : decode prog_3_method_10_code 23 = .ok (.getfield 42, 3) := by decide +kernel
theorem dX1_deadInTurn_26 : decode prog_3_method_10_code 26 = .ok (.getfield 100, 3) := by decide +kernel
theorem dX1_deadInTurn_29 : decode prog_3_method_10_code 29 = .ok (.iload_n 3, 1) := by decide +kernel
theorem dX1_deadInTurn_30 : decode prog_3_method_10_code 30 = .ok (.iaload, 1) := by decide +kernel
theorem dX1_deadInTurn_31 : decode prog_3_method_10_code 31 = .ok (.istore 4, 2) := by decide +kernel
theorem dX1_deadInTurn_33 : decode prog_3_method_10_code 33 = .ok (.iload 4, 2) := by decide +kernel
theorem dX1_deadInTurn_35 : decode prog_3_method_10_code 35 = .ok (.ifCond .lt 38, 3) := by decide +kernel
theorem dX1_deadInTurn_38 : decode prog_3_method_10_code 38 = .ok (.aload_n 0, 1) := by decide +kernel
theorem dX1_deadInTurn_39 : decode prog_3_method_10_code 39 = .ok (.getfield 42, 3) := by decide +kernel
theorem dX1_deadInTurn_42 : decode prog_3_method_10_code 42 = .ok (.getfield 132, 3) := by decide +kernel
theorem dX1_deadInTurn_45 : decode prog_3_method_10_code 45 = .ok (.iload 4, 2) := by decide +kernel
theorem dX1_deadInTurn_47 : decode prog_3_method_10_code 47 = .ok (.invokestatic 125, 3) := by decide +kernel
theorem dX1_deadInTurn_50 : decode prog_3_method_10_code 50 = .ok (.ifCond .eq 23, 3) := by decide +kernel
theorem dX1_deadInTurn_53 : decode prog_3_method_10_code 53 = .ok (.aload_n 0, 1) := by decide +kernel
theorem dX1_deadInTurn_54 : decode prog_3_method_10_code 54 = .ok (.iload 4, 2) := by decide +kernel
theorem dX1_deadInTurn_56 : decode prog_3_method_10_code 56 = .ok (.invokevirtual 135, 3) := by decide +kernel
theorem dX1_deadInTurn_59 : decode prog_3_method_10_code 59 = .ok (.iload_n 3, 1) := by decide +kernel
theorem dX1_deadInTurn_60 : decode prog_3_method_10_code 60 = .ok (.if_icmp .ne 13, 3) := by decide +kernel
theorem dX1_deadInTurn_63 : decode prog_3_method_10_code 63 = .ok (.iload_n 2, 1) := by decide +kernel
theorem dX1_deadInTurn_64 : decode prog_3_method_10_code 64 = .ok (.ifCond .ne 6, 3) := by decide +kernel
theorem dX1_deadInTurn_67 : decode prog_3_method_10_code 67 = .ok (.iload 4, 2) := by decide +kernel
theorem dX1_deadInTurn_69 : decode prog_3_method_10_code 69 = .ok (.ireturn, 1) := by decide +kernel
theorem dX1_deadInTurn_70 : decode prog_3_method_10_code 70 = .ok (.iinc 2 (-1), 3) := by decide +kernel
theorem dX1_deadInTurn_73 : decode prog_3_method_10_code 73 = .ok (.iinc 3 1, 3) := by decide +kernel
theorem dX1_deadInTurn_76 : decode prog_3_method_10_code 76 = .ok (.goto (-72), 3) := by decide +kernel
theorem dX1_deadInTurn_79 : decode prog_3_method_10_code 79 = .ok (.bipush (-2), 2) := by decide +kernel
theorem dX1_deadInTurn_81 : decode prog_3_method_10_code 81 = .ok (.ireturn, 1) := by decide +kernel
theorem dX2_init_0 : decode prog_4_method_1_code 0 = .ok (.aload_n 0, 1) := by decide +kernel
theorem dX2_init_1 : decode prog_4_method_1_code 1 = .ok (.invokespecial 3, 3) := by decide +kernel
theorem dX2_init_4 : decode prog_4_method_1_code 4 = .ok (.aload_n 0, 1) := by decide +kernel
theorem dX2_init_5 : decode prog_4_method_1_code 5 = .ok (.iconst 0, 1) := by decide +kernel
theorem dX2_init_6 : decode prog_4_method_1_code 6 = .ok (.putfield 9, 3) := by decide +kernel
theorem dX2_init_9 : decode prog_4_method_1_code 9 = .ok (.aload_n 0, 1) := by decide +kernel
theorem dX2_init_10 : decode prog_4_method_1_code 10 = .ok (.iconst 0, 1) := by decide +kernel
theorem dX2_init_11 : decode prog_4_method_1_code 11 = .ok (.putfield 15, 3) := by decide +kernel
theorem dX2_init_14 : decode prog_4_method_1_code 14 = .ok (.aload_n 0, 1) := by decide +kernel
theorem dX2_init_15 : decode prog_4_method_1_code 15 = .ok (.iconst 0, 1) := by decide +kernel
theorem dX2_init_16 : decode prog_4_method_1_code 16 = .ok (.putfield 18, 3) := by decide +kernel
theorem dX2_init_19 : decode prog_4_method_1_code 19 = .ok (.aload_n 0, 1) := by decide +kernel
theorem dX2_init_20 : decode prog_4_method_1_code 20 = .ok (.iconst 0, 1) := by decide +kernel
theorem dX2_init_21 : decode prog_4_method_1_code 21 = .ok (.putfield 21, 3) := by decide +kernel
theorem dX2_init_24 : decode prog_4_method_1_code 24 = .ok (.aload_n 0, 1) := by decide +kernel
theorem dX2_init_25 : decode prog_4_method_1_code 25 = .ok (.iconst 0, 1) := by decide +kernel
theorem dX2_init_26 : decode prog_4_method_1_code 26 = .ok (.putfield 24, 3) := by decide +kernel
theorem dX2_init_29 : decode prog_4_method_1_code 29 = .ok (.aload_n 0, 1) := by decide +kernel
theorem dX2_init_30 : decode prog_4_method_1_code 30 = .ok (.iconst 0, 1) := by decide +kernel
theorem dX2_init_31 : decode prog_4_method_1_code 31 = .ok (.putfield 27, 3) := by decide +kernel
theorem dX2_init_34 : decode prog_4_method_1_code 34 = .ok (.aload_n 0, 1) := by decide +kernel
theorem dX2_init_35 : decode prog_4_method_1_code 35 = .ok (.iconst 0, 1) := by decide +kernel
theorem dX2_init_36 : decode prog_4_method_1_code 36 = .ok (.putfield 30, 3) := by decide +kernel
theorem dX2_init_39 : decode prog_4_method_1_code 39 = .ok (.aload_n 0, 1) := by decide +kernel
theorem dX2_init_40 : decode prog_4_method_1_code 40 = .ok (.iconst 0, 1) := by decide +kernel
theorem dX2_init_41 : decode prog_4_method_1_code 41 = .ok (.putfield 33, 3) := by decide +kernel
theorem dX2_init_44 : decode prog_4_method_1_code 44 = .ok (.aload_n 0, 1) := by decide +kernel
theorem dX2_init_45 : decode prog_4_method_1_code 45 = .ok (.iconst 0, 1) := by decide +kernel
theorem dX2_init_46 : decode prog_4_method_1_code 46 = .ok (.putfield 36, 3) := by decide +kernel
theorem dX2_init_49 : decode prog_4_method_1_code 49 = .ok (.aload_n 0, 1) := by decide +kernel
theorem dX2_init_50 : decode prog_4_method_1_code 50 = .ok (.bipush 10, 2) := by decide +kernel
theorem dX2_init_52 : decode prog_4_method_1_code 52 = .ok (.bipush 7, 2) := by decide +kernel
theorem dX2_init_54 : decode prog_4_method_1_code 54 = .ok (.multianewarray 39 2, 4) := by decide +kernel
theorem dX2_init_58 : decode prog_4_method_1_code 58 = .ok (.putfield 41, 3) := by decide +kernel
theorem dX2_init_61 : decode prog_4_method_1_code 61 = .ok (.aload_n 0, 1) := by decide +kernel
theorem dX2_init_62 : decode prog_4_method_1_code 62 = .ok (.bipush 12, 2) := by decide +kernel
theorem dX2_init_64 : decode prog_4_method_1_code 64 = .ok (.iconst 4, 1) := by decide +kernel
theorem dX2_init_65 : decode prog_4_method_1_code 65 = .ok (.multianewarray 39 2, 4) := by decide +kernel
theorem dX2_init_69 : decode prog_4_method_1_code 69 = .ok (.putfield 44, 3) := by decide +kernel
theorem dX2_init_72 : decode prog_4_method_1_code 72 = .ok (.aload_n 0, 1) := by decide +kernel
theorem dX2_init_73 : decode prog_4_method_1_code 73 = .ok (.bipush 8, 2) := by decide +kernel
theorem dX2_init_75 : decode prog_4_method_1_code 75 = .ok (.iconst 4, 1) := by decide +kernel
theorem dX2_init_76 : decode prog_4_method_1_code 76 = .ok (.multianewarray 39 2, 4) := by decide +kernel
theorem dX2_init_80 : decode prog_4_method_1_code 80 = .ok (.putfield 47, 3) := by decide +kernel
theorem dX2_init_83 : decode prog_4_method_1_code 83 = .ok (.aload_n 0, 1) := by decide +kernel
theorem dX2_init_84 : decode prog_4_method_1_code 84 = .ok (.bipush 8, 2) := by decide +kernel
theorem dX2_init_86 : decode prog_4_method_1_code 86 = .ok (.iconst 3, 1) := by decide +kernel
theorem dX2_init_87 : decode prog_4_method_1_code 87 = .ok (.multianewarray 39 2, 4) := by decide +kernel
theorem dX2_init_91 : decode prog_4_method_1_code 91 = .ok (.putfield 50, 3) := by decide +kernel
theorem dX2_init_94 : decode prog_4_method_1_code 94 = .ok (.aload_n 0, 1) := by decide +kernel
theorem dX2_init_95 : decode prog_4_method_1_code 95 = .ok (.bipush 8, 2) := by decide +kernel
theorem dX2_init_97 : decode prog_4_method_1_code 97 = .ok (.newarray .int, 2) := by decide +kernel
theorem dX2_init_99 : decode prog_4_method_1_code 99 = .ok (.putfield 53, 3) := by decide +kernel
theorem dX2_init_102 : decode prog_4_method_1_code 102 = .ok (.aload_n 0, 1) := by decide +kernel
theorem dX2_init_103 : decode prog_4_method_1_code 103 = .ok (.bipush 80, 2) := by decide +kernel
theorem dX2_init_105 : decode prog_4_method_1_code 105 = .ok (.newarray .int, 2) := by decide +kernel
theorem dX2_init_107 : decode prog_4_method_1_code 107 = .ok (.putfield 57, 3) := by decide +kernel
theorem dX2_init_110 : decode prog_4_method_1_code 110 = .ok (.return_, 1) := by decide +kernel
theorem dX2_clear_0 : decode prog_4_method_2_code 0 = .ok (.aload_n 0, 1) := by decide +kernel
theorem dX2_clear_1 : decode prog_4_method_2_code 1 = .ok (.iconst 0, 1) := by decide +kernel
theorem dX2_clear_2 : decode prog_4_method_2_code 2 = .ok (.putfield 9, 3) := by decide +kernel
theorem dX2_clear_5 : decode prog_4_method_2_code 5 = .ok (.aload_n 0, 1) := by decide +kernel
theorem dX2_clear_6 : decode prog_4_method_2_code 6 = .ok (.iconst 0, 1) := by decide +kernel
theorem dX2_clear_7 : decode prog_4_method_2_code 7 = .ok (.putfield 15, 3) := by decide +kernel
theorem dX2_clear_10 : decode prog_4_method_2_code 10 = .ok (.aload_n 0, 1) := by decide +kernel
theorem dX2_clear_11 : decode prog_4_method_2_code 11 = .ok (.iconst 0, 1) := by decide +kernel
theorem dX2_clear_12 : decode prog_4_method_2_code 12 = .ok (.putfield 18, 3) := by decide +kernel
theorem dX2_clear_15 : decode prog_4_method_2_code 15 = .ok (.aload_n 0, 1) := by decide +kernel
theorem dX2_clear_16 : decode prog_4_method_2_code 16 = .ok (.iconst 0, 1) := by decide +kernel
theorem dX2_clear_17 : decode prog_4_method_2_code 17 = .ok (.putfield 21, 3) := by decide +kernel
theorem dX2_clear_20 : decode prog_4_method_2_code 20 = .ok (.aload_n 0, 1) := by decide +kernel
theorem dX2_clear_21 : decode prog_4_method_2_code 21 = .ok (.iconst 0, 1) := by decide +kernel
theorem dX2_clear_22 : decode prog_4_method_2_code 22 = .ok (.putfield 24, 3) := by decide +kernel
theorem dX2_clear_25 : decode prog_4_method_2_code 25 = .ok (.aload_n 0, 1) := by decide +kernel
theorem dX2_clear_26 : decode prog_4_method_2_code 26 = .ok (.iconst 0, 1) := by decide +kernel
theorem dX2_clear_27 : decode prog_4_method_2_code 27 = .ok (.putfield 27, 3) := by decide +kernel
theorem dX2_clear_30 : decode prog_4_method_2_code 30 = .ok (.aload_n 0, 1) := by decide +kernel
theorem dX2_clear_31 : decode prog_4_method_2_code 31 = .ok (.iconst 0, 1) := by decide +kernel
theorem dX2_clear_32 : decode prog_4_method_2_code 32 = .ok (.putfield 30, 3) := by decide +kernel
theorem dX2_clear_35 : decode prog_4_method_2_code 35 = .ok (.aload_n 0, 1) := by decide +kernel
theorem dX2_clear_36 : decode prog_4_method_2_code 36 = .ok (.iconst 0, 1) := by decide +kernel
theorem dX2_clear_37 : decode prog_4_method_2_code 37 = .ok (.putfield 33, 3) := by decide +kernel
theorem dX2_clear_40 : decode prog_4_method_2_code 40 = .ok (.aload_n 0, 1) := by decide +kernel
theorem dX2_clear_41 : decode prog_4_method_2_code 41 = .ok (.iconst 0, 1) := by decide +kernel
theorem dX2_clear_42 : decode prog_4_method_2_code 42 = .ok (.putfield 36, 3) := by decide +kernel
theorem dX2_clear_45 : decode prog_4_method_2_code 45 = .ok (.iconst 0, 1) := by decide +kernel
theorem dX2_clear_46 : decode prog_4_method_2_code 46 = .ok (.istore_n 1, 1) := by decide +kernel
theorem dX2_clear_47 : decode prog_4_method_2_code 47 = .ok (.iload_n 1, 1) := by decide +kernel
theorem dX2_clear_48 : decode prog_4_method_2_code 48 = .ok (.aload_n 0, 1) := by decide +kernel
theorem dX2_clear_49 : decode prog_4_method_2_code 49 = .ok (.getfield 57, 3) := by decide +kernel
theorem dX2_clear_52 : decode prog_4_method_2_code 52 = .ok (.arraylength, 1) := by decide +kernel
theorem dX2_clear_53 : decode prog_4_method_2_code 53 = .ok (.if_icmp .ge 16, 3) := by decide +kernel
theorem dX2_clear_56 : decode prog_4_method_2_code 56 = .ok (.aload_n 0, 1) := by decide +kernel
theorem dX2_clear_57 : decode prog_4_method_2_code 57 = .ok (.getfield 57, 3) := by decide +kernel
theorem dX2_clear_60 : decode prog_4_method_2_code 60 = .ok (.iload_n 1, 1) := by decide +kernel
theorem dX2_clear_61 : decode prog_4_method_2_code 61 = .ok (.iconst 0, 1) := by decide +kernel
theorem dX2_clear_62 : decode prog_4_method_2_code 62 = .ok (.iastore, 1) := by decide +kernel
theorem dX2_clear_63 : decode prog_4_method_2_code 63 = .ok (.iinc 1 1, 3) := by decide +kernel
theorem dX2_clear_66 : decode prog_4_method_2_code 66 = .ok (.goto (-19), 3) := by decide +kernel
theorem dX2_clear_69 : decode prog_4_method_2_code 69 = .ok (.return_, 1) := by decide +kernel
theorem dX2_weightOf_0 : decode prog_4_method_3_code 0 = .ok (.iconst 0, 1) := by decide +kernel
theorem dX2_weightOf_1 : decode prog_4_method_3_code 1 = .ok (.istore_n 2, 1) := by decide +kernel
theorem dX2_weightOf_2 : decode prog_4_method_3_code 2 = .ok (.iconst 0, 1) := by decide +kernel
theorem dX2_weightOf_3 : decode prog_4_method_3_code 3 = .ok (.istore_n 3, 1) := by decide +kernel
theorem dX2_weightOf_4 : decode prog_4_method_3_code 4 = .ok (.iload_n 3, 1) := by decide +kernel
theorem dX2_weightOf_5 : decode prog_4_method_3_code 5 = .ok (.aload_n 0, 1) := by decide +kernel
theorem dX2_weightOf_6 : decode prog_4_method_3_code 6 = .ok (.getfield 21, 3) := by decide +kernel
theorem dX2_weightOf_9 : decode prog_4_method_3_code 9 = .ok (.if_icmp .ge 28, 3) := by decide +kernel
theorem dX2_weightOf_12 : decode prog_4_method_3_code 12 = .ok (.iload_n 1, 1) := by decide +kernel
theorem dX2_weightOf_13 : decode prog_4_method_3_code 13 = .ok (.iload_n 3, 1) := by decide +kernel
theorem dX2_weightOf_14 : decode prog_4_method_3_code 14 = .ok (.ishr, 1) := by decide +kernel
theorem dX2_weightOf_15 : decode prog_4_method_3_code 15 = .ok (.iconst 1, 1) := by decide +kernel
theorem dX2_weightOf_16 : decode prog_4_method_3_code 16 = .ok (.iand, 1) := by decide +kernel
theorem dX2_weightOf_17 : decode prog_4_method_3_code 17 = .ok (.ifCond .eq 14, 3) := by decide +kernel
theorem dX2_weightOf_20 : decode prog_4_method_3_code 20 = .ok (.iload_n 2, 1) := by decide +kernel
theorem dX2_weightOf_21 : decode prog_4_method_3_code 21 = .ok (.aload_n 0, 1) := by decide +kernel
theorem dX2_weightOf_22 : decode prog_4_method_3_code 22 = .ok (.getfield 41, 3) := by decide +kernel
theorem dX2_weightOf_25 : decode prog_4_method_3_code 25 = .ok (.iload_n 3, 1) := by decide +kernel
theorem dX2_weightOf_26 : decode prog_4_method_3_code 26 = .ok (.aaload, 1) := by decide +kernel
theorem dX2_weightOf_27 : decode prog_4_method_3_code 27 = .ok (.iconst 4, 1) := by decide +kernel
theorem dX2_weightOf_28 : decode prog_4_method_3_code 28 = .ok (.iaload, 1) := by decide +kernel
theorem dX2_weightOf_29 : decode prog_4_method_3_code 29 = .ok (.iadd, 1) := by decide +kernel
theorem dX2_weightOf_30 : decode prog_4_method_3_code 30 = .ok (.istore_n 2, 1) := by decide +kernel
theorem dX2_weightOf_31 : decode prog_4_method_3_code 31 = .ok (.iinc 3 1, 3) := by decide +kernel
theorem dX2_weightOf_34 : decode prog_4_method_3_code 34 = .ok (.goto (-30), 3) := by decide +kernel
theorem dX2_weightOf_37 : decode prog_4_method_3_code 37 = .ok (.iload_n 2, 1) := by decide +kernel
theorem dX2_weightOf_38 : decode prog_4_method_3_code 38 = .ok (.ireturn, 1) := by decide +kernel
theorem dX3_init_0 : decode prog_5_method_1_code 0 = .ok (.aload_n 0, 1) := by decide +kernel
theorem dX3_init_1 : decode prog_5_method_1_code 1 = .ok (.invokespecial 3, 3) := by decide +kernel
theorem dX3_init_4 : decode prog_5_method_1_code 4 = .ok (.aload_n 0, 1) := by decide +kernel
theorem dX3_init_5 : decode prog_5_method_1_code 5 = .ok (.iconst 0, 1) := by decide +kernel
theorem dX3_init_6 : decode prog_5_method_1_code 6 = .ok (.putfield 9, 3) := by decide +kernel
theorem dX3_init_9 : decode prog_5_method_1_code 9 = .ok (.aload_n 0, 1) := by decide +kernel
theorem dX3_init_10 : decode prog_5_method_1_code 10 = .ok (.bipush 10, 2) := by decide +kernel
theorem dX3_init_12 : decode prog_5_method_1_code 12 = .ok (.newarray .int, 2) := by decide +kernel
theorem dX3_init_14 : decode prog_5_method_1_code 14 = .ok (.putfield 15, 3) := by decide +kernel
theorem dX3_init_17 : decode prog_5_method_1_code 17 = .ok (.aload_n 0, 1) := by decide +kernel
theorem dX3_init_18 : decode prog_5_method_1_code 18 = .ok (.bipush 8, 2) := by decide +kernel
theorem dX3_init_20 : decode prog_5_method_1_code 20 = .ok (.newarray .int, 2) := by decide +kernel
theorem dX3_init_22 : decode prog_5_method_1_code 22 = .ok (.putfield 19, 3) := by decide +kernel
theorem dX3_init_25 : decode prog_5_method_1_code 25 = .ok (.aload_n 0, 1) := by decide +kernel
theorem dX3_init_26 : decode prog_5_method_1_code 26 = .ok (.aload_n 1, 1) := by decide +kernel
theorem dX3_init_27 : decode prog_5_method_1_code 27 = .ok (.putfield 22, 3) := by decide +kernel
theorem dX3_init_30 : decode prog_5_method_1_code 30 = .ok (.return_, 1) := by decide +kernel
theorem dX3_begin_0 : decode prog_5_method_2_code 0 = .ok (.aload_n 0, 1) := by decide +kernel
theorem dX3_begin_1 : decode prog_5_method_2_code 1 = .ok (.iconst 0, 1) := by decide +kernel
theorem dX3_begin_2 : decode prog_5_method_2_code 2 = .ok (.putfield 9, 3) := by decide +kernel
theorem dX3_begin_5 : decode prog_5_method_2_code 5 = .ok (.iconst 0, 1) := by decide +kernel
theorem dX3_begin_6 : decode prog_5_method_2_code 6 = .ok (.istore_n 1, 1) := by decide +kernel
theorem dX3_begin_7 : decode prog_5_method_2_code 7 = .ok (.iload_n 1, 1) := by decide +kernel
theorem dX3_begin_8 : decode prog_5_method_2_code 8 = .ok (.bipush 10, 2) := by decide +kernel
theorem dX3_begin_10 : decode prog_5_method_2_code 10 = .ok (.if_icmp .ge 16, 3) := by decide +kernel
theorem dX3_begin_13 : decode prog_5_method_2_code 13 = .ok (.aload_n 0, 1) := by decide +kernel
theorem dX3_begin_14 : decode prog_5_method_2_code 14 = .ok (.getfield 15, 3) := by decide +kernel
theorem dX3_begin_17 : decode prog_5_method_2_code 17 = .ok (.iload_n 1, 1) := by decide +kernel
theorem dX3_begin_18 : decode prog_5_method_2_code 18 = .ok (.iconst 0, 1) := by decide +kernel
theorem dX3_begin_19 : decode prog_5_method_2_code 19 = .ok (.iastore, 1) := by decide +kernel
theorem dX3_begin_20 : decode prog_5_method_2_code 20 = .ok (.iinc 1 1, 3) := by decide +kernel
theorem dX3_begin_23 : decode prog_5_method_2_code 23 = .ok (.goto (-16), 3) := by decide +kernel
theorem dX3_begin_26 : decode prog_5_method_2_code 26 = .ok (.iconst 0, 1) := by decide +kernel
theorem dX3_begin_27 : decode prog_5_method_2_code 27 = .ok (.istore_n 1, 1) := by decide +kernel
theorem dX3_begin_28 : decode prog_5_method_2_code 28 = .ok (.iload_n 1, 1) := by decide +kernel
theorem dX3_begin_29 : decode prog_5_method_2_code 29 = .ok (.aload_n 0, 1) := by decide +kernel
theorem dX3_begin_30 : decode prog_5_method_2_code 30 = .ok (.getfield 22, 3) := by decide +kernel
theorem dX3_begin_33 : decode prog_5_method_2_code 33 = .ok (.getfield 26, 3) := by decide +kernel
theorem dX3_begin_36 : decode prog_5_method_2_code 36 = .ok (.getfield 32, 3) := by decide +kernel
theorem dX3_begin_39 : decode prog_5_method_2_code 39 = .ok (.if_icmp .ge 32, 3) := by decide +kernel
theorem dX3_begin_42 : decode prog_5_method_2_code 42 = .ok (.aload_n 0, 1) := by decide +kernel
theorem dX3_begin_43 : decode prog_5_method_2_code 43 = .ok (.getfield 15, 3) := by decide +kernel
theorem dX3_begin_46 : decode prog_5_method_2_code 46 = .ok (.aload_n 0, 1) := by decide +kernel
theorem dX3_begin_47 : decode prog_5_method_2_code 47 = .ok (.getfield 22, 3) := by decide +kernel
theorem dX3_begin_50 : decode prog_5_method_2_code 50 = .ok (.getfield 26, 3) := by decide +kernel
theorem dX3_begin_53 : decode prog_5_method_2_code 53 = .ok (.getfield 37, 3) := by decide +kernel
theorem dX3_begin_56 : decode prog_5_method_2_code 56 = .ok (.iload_n 1, 1) := by decide +kernel
theorem dX3_begin_57 : decode prog_5_method_2_code 57 = .ok (.iaload, 1) := by decide +kernel
theorem dX3_begin_58 : decode prog_5_method_2_code 58 = .ok (.dup2, 1) := by decide +kernel
theorem dX3_begin_59 : decode prog_5_method_2_code 59 = .ok (.iaload, 1) := by decide +kernel
theorem dX3_begin_60 : decode prog_5_method_2_code 60 = .ok (.iconst 1, 1) := by decide +kernel
theorem dX3_begin_61 : decode prog_5_method_2_code 61 = .ok (.iload_n 1, 1) := by decide +kernel
theorem dX3_begin_62 : decode prog_5_method_2_code 62 = .ok (.ishl, 1) := by decide +kernel
theorem dX3_begin_63 : decode prog_5_method_2_code 63 = .ok (.ior, 1) := by decide +kernel
theorem dX3_begin_64 : decode prog_5_method_2_code 64 = .ok (.iastore, 1) := by decide +kernel
theorem dX3_begin_65 : decode prog_5_method_2_code 65 = .ok (.iinc 1 1, 3) := by decide +kernel
theorem dX3_begin_68 : decode prog_5_method_2_code 68 = .ok (.goto (-40), 3) := by decide +kernel
theorem dX3_begin_71 : decode prog_5_method_2_code 71 = .ok (.return_, 1) := by decide +kernel
theorem dX3_takeTurn_0 : decode prog_5_method_3_code 0 = .ok (.aload_n 0, 1) := by decide +kernel
theorem dX3_takeTurn_1 : decode prog_5_method_3_code 1 = .ok (.iload_n 1, 1) := by decide +kernel
theorem dX3_takeTurn_2 : decode prog_5_method_3_code 2 = .ok (.invokevirtual 40, 3) := by decide +kernel
theorem dX3_takeTurn_5 : decode prog_5_method_3_code 5 = .ok (.iload_n 2, 1) := by decide +kernel
theorem dX3_takeTurn_6 : decode prog_5_method_3_code 6 = .ok (.ifCond .ne 8, 3) := by decide +kernel
theorem dX3_takeTurn_9 : decode prog_5_method_3_code 9 = .ok (.aload_n 0, 1) := by decide +kernel
theorem dX3_takeTurn_10 : decode prog_5_method_3_code 10 = .ok (.iload_n 1, 1) := by decide +kernel
theorem dX3_takeTurn_11 : decode prog_5_method_3_code 11 = .ok (.invokevirtual 44, 3) := by decide +kernel
theorem dX3_takeTurn_14 : decode prog_5_method_3_code 14 = .ok (.return_, 1) := by decide +kernel
theorem dX3_readAs_0 : decode prog_5_method_4_code 0 = .ok (.iconst 0, 1) := by decide +kernel
theorem dX3_readAs_1 : decode prog_5_method_4_code 1 = .ok (.istore_n 2, 1) := by decide +kernel
theorem dX3_readAs_2 : decode prog_5_method_4_code 2 = .ok (.iload_n 2, 1) := by decide +kernel
theorem dX3_readAs_3 : decode prog_5_method_4_code 3 = .ok (.aload_n 0, 1) := by decide +kernel
theorem dX3_readAs_4 : decode prog_5_method_4_code 4 = .ok (.getfield 22, 3) := by decide +kernel
theorem dX3_readAs_7 : decode prog_5_method_4_code 7 = .ok (.getfield 26, 3) := by decide +kernel
theorem dX3_readAs_10 : decode prog_5_method_4_code 10 = .ok (.getfield 32, 3) := by decide +kernel
theorem dX3_readAs_13 : decode prog_5_method_4_code 13 = .ok (.if_icmp .ge 45, 3) := by decide +kernel
theorem dX3_readAs_16 : decode prog_5_method_4_code 16 = .ok (.aload_n 0, 1) := by decide +kernel
theorem dX3_readAs_17 : decode prog_5_method_4_code 17 = .ok (.getfield 9, 3) := by decide +kernel
theorem dX3_readAs_20 : decode prog_5_method_4_code 20 = .ok (.iload_n 2, 1) := by decide +kernel
theorem dX3_readAs_21 : decode prog_5_method_4_code 21 = .ok (.invokestatic 47, 3) := by decide +kernel
theorem dX3_readAs_24 : decode prog_5_method_4_code 24 = .ok (.ifCond .eq 28, 3) := by decide +kernel
theorem dX3_readAs_27 : decode prog_5_method_4_code 27 = .ok (.aload_n 0, 1) := by decide +kernel
theorem dX3_readAs_28 : decode prog_5_method_4_code 28 = .ok (.getfield 19, 3) := by decide +kernel
theorem dX3_readAs_31 : decode prog_5_method_4_code 31 = .ok (.iload_n 2, 1) := by decide +kernel
theorem dX3_readAs_32 : decode prog_5_method_4_code 32 = .ok (.iaload, 1) := by decide +kernel
theorem dX3_readAs_33 : decode prog_5_method_4_code 33 = .ok (.iload_n 1, 1) := by decide +kernel
theorem dX3_readAs_34 : decode prog_5_method_4_code 34 = .ok (.invokestatic 47, 3) := by decide +kernel
theorem dX3_readAs_37 : decode prog_5_method_4_code 37 = .ok (.ifCond .ne 15, 3) := by decide +kernel
theorem dX3_readAs_40 : decode prog_5_method_4_code 40 = .ok (.aload_n 0, 1) := by decide +kernel
theorem dX3_readAs_41 : decode prog_5_method_4_code 41 = .ok (.getfield 15, 3) := by decide +kernel
theorem dX3_readAs_44 : decode prog_5_method_4_code 44 = .ok (.iload_n 1, 1) := by decide +kernel
theorem dX3_readAs_45 : decode prog_5_method_4_code 45 = .ok (.dup2, 1) := by decide +kernel
theorem dX3_readAs_46 : decode prog_5_method_4_code 46 = .ok (.iaload, 1) := by decide +kernel
theorem dX3_readAs_47 : decode prog_5_method_4_code 47 = .ok (.iconst 1, 1) := by decide +kernel
theorem dX3_readAs_48 : decode prog_5_method_4_code 48 = .ok (.iload_n 2, 1) := by decide +kernel
theorem dX3_readAs_49 : decode prog_5_method_4_code 49 = .ok (.ishl, 1) := by decide +kernel
theorem dX3_readAs_50 : decode prog_5_method_4_code 50 = .ok (.ior, 1) := by decide +kernel
theorem dX3_readAs_51 : decode prog_5_method_4_code 51 = .ok (.iastore, 1) := by decide +kernel
theorem dX3_readAs_52 : decode prog_5_method_4_code 52 = .ok (.iinc 2 1, 3) := by decide +kernel
theorem dX3_readAs_55 : decode prog_5_method_4_code 55 = .ok (.goto (-53), 3) := by decide +kernel
theorem dX3_readAs_58 : decode prog_5_method_4_code 58 = .ok (.return_, 1) := by decide +kernel
theorem dX3_writeAs_0 : decode prog_5_method_5_code 0 = .ok (.iconst 0, 1) := by decide +kernel
theorem dX3_writeAs_1 : decode prog_5_method_5_code 1 = .ok (.istore_n 2, 1) := by decide +kernel
theorem dX3_writeAs_2 : decode prog_5_method_5_code 2 = .ok (.iload_n 2, 1) := by decide +kernel
theorem dX3_writeAs_3 : decode prog_5_method_5_code 3 = .ok (.aload_n 0, 1) := by decide +kernel
theorem dX3_writeAs_4 : decode prog_5_method_5_code 4 = .ok (.getfield 22, 3) := by decide +kernel
theorem dX3_writeAs_7 : decode prog_5_method_5_code 7 = .ok (.getfield 26, 3) := by decide +kernel
theorem dX3_writeAs_10 : decode prog_5_method_5_code 10 = .ok (.getfield 32, 3) := by decide +kernel
theorem dX3_writeAs_13 : decode prog_5_method_5_code 13 = .ok (.if_icmp .ge 69, 3) := by decide +kernel
theorem dX3_writeAs_16 : decode prog_5_method_5_code 16 = .ok (.aload_n 0, 1) := by decide +kernel
theorem dX3_writeAs_17 : decode prog_5_method_5_code 17 = .ok (.getfield 15, 3) := by decide +kernel
theorem dX3_writeAs_20 : decode prog_5_method_5_code 20 = .ok (.iload_n 1, 1) := by decide +kernel
theorem dX3_writeAs_21 : decode prog_5_method_5_code 21 = .ok (.iaload, 1) := by decide +kernel
theorem dX3_writeAs_22 : decode prog_5_method_5_code 22 = .ok (.iload_n 2, 1) := by decide +kernel
theorem dX3_writeAs_23 : decode prog_5_method_5_code 23 = .ok (.invokestatic 47, 3) := by decide +kernel
theorem dX3_writeAs_26 : decode prog_5_method_5_code 26 = .ok (.ifCond .eq 50, 3) := by decide +kernel
theorem dX3_writeAs_29 : decode prog_5_method_5_code 29 = .ok (.aload_n 0, 1) := by decide +kernel
theorem dX3_writeAs_30 : decode prog_5_method_5_code 30 = .ok (.getfield 22, 3) := by decide +kernel
theorem dX3_writeAs_33 : decode prog_5_method_5_code 33 = .ok (.getfield 26, 3) := by decide +kernel
theorem dX3_writeAs_36 : decode prog_5_method_5_code 36 = .ok (.getfield 51, 3) := by decide +kernel
theorem dX3_writeAs_39 : decode prog_5_method_5_code 39 = .ok (.iload_n 1, 1) := by decide +kernel
theorem dX3_writeAs_40 : decode prog_5_method_5_code 40 = .ok (.bipush 8, 2) := by decide +kernel
theorem dX3_writeAs_42 : decode prog_5_method_5_code 42 = .ok (.imul, 1) := by decide +kernel
theorem dX3_writeAs_43 : decode prog_5_method_5_code 43 = .ok (.iload_n 2, 1) := by decide +kernel
theorem dX3_writeAs_44 : decode prog_5_method_5_code 44 = .ok (.iadd, 1) := by decide +kernel
theorem dX3_writeAs_45 : decode prog_5_method_5_code 45 = .ok (.iaload, 1) := by decide +kernel
theorem dX3_writeAs_46 : decode prog_5_method_5_code 46 = .ok (.istore_n 3, 1) := by decide +kernel
theorem dX3_writeAs_47 : decode prog_5_method_5_code 47 = .ok (.aload_n 0, 1) := by decide +kernel
theorem dX3_writeAs_48 : decode prog_5_method_5_code 48 = .ok (.getfield 19, 3) := by decide +kernel
theorem dX3_writeAs_51 : decode prog_5_method_5_code 51 = .ok (.iload_n 2, 1) := by decide +kernel
theorem dX3_writeAs_52 : decode prog_5_method_5_code 52 = .ok (.aload_n 0, 1) := by decide +kernel
theorem dX3_writeAs_53 : decode prog_5_method_5_code 53 = .ok (.getfield 9, 3) := by decide +kernel
theorem dX3_writeAs_56 : decode prog_5_method_5_code 56 = .ok (.iload_n 2, 1) := by decide +kernel
theorem dX3_writeAs_57 : decode prog_5_method_5_code 57 = .ok (.invokestatic 47, 3) := by decide +kernel
theorem dX3_writeAs_60 : decode prog_5_method_5_code 60 = .ok (.ifCond .eq 14, 3) := by decide +kernel
theorem dX3_writeAs_63 : decode prog_5_method_5_code 63 = .ok (.aload_n 0, 1) := by decide +kernel
theorem dX3_writeAs_64 : decode prog_5_method_5_code 64 = .ok (.getfield 19, 3) := by decide +kernel
theorem dX3_writeAs_67 : decode prog_5_method_5_code 67 = .ok (.iload_n 2, 1) := by decide +kernel
theorem dX3_writeAs_68 : decode prog_5_method_5_code 68 = .ok (.iaload, 1) := by decide +kernel
theorem dX3_writeAs_69 : decode prog_5_method_5_code 69 = .ok (.iload_n 3, 1) := by decide +kernel
theorem dX3_writeAs_70 : decode prog_5_method_5_code 70 = .ok (.iand, 1) := by decide +kernel
theorem dX3_writeAs_71 : decode prog_5_method_5_code 71 = .ok (.goto 4, 3) := by decide +kernel
theorem dX3_writeAs_74 : decode prog_5_method_5_code 74 = .ok (.iload_n 3, 1) := by decide +kernel
theorem dX3_writeAs_75 : decode prog_5_method_5_code 75 = .ok (.iastore, 1) := by decide +kernel
theorem dX3_writeAs_76 : decode prog_5_method_5_code 76 = .ok (.iinc 2 1, 3) := by decide +kernel
theorem dX3_writeAs_79 : decode prog_5_method_5_code 79 = .ok (.goto (-77), 3) := by decide +kernel
theorem dX3_writeAs_82 : decode prog_5_method_5_code 82 = .ok (.aload_n 0, 1) := by decide +kernel
theorem dX3_writeAs_83 : decode prog_5_method_5_code 83 = .ok (.dup, 1) := by decide +kernel
theorem dX3_writeAs_84 : decode prog_5_method_5_code 84 = .ok (.getfield 9, 3) := by decide +kernel
theorem dX3_writeAs_87 : decode prog_5_method_5_code 87 = .ok (.aload_n 0, 1) := by decide +kernel
theorem dX3_writeAs_88 : decode prog_5_method_5_code 88 = .ok (.getfield 15, 3) := by decide +kernel
theorem dX3_writeAs_91 : decode prog_5_method_5_code 91 = .ok (.iload_n 1, 1) := by decide +kernel
theorem dX3_writeAs_92 : decode prog_5_method_5_code 92 = .ok (.iaload, 1) := by decide +kernel
theorem dX3_writeAs_93 : decode prog_5_method_5_code 93 = .ok (.ior, 1) := by decide +kernel
theorem dX3_writeAs_94 : decode prog_5_method_5_code 94 = .ok (.putfield 9, 3) := by decide +kernel
theorem dX3_writeAs_97 : decode prog_5_method_5_code 97 = .ok (.return_, 1) := by decide +kernel
theorem dX4_init_0 : decode prog_6_method_1_code 0 = .ok (.aload_n 0, 1) := by decide +kernel
theorem dX4_init_1 : decode prog_6_method_1_code 1 = .ok (.invokespecial 3, 3) := by decide +kernel
theorem dX4_init_4 : decode prog_6_method_1_code 4 = .ok (.aload_n 0, 1) := by decide +kernel
theorem dX4_init_5 : decode prog_6_method_1_code 5 = .ok (.iconst 0, 1) := by decide +kernel
theorem dX4_init_6 : decode prog_6_method_1_code 6 = .ok (.putfield 9, 3) := by decide +kernel
theorem dX4_init_9 : decode prog_6_method_1_code 9 = .ok (.aload_n 0, 1) := by decide +kernel
theorem dX4_init_10 : decode prog_6_method_1_code 10 = .ok (.iconst 0, 1) := by decide +kernel
theorem dX4_init_11 : decode prog_6_method_1_code 11 = .ok (.putfield 15, 3) := by decide +kernel
theorem dX4_init_14 : decode prog_6_method_1_code 14 = .ok (.aload_n 0, 1) := by decide +kernel
theorem dX4_init_15 : decode prog_6_method_1_code 15 = .ok (.iconst 0, 1) := by decide +kernel
theorem dX4_init_16 : decode prog_6_method_1_code 16 = .ok (.putfield 18, 3) := by decide +kernel
theorem dX4_init_19 : decode prog_6_method_1_code 19 = .ok (.aload_n 0, 1) := by decide +kernel
theorem dX4_init_20 : decode prog_6_method_1_code 20 = .ok (.bipush 10, 2) := by decide +kernel
theorem dX4_init_22 : decode prog_6_method_1_code 22 = .ok (.newarray .int, 2) := by decide +kernel
theorem dX4_init_24 : decode prog_6_method_1_code 24 = .ok (.putfield 21, 3) := by decide +kernel
theorem dX4_init_27 : decode prog_6_method_1_code 27 = .ok (.aload_n 0, 1) := by decide +kernel
theorem dX4_init_28 : decode prog_6_method_1_code 28 = .ok (.bipush 32, 2) := by decide +kernel
theorem dX4_init_30 : decode prog_6_method_1_code 30 = .ok (.newarray .int, 2) := by decide +kernel
theorem dX4_init_32 : decode prog_6_method_1_code 32 = .ok (.putfield 25, 3) := by decide +kernel
theorem dX4_init_35 : decode prog_6_method_1_code 35 = .ok (.return_, 1) := by decide +kernel
theorem dX4_startFrom_0 : decode prog_6_method_2_code 0 = .ok (.aload_n 0, 1) := by decide +kernel
theorem dX4_startFrom_1 : decode prog_6_method_2_code 1 = .ok (.aload_n 1, 1) := by decide +kernel
theorem dX4_startFrom_2 : decode prog_6_method_2_code 2 = .ok (.getfield 28, 3) := by decide +kernel
theorem dX4_startFrom_5 : decode prog_6_method_2_code 5 = .ok (.putfield 9, 3) := by decide +kernel
theorem dX4_startFrom_8 : decode prog_6_method_2_code 8 = .ok (.aload_n 0, 1) := by decide +kernel
theorem dX4_startFrom_9 : decode prog_6_method_2_code 9 = .ok (.iconst 0, 1) := by decide +kernel
theorem dX4_startFrom_10 : decode prog_6_method_2_code 10 = .ok (.putfield 15, 3) := by decide +kernel
theorem dX4_startFrom_13 : decode prog_6_method_2_code 13 = .ok (.aload_n 0, 1) := by decide +kernel
theorem dX4_startFrom_14 : decode prog_6_method_2_code 14 = .ok (.iconst 0, 1) := by decide +kernel
theorem dX4_startFrom_15 : decode prog_6_method_2_code 15 = .ok (.putfield 18, 3) := by decide +kernel
theorem dX4_startFrom_18 : decode prog_6_method_2_code 18 = .ok (.iconst 0, 1) := by decide +kernel
theorem dX4_startFrom_19 : decode prog_6_method_2_code 19 = .ok (.istore_n 2, 1) := by decide +kernel
theorem dX4_startFrom_20 : decode prog_6_method_2_code 20 = .ok (.iload_n 2, 1) := by decide +kernel
theorem dX4_startFrom_21 : decode prog_6_method_2_code 21 = .ok (.aload_n 1, 1) := by decide +kernel
theorem dX4_startFrom_22 : decode prog_6_method_2_code 22 = .ok (.getfield 31, 3) := by decide +kernel
theorem dX4_startFrom_25 : decode prog_6_method_2_code 25 = .ok (.if_icmp .ge 24, 3) := by decide +kernel
theorem dX4_startFrom_28 : decode prog_6_method_2_code 28 = .ok (.aload_n 0, 1) := by decide +kernel
theorem dX4_startFrom_29 : decode prog_6_method_2_code 29 = .ok (.getfield 21, 3) := by decide +kernel
theorem dX4_startFrom_32 : decode prog_6_method_2_code 32 = .ok (.iload_n 2, 1) := by decide +kernel
theorem dX4_startFrom_33 : decode prog_6_method_2_code 33 = .ok (.aload_n 1, 1) := by decide +kernel
theorem dX4_startFrom_34 : decode prog_6_method_2_code 34 = .ok (.getfield 34, 3) := by decide +kernel
theorem dX4_startFrom_37 : decode prog_6_method_2_code 37 = .ok (.iload_n 2, 1) := by decide +kernel
theorem dX4_startFrom_38 : decode prog_6_method_2_code 38 = .ok (.aaload, 1) := by decide +kernel
theorem dX4_startFrom_39 : decode prog_6_method_2_code 39 = .ok (.bipush 6, 2) := by decide +kernel
theorem dX4_startFrom_41 : decode prog_6_method_2_code 41 = .ok (.iaload, 1) := by decide +kernel
theorem dX4_startFrom_42 : decode prog_6_method_2_code 42 = .ok (.iastore, 1) := by decide +kernel
theorem dX4_startFrom_43 : decode prog_6_method_2_code 43 = .ok (.iinc 2 1, 3) := by decide +kernel
theorem dX4_startFrom_46 : decode prog_6_method_2_code 46 = .ok (.goto (-26), 3) := by decide +kernel
theorem dX4_startFrom_49 : decode prog_6_method_2_code 49 = .ok (.return_, 1) := by decide +kernel
theorem dX4_copyFrom_0 : decode prog_6_method_3_code 0 = .ok (.aload_n 0, 1) := by decide +kernel
theorem dX4_copyFrom_1 : decode prog_6_method_3_code 1 = .ok (.aload_n 1, 1) := by decide +kernel
theorem dX4_copyFrom_2 : decode prog_6_method_3_code 2 = .ok (.getfield 9, 3) := by decide +kernel
theorem dX4_copyFrom_5 : decode prog_6_method_3_code 5 = .ok (.putfield 9, 3) := by decide +kernel
theorem dX4_copyFrom_8 : decode prog_6_method_3_code 8 = .ok (.aload_n 0, 1) := by decide +kernel
theorem dX4_copyFrom_9 : decode prog_6_method_3_code 9 = .ok (.aload_n 1, 1) := by decide +kernel
theorem dX4_copyFrom_10 : decode prog_6_method_3_code 10 = .ok (.getfield 15, 3) := by decide +kernel
theorem dX4_copyFrom_13 : decode prog_6_method_3_code 13 = .ok (.putfield 15, 3) := by decide +kernel
theorem dX4_copyFrom_16 : decode prog_6_method_3_code 16 = .ok (.aload_n 0, 1) := by decide +kernel
theorem dX4_copyFrom_17 : decode prog_6_method_3_code 17 = .ok (.aload_n 1, 1) := by decide +kernel
theorem dX4_copyFrom_18 : decode prog_6_method_3_code 18 = .ok (.getfield 18, 3) := by decide +kernel
theorem dX4_copyFrom_21 : decode prog_6_method_3_code 21 = .ok (.putfield 18, 3) := by decide +kernel
theorem dX4_copyFrom_24 : decode prog_6_method_3_code 24 = .ok (.aload_n 1, 1) := by decide +kernel
theorem dX4_copyFrom_25 : decode prog_6_method_3_code 25 = .ok (.getfield 21, 3) := by decide +kernel
theorem dX4_copyFrom_28 : decode prog_6_method_3_code 28 = .ok (.iconst 0, 1) := by decide +kernel
theorem dX4_copyFrom_29 : decode prog_6_method_3_code 29 = .ok (.aload_n 0, 1) := by decide +kernel
theorem dX4_copyFrom_30 : decode prog_6_method_3_code 30 = .ok (.getfield 21, 3) := by decide +kernel
theorem dX4_copyFrom_33 : decode prog_6_method_3_code 33 = .ok (.iconst 0, 1) := by decide +kernel
theorem dX4_copyFrom_34 : decode prog_6_method_3_code 34 = .ok (.bipush 10, 2) := by decide +kernel
theorem dX4_copyFrom_36 : decode prog_6_method_3_code 36 = .ok (.invokestatic 38, 3) := by decide +kernel
theorem dX4_copyFrom_39 : decode prog_6_method_3_code 39 = .ok (.aload_n 1, 1) := by decide +kernel
theorem dX4_copyFrom_40 : decode prog_6_method_3_code 40 = .ok (.getfield 25, 3) := by decide +kernel
theorem dX4_copyFrom_43 : decode prog_6_method_3_code 43 = .ok (.iconst 0, 1) := by decide +kernel
theorem dX4_copyFrom_44 : decode prog_6_method_3_code 44 = .ok (.aload_n 0, 1) := by decide +kernel
theorem dX4_copyFrom_45 : decode prog_6_method_3_code 45 = .ok (.getfield 25, 3) := by decide +kernel
theorem dX4_copyFrom_48 : decode prog_6_method_3_code 48 = .ok (.iconst 0, 1) := by decide +kernel
theorem dX4_copyFrom_49 : decode prog_6_method_3_code 49 = .ok (.bipush 32, 2) := by decide +kernel
theorem dX4_copyFrom_51 : decode prog_6_method_3_code 51 = .ok (.invokestatic 38, 3) := by decide +kernel
theorem dX4_copyFrom_54 : decode prog_6_method_3_code 54 = .ok (.return_, 1) := by decide +kernel
theorem dX4_addBuy_0 : decode prog_6_method_4_code 0 = .ok (.aload_n 0, 1) := by decide +kernel
theorem dX4_addBuy_1 : decode prog_6_method_4_code 1 = .ok (.getfield 18, 3) := by decide +kernel
theorem dX4_addBuy_4 : decode prog_6_method_4_code 4 = .ok (.bipush 8, 2) := by decide +kernel
theorem dX4_addBuy_6 : decode prog_6_method_4_code 6 = .ok (.if_icmp .ge 62, 3) := by decide +kernel
theorem dX4_addBuy_9 : decode prog_6_method_4_code 9 = .ok (.aload_n 0, 1) := by decide +kernel
theorem dX4_addBuy_10 : decode prog_6_method_4_code 10 = .ok (.getfield 18, 3) := by decide +kernel
theorem dX4_addBuy_13 : decode prog_6_method_4_code 13 = .ok (.iconst 4, 1) := by decide +kernel
theorem dX4_addBuy_14 : decode prog_6_method_4_code 14 = .ok (.imul, 1) := by decide +kernel
theorem dX4_addBuy_15 : decode prog_6_method_4_code 15 = .ok (.istore 5, 2) := by decide +kernel
theorem dX4_addBuy_17 : decode prog_6_method_4_code 17 = .ok (.aload_n 0, 1) := by decide +kernel
theorem dX4_addBuy_18 : decode prog_6_method_4_code 18 = .ok (.getfield 25, 3) := by decide +kernel
theorem dX4_addBuy_21 : decode prog_6_method_4_code 21 = .ok (.iload 5, 2) := by decide +kernel
theorem dX4_addBuy_23 : decode prog_6_method_4_code 23 = .ok (.iconst 0, 1) := by decide +kernel
theorem dX4_addBuy_24 : decode prog_6_method_4_code 24 = .ok (.iadd, 1) := by decide +kernel
theorem dX4_addBuy_25 : decode prog_6_method_4_code 25 = .ok (.iload_n 1, 1) := by decide +kernel
theorem dX4_addBuy_26 : decode prog_6_method_4_code 26 = .ok (.iastore, 1) := by decide +kernel
theorem dX4_addBuy_27 : decode prog_6_method_4_code 27 = .ok (.aload_n 0, 1) := by decide +kernel
theorem dX4_addBuy_28 : decode prog_6_method_4_code 28 = .ok (.getfield 25, 3) := by decide +kernel
theorem dX4_addBuy_31 : decode prog_6_method_4_code 31 = .ok (.iload 5, 2) := by decide +kernel
theorem dX4_addBuy_33 : decode prog_6_method_4_code 33 = .ok (.iconst 1, 1) := by decide +kernel
theorem dX4_addBuy_34 : decode prog_6_method_4_code 34 = .ok (.iadd, 1) := by decide +kernel
theorem dX4_addBuy_35 : decode prog_6_method_4_code 35 = .ok (.iload_n 2, 1) := by decide +kernel
theorem dX4_addBuy_36 : decode prog_6_method_4_code 36 = .ok (.iastore, 1) := by decide +kernel
theorem dX4_addBuy_37 : decode prog_6_method_4_code 37 = .ok (.aload_n 0, 1) := by decide +kernel
theorem dX4_addBuy_38 : decode prog_6_method_4_code 38 = .ok (.getfield 25, 3) := by decide +kernel
theorem dX4_addBuy_41 : decode prog_6_method_4_code 41 = .ok (.iload 5, 2) := by decide +kernel
theorem dX4_addBuy_43 : decode prog_6_method_4_code 43 = .ok (.iconst 2, 1) := by decide +kernel
theorem dX4_addBuy_44 : decode prog_6_method_4_code 44 = .ok (.iadd, 1) := by decide +kernel
theorem dX4_addBuy_45 : decode prog_6_method_4_code 45 = .ok (.iload_n 3, 1) := by decide +kernel
theorem dX4_addBuy_46 : decode prog_6_method_4_code 46 = .ok (.iastore, 1) := by decide +kernel
theorem dX4_addBuy_47 : decode prog_6_method_4_code 47 = .ok (.aload_n 0, 1) := by decide +kernel
theorem dX4_addBuy_48 : decode prog_6_method_4_code 48 = .ok (.getfield 25, 3) := by decide +kernel
theorem dX4_addBuy_51 : decode prog_6_method_4_code 51 = .ok (.iload 5, 2) := by decide +kernel
theorem dX4_addBuy_53 : decode prog_6_method_4_code 53 = .ok (.iconst 3, 1) := by decide +kernel
theorem dX4_addBuy_54 : decode prog_6_method_4_code 54 = .ok (.iadd, 1) := by decide +kernel
theorem dX4_addBuy_55 : decode prog_6_method_4_code 55 = .ok (.iload 4, 2) := by decide +kernel
theorem dX4_addBuy_57 : decode prog_6_method_4_code 57 = .ok (.iastore, 1) := by decide +kernel
theorem dX4_addBuy_58 : decode prog_6_method_4_code 58 = .ok (.aload_n 0, 1) := by decide +kernel
theorem dX4_addBuy_59 : decode prog_6_method_4_code 59 = .ok (.dup, 1) := by decide +kernel
theorem dX4_addBuy_60 : decode prog_6_method_4_code 60 = .ok (.getfield 18, 3) := by decide +kernel
theorem dX4_addBuy_63 : decode prog_6_method_4_code 63 = .ok (.iconst 1, 1) := by decide +kernel
theorem dX4_addBuy_64 : decode prog_6_method_4_code 64 = .ok (.iadd, 1) := by decide +kernel
theorem dX4_addBuy_65 : decode prog_6_method_4_code 65 = .ok (.putfield 18, 3) := by decide +kernel
theorem dX4_addBuy_68 : decode prog_6_method_4_code 68 = .ok (.return_, 1) := by decide +kernel
theorem dX5_init_0 : decode prog_7_method_1_code 0 = .ok (.aload_n 0, 1) := by decide +kernel
theorem dX5_init_1 : decode prog_7_method_1_code 1 = .ok (.invokespecial 3, 3) := by decide +kernel
theorem dX5_init_4 : decode prog_7_method_1_code 4 = .ok (.aload_n 0, 1) := by decide +kernel
theorem dX5_init_5 : decode prog_7_method_1_code 5 = .ok (.iconst 0, 1) := by decide +kernel
theorem dX5_init_6 : decode prog_7_method_1_code 6 = .ok (.putfield 9, 3) := by decide +kernel
theorem dX5_init_9 : decode prog_7_method_1_code 9 = .ok (.aload_n 0, 1) := by decide +kernel
theorem dX5_init_10 : decode prog_7_method_1_code 10 = .ok (.iconst 0, 1) := by decide +kernel
theorem dX5_init_11 : decode prog_7_method_1_code 11 = .ok (.putfield 15, 3) := by decide +kernel
theorem dX5_init_14 : decode prog_7_method_1_code 14 = .ok (.aload_n 0, 1) := by decide +kernel
theorem dX5_init_15 : decode prog_7_method_1_code 15 = .ok (.bipush 12, 2) := by decide +kernel
theorem dX5_init_17 : decode prog_7_method_1_code 17 = .ok (.anewarray 18, 3) := by decide +kernel
theorem dX5_init_20 : decode prog_7_method_1_code 20 = .ok (.putfield 20, 3) := by decide +kernel
theorem dX5_init_23 : decode prog_7_method_1_code 23 = .ok (.aload_n 0, 1) := by decide +kernel
theorem dX5_init_24 : decode prog_7_method_1_code 24 = .ok (.iconst 3, 1) := by decide +kernel
theorem dX5_init_25 : decode prog_7_method_1_code 25 = .ok (.anewarray 18, 3) := by decide +kernel
theorem dX5_init_28 : decode prog_7_method_1_code 28 = .ok (.putfield 24, 3) := by decide +kernel
theorem dX5_init_31 : decode prog_7_method_1_code 31 = .ok (.iconst 0, 1) := by decide +kernel
theorem dX5_init_32 : decode prog_7_method_1_code 32 = .ok (.istore_n 1, 1) := by decide +kernel
theorem dX5_init_33 : decode prog_7_method_1_code 33 = .ok (.iload_n 1, 1) := by decide +kernel
theorem dX5_init_34 : decode prog_7_method_1_code 34 = .ok (.bipush 12, 2) := by decide +kernel
theorem dX5_init_36 : decode prog_7_method_1_code 36 = .ok (.if_icmp .ge 22, 3) := by decide +kernel
theorem dX5_init_39 : decode prog_7_method_1_code 39 = .ok (.aload_n 0, 1) := by decide +kernel
theorem dX5_init_40 : decode prog_7_method_1_code 40 = .ok (.getfield 20, 3) := by decide +kernel
theorem dX5_init_43 : decode prog_7_method_1_code 43 = .ok (.iload_n 1, 1) := by decide +kernel
theorem dX5_init_44 : decode prog_7_method_1_code 44 = .ok (.new 18, 3) := by decide +kernel
theorem dX5_init_47 : decode prog_7_method_1_code 47 = .ok (.dup, 1) := by decide +kernel
theorem dX5_init_48 : decode prog_7_method_1_code 48 = .ok (.invokespecial 27, 3) := by decide +kernel
theorem dX5_init_51 : decode prog_7_method_1_code 51 = .ok (.aastore, 1) := by decide +kernel
theorem dX5_init_52 : decode prog_7_method_1_code 52 = .ok (.iinc 1 1, 3) := by decide +kernel
theorem dX5_init_55 : decode prog_7_method_1_code 55 = .ok (.goto (-22), 3) := by decide +kernel
theorem dX5_init_58 : decode prog_7_method_1_code 58 = .ok (.iconst 0, 1) := by decide +kernel
theorem dX5_init_59 : decode prog_7_method_1_code 59 = .ok (.istore_n 1, 1) := by decide +kernel
theorem dX5_init_60 : decode prog_7_method_1_code 60 = .ok (.iload_n 1, 1) := by decide +kernel
theorem dX5_init_61 : decode prog_7_method_1_code 61 = .ok (.iconst 3, 1) := by decide +kernel
theorem dX5_init_62 : decode prog_7_method_1_code 62 = .ok (.if_icmp .ge 22, 3) := by decide +kernel
theorem dX5_init_65 : decode prog_7_method_1_code 65 = .ok (.aload_n 0, 1) := by decide +kernel
theorem dX5_init_66 : decode prog_7_method_1_code 66 = .ok (.getfield 24, 3) := by decide +kernel
theorem dX5_init_69 : decode prog_7_method_1_code 69 = .ok (.iload_n 1, 1) := by decide +kernel
theorem dX5_init_70 : decode prog_7_method_1_code 70 = .ok (.new 18, 3) := by decide +kernel
theorem dX5_init_73 : decode prog_7_method_1_code 73 = .ok (.dup, 1) := by decide +kernel
theorem dX5_init_74 : decode prog_7_method_1_code 74 = .ok (.invokespecial 27, 3) := by decide +kernel
theorem dX5_init_77 : decode prog_7_method_1_code 77 = .ok (.aastore, 1) := by decide +kernel
theorem dX5_init_78 : decode prog_7_method_1_code 78 = .ok (.iinc 1 1, 3) := by decide +kernel
theorem dX5_init_81 : decode prog_7_method_1_code 81 = .ok (.goto (-21), 3) := by decide +kernel
theorem dX5_init_84 : decode prog_7_method_1_code 84 = .ok (.return_, 1) := by decide +kernel
theorem dX5_forget_0 : decode prog_7_method_2_code 0 = .ok (.aload_n 0, 1) := by decide +kernel
theorem dX5_forget_1 : decode prog_7_method_2_code 1 = .ok (.iconst 0, 1) := by decide +kernel
theorem dX5_forget_2 : decode prog_7_method_2_code 2 = .ok (.putfield 9, 3) := by decide +kernel
theorem dX5_forget_5 : decode prog_7_method_2_code 5 = .ok (.aload_n 0, 1) := by decide +kernel
theorem dX5_forget_6 : decode prog_7_method_2_code 6 = .ok (.iconst 0, 1) := by decide +kernel
theorem dX5_forget_7 : decode prog_7_method_2_code 7 = .ok (.putfield 15, 3) := by decide +kernel
theorem dX5_forget_10 : decode prog_7_method_2_code 10 = .ok (.return_, 1) := by decide +kernel
theorem dX5_keepAct_0 : decode prog_7_method_3_code 0 = .ok (.aload_n 0, 1) := by decide +kernel
theorem dX5_keepAct_1 : decode prog_7_method_3_code 1 = .ok (.getfield 9, 3) := by decide +kernel
theorem dX5_keepAct_4 : decode prog_7_method_3_code 4 = .ok (.bipush 12, 2) := by decide +kernel
theorem dX5_keepAct_6 : decode prog_7_method_3_code 6 = .ok (.if_icmp .lt 7, 3) := by decide +kernel
theorem dX5_keepAct_9 : decode prog_7_method_3_code 9 = .ok (.aload_n 0, 1) := by decide +kernel
theorem dX5_keepAct_10 : decode prog_7_method_3_code 10 = .ok (.invokevirtual 28, 3) := by decide +kernel
theorem dX5_keepAct_13 : decode prog_7_method_3_code 13 = .ok (.aload_n 0, 1) := by decide +kernel
theorem dX5_keepAct_14 : decode prog_7_method_3_code 14 = .ok (.getfield 20, 3) := by decide +kernel
theorem dX5_keepAct_17 : decode prog_7_method_3_code 17 = .ok (.aload_n 0, 1) := by decide +kernel
theorem dX5_keepAct_18 : decode prog_7_method_3_code 18 = .ok (.getfield 9, 3) := by decide +kernel
theorem dX5_keepAct_21 : decode prog_7_method_3_code 21 = .ok (.aaload, 1) := by decide +kernel
theorem dX5_keepAct_22 : decode prog_7_method_3_code 22 = .ok (.aload_n 1, 1) := by decide +kernel
theorem dX5_keepAct_23 : decode prog_7_method_3_code 23 = .ok (.invokevirtual 31, 3) := by decide +kernel
theorem dX5_keepAct_26 : decode prog_7_method_3_code 26 = .ok (.aload_n 0, 1) := by decide +kernel
theorem dX5_keepAct_27 : decode prog_7_method_3_code 27 = .ok (.dup, 1) := by decide +kernel
theorem dX5_keepAct_28 : decode prog_7_method_3_code 28 = .ok (.getfield 9, 3) := by decide +kernel
theorem dX5_keepAct_31 : decode prog_7_method_3_code 31 = .ok (.iconst 1, 1) := by decide +kernel
theorem dX5_keepAct_32 : decode prog_7_method_3_code 32 = .ok (.iadd, 1) := by decide +kernel
theorem dX5_keepAct_33 : decode prog_7_method_3_code 33 = .ok (.putfield 9, 3) := by decide +kernel
theorem dX5_keepAct_36 : decode prog_7_method_3_code 36 = .ok (.return_, 1) := by decide +kernel
theorem dX5_dropOldest_0 : decode prog_7_method_4_code 0 = .ok (.aload_n 0, 1) := by decide +kernel
theorem dX5_dropOldest_1 : decode prog_7_method_4_code 1 = .ok (.getfield 20, 3) := by decide +kernel
theorem dX5_dropOldest_4 : decode prog_7_method_4_code 4 = .ok (.iconst 0, 1) := by decide +kernel
theorem dX5_dropOldest_5 : decode prog_7_method_4_code 5 = .ok (.aaload, 1) := by decide +kernel
theorem dX5_dropOldest_6 : decode prog_7_method_4_code 6 = .ok (.astore_n 1, 1) := by decide +kernel
theorem dX5_dropOldest_7 : decode prog_7_method_4_code 7 = .ok (.iconst 1, 1) := by decide +kernel
theorem dX5_dropOldest_8 : decode prog_7_method_4_code 8 = .ok (.istore_n 2, 1) := by decide +kernel
theorem dX5_dropOldest_9 : decode prog_7_method_4_code 9 = .ok (.iload_n 2, 1) := by decide +kernel
theorem dX5_dropOldest_10 : decode prog_7_method_4_code 10 = .ok (.bipush 12, 2) := by decide +kernel
theorem dX5_dropOldest_12 : decode prog_7_method_4_code 12 = .ok (.if_icmp .ge 23, 3) := by decide +kernel
theorem dX5_dropOldest_15 : decode prog_7_method_4_code 15 = .ok (.aload_n 0, 1) := by decide +kernel
theorem dX5_dropOldest_16 : decode prog_7_method_4_code 16 = .ok (.getfield 20, 3) := by decide +kernel
theorem dX5_dropOldest_19 : decode prog_7_method_4_code 19 = .ok (.iload_n 2, 1) := by decide +kernel
theorem dX5_dropOldest_20 : decode prog_7_method_4_code 20 = .ok (.iconst 1, 1) := by decide +kernel
theorem dX5_dropOldest_21 : decode prog_7_method_4_code 21 = .ok (.isub, 1) := by decide +kernel
theorem dX5_dropOldest_22 : decode prog_7_method_4_code 22 = .ok (.aload_n 0, 1) := by decide +kernel
theorem dX5_dropOldest_23 : decode prog_7_method_4_code 23 = .ok (.getfield 20, 3) := by decide +kernel
theorem dX5_dropOldest_26 : decode prog_7_method_4_code 26 = .ok (.iload_n 2, 1) := by decide +kernel
theorem dX5_dropOldest_27 : decode prog_7_method_4_code 27 = .ok (.aaload, 1) := by decide +kernel
theorem dX5_dropOldest_28 : decode prog_7_method_4_code 28 = .ok (.aastore, 1) := by decide +kernel
theorem dX5_dropOldest_29 : decode prog_7_method_4_code 29 = .ok (.iinc 2 1, 3) := by decide +kernel
theorem dX5_dropOldest_32 : decode prog_7_method_4_code 32 = .ok (.goto (-23), 3) := by decide +kernel
theorem dX5_dropOldest_35 : decode prog_7_method_4_code 35 = .ok (.aload_n 0, 1) := by decide +kernel
theorem dX5_dropOldest_36 : decode prog_7_method_4_code 36 = .ok (.getfield 20, 3) := by decide +kernel
theorem dX5_dropOldest_39 : decode prog_7_method_4_code 39 = .ok (.bipush 11, 2) := by decide +kernel
theorem dX5_dropOldest_41 : decode prog_7_method_4_code 41 = .ok (.aload_n 1, 1) := by decide +kernel
theorem dX5_dropOldest_42 : decode prog_7_method_4_code 42 = .ok (.aastore, 1) := by decide +kernel
theorem dX5_dropOldest_43 : decode prog_7_method_4_code 43 = .ok (.aload_n 0, 1) := by decide +kernel
theorem dX5_dropOldest_44 : decode prog_7_method_4_code 44 = .ok (.bipush 11, 2) := by decide +kernel
theorem dX5_dropOldest_46 : decode prog_7_method_4_code 46 = .ok (.putfield 9, 3) := by decide +kernel
theorem dX5_dropOldest_49 : decode prog_7_method_4_code 49 = .ok (.return_, 1) := by decide +kernel
theorem dX5_takeBack_0 : decode prog_7_method_5_code 0 = .ok (.aload_n 0, 1) := by decide +kernel
theorem dX5_takeBack_1 : decode prog_7_method_5_code 1 = .ok (.getfield 9, 3) := by decide +kernel
theorem dX5_takeBack_4 : decode prog_7_method_5_code 4 = .ok (.ifCond .gt 5, 3) := by decide +kernel
theorem dX5_takeBack_7 : decode prog_7_method_5_code 7 = .ok (.iconst 0, 1) := by decide +kernel
theorem dX5_takeBack_8 : decode prog_7_method_5_code 8 = .ok (.ireturn, 1) := by decide +kernel
theorem dX5_takeBack_9 : decode prog_7_method_5_code 9 = .ok (.aload_n 0, 1) := by decide +kernel
theorem dX5_takeBack_10 : decode prog_7_method_5_code 10 = .ok (.dup, 1) := by decide +kernel
theorem dX5_takeBack_11 : decode prog_7_method_5_code 11 = .ok (.getfield 9, 3) := by decide +kernel
theorem dX5_takeBack_14 : decode prog_7_method_5_code 14 = .ok (.iconst 1, 1) := by decide +kernel
theorem dX5_takeBack_15 : decode prog_7_method_5_code 15 = .ok (.isub, 1) := by decide +kernel
theorem dX5_takeBack_16 : decode prog_7_method_5_code 16 = .ok (.putfield 9, 3) := by decide +kernel
theorem dX5_takeBack_19 : decode prog_7_method_5_code 19 = .ok (.aload_n 1, 1) := by decide +kernel
theorem dX5_takeBack_20 : decode prog_7_method_5_code 20 = .ok (.aload_n 0, 1) := by decide +kernel
theorem dX5_takeBack_21 : decode prog_7_method_5_code 21 = .ok (.getfield 20, 3) := by decide +kernel
theorem dX5_takeBack_24 : decode prog_7_method_5_code 24 = .ok (.aload_n 0, 1) := by decide +kernel
theorem dX5_takeBack_25 : decode prog_7_method_5_code 25 = .ok (.getfield 9, 3) := by decide +kernel
theorem dX5_takeBack_28 : decode prog_7_method_5_code 28 = .ok (.aaload, 1) := by decide +kernel
theorem dX5_takeBack_29 : decode prog_7_method_5_code 29 = .ok (.invokevirtual 31, 3) := by decide +kernel
theorem dX5_takeBack_32 : decode prog_7_method_5_code 32 = .ok (.iconst 1, 1) := by decide +kernel
theorem dX5_takeBack_33 : decode prog_7_method_5_code 33 = .ok (.ireturn, 1) := by decide +kernel
theorem dX5_setMark_0 : decode prog_7_method_6_code 0 = .ok (.aload_n 0, 1) := by decide +kernel
theorem dX5_setMark_1 : decode prog_7_method_6_code 1 = .ok (.getfield 15, 3) := by decide +kernel
theorem dX5_setMark_4 : decode prog_7_method_6_code 4 = .ok (.iconst 3, 1) := by decide +kernel
theorem dX5_setMark_5 : decode prog_7_method_6_code 5 = .ok (.if_icmp .lt 5, 3) := by decide +kernel
theorem dX5_setMark_8 : decode prog_7_method_6_code 8 = .ok (.iconst (-1), 1) := by decide +kernel
theorem dX5_setMark_9 : decode prog_7_method_6_code 9 = .ok (.ireturn, 1) := by decide +kernel
theorem dX5_setMark_10 : decode prog_7_method_6_code 10 = .ok (.aload_n 0, 1) := by decide +kernel
theorem dX5_setMark_11 : decode prog_7_method_6_code 11 = .ok (.getfield 24, 3) := by decide +kernel
theorem dX5_setMark_14 : decode prog_7_method_6_code 14 = .ok (.aload_n 0, 1) := by decide +kernel
theorem dX5_setMark_15 : decode prog_7_method_6_code 15 = .ok (.getfield 15, 3) := by decide +kernel
theorem dX5_setMark_18 : decode prog_7_method_6_code 18 = .ok (.aaload, 1) := by decide +kernel
theorem dX5_setMark_19 : decode prog_7_method_6_code 19 = .ok (.aload_n 1, 1) := by decide +kernel
theorem dX5_setMark_20 : decode prog_7_method_6_code 20 = .ok (.invokevirtual 31, 3) := by decide +kernel
theorem dX5_setMark_23 : decode prog_7_method_6_code 23 = .ok (.aload_n 0, 1) := by decide +kernel
theorem dX5_setMark_24 : decode prog_7_method_6_code 24 = .ok (.dup, 1) := by decide +kernel
theorem dX5_setMark_25 : decode prog_7_method_6_code 25 = .ok (.getfield 15, 3) := by decide +kernel
theorem dX5_setMark_28 : decode prog_7_method_6_code 28 = .ok (.iconst 1, 1) := by decide +kernel
theorem dX5_setMark_29 : decode prog_7_method_6_code 29 = .ok (.iadd, 1) := by decide +kernel
theorem dX5_setMark_30 : decode prog_7_method_6_code 30 = .ok (.putfield 15, 3) := by decide +kernel
theorem dX5_setMark_33 : decode prog_7_method_6_code 33 = .ok (.aload_n 0, 1) := by decide +kernel
theorem dX5_setMark_34 : decode prog_7_method_6_code 34 = .ok (.getfield 15, 3) := by decide +kernel
theorem dX5_setMark_37 : decode prog_7_method_6_code 37 = .ok (.iconst 1, 1) := by decide +kernel
theorem dX5_setMark_38 : decode prog_7_method_6_code 38 = .ok (.isub, 1) := by decide +kernel
theorem dX5_setMark_39 : decode prog_7_method_6_code 39 = .ok (.ireturn, 1) := by decide +kernel
theorem dX5_goBack_0 : decode prog_7_method_7_code 0 = .ok (.iload_n 1, 1) := by decide +kernel
theorem dX5_goBack_1 : decode prog_7_method_7_code 1 = .ok (.ifCond .lt 11, 3) := by decide +kernel
theorem dX5_goBack_4 : decode prog_7_method_7_code 4 = .ok (.iload_n 1, 1) := by decide +kernel
theorem dX5_goBack_5 : decode prog_7_method_7_code 5 = .ok (.aload_n 0, 1) := by decide +kernel
theorem dX5_goBack_6 : decode prog_7_method_7_code 6 = .ok (.getfield 15, 3) := by decide +kernel
theorem dX5_goBack_9 : decode prog_7_method_7_code 9 = .ok (.if_icmp .lt 5, 3) := by decide +kernel
theorem dX5_goBack_12 : decode prog_7_method_7_code 12 = .ok (.iconst 0, 1) := by decide +kernel
theorem dX5_goBack_13 : decode prog_7_method_7_code 13 = .ok (.ireturn, 1) := by decide +kernel
theorem dX5_goBack_14 : decode prog_7_method_7_code 14 = .ok (.aload_n 2, 1) := by decide +kernel
theorem dX5_goBack_15 : decode prog_7_method_7_code 15 = .ok (.aload_n 0, 1) := by decide +kernel
theorem dX5_goBack_16 : decode prog_7_method_7_code 16 = .ok (.getfield 24, 3) := by decide +kernel
theorem dX5_goBack_19 : decode prog_7_method_7_code 19 = .ok (.iload_n 1, 1) := by decide +kernel
theorem dX5_goBack_20 : decode prog_7_method_7_code 20 = .ok (.aaload, 1) := by decide +kernel
theorem dX5_goBack_21 : decode prog_7_method_7_code 21 = .ok (.invokevirtual 31, 3) := by decide +kernel
theorem dX5_goBack_24 : decode prog_7_method_7_code 24 = .ok (.aload_n 0, 1) := by decide +kernel
theorem dX5_goBack_25 : decode prog_7_method_7_code 25 = .ok (.iconst 0, 1) := by decide +kernel
theorem dX5_goBack_26 : decode prog_7_method_7_code 26 = .ok (.putfield 9, 3) := by decide +kernel
theorem dX5_goBack_29 : decode prog_7_method_7_code 29 = .ok (.iconst 1, 1) := by decide +kernel
theorem dX5_goBack_30 : decode prog_7_method_7_code 30 = .ok (.ireturn, 1) := by decide +kernel
theorem dX7_init_0 : decode prog_9_method_1_code 0 = .ok (.aload_n 0, 1) := by decide +kernel
theorem dX7_init_1 : decode prog_9_method_1_code 1 = .ok (.invokespecial 3, 3) := by decide +kernel
theorem dX7_init_4 : decode prog_9_method_1_code 4 = .ok (.aload_n 0, 1) := by decide +kernel
theorem dX7_init_5 : decode prog_9_method_1_code 5 = .ok (.iconst 4, 1) := by decide +kernel
theorem dX7_init_6 : decode prog_9_method_1_code 6 = .ok (.newarray .int, 2) := by decide +kernel
theorem dX7_init_8 : decode prog_9_method_1_code 8 = .ok (.putfield 9, 3) := by decide +kernel
theorem dX7_init_11 : decode prog_9_method_1_code 11 = .ok (.aload_n 0, 1) := by decide +kernel
theorem dX7_init_12 : decode prog_9_method_1_code 12 = .ok (.iconst 5, 1) := by decide +kernel
theorem dX7_init_13 : decode prog_9_method_1_code 13 = .ok (.newarray .boolean, 2) := by decide +kernel
theorem dX7_init_15 : decode prog_9_method_1_code 15 = .ok (.putfield 15, 3) := by decide +kernel
theorem dX7_init_18 : decode prog_9_method_1_code 18 = .ok (.aload_n 0, 1) := by decide +kernel
theorem dX7_init_19 : decode prog_9_method_1_code 19 = .ok (.iconst 5, 1) := by decide +kernel
theorem dX7_init_20 : decode prog_9_method_1_code 20 = .ok (.newarray .int, 2) := by decide +kernel
theorem dX7_init_22 : decode prog_9_method_1_code 22 = .ok (.putfield 19, 3) := by decide +kernel
theorem dX7_init_25 : decode prog_9_method_1_code 25 = .ok (.aload_n 0, 1) := by decide +kernel
theorem dX7_init_26 : decode prog_9_method_1_code 26 = .ok (.bipush 20, 2) := by decide +kernel
theorem dX7_init_28 : decode prog_9_method_1_code 28 = .ok (.newarray .int, 2) := by decide +kernel
theorem dX7_init_30 : decode prog_9_method_1_code 30 = .ok (.putfield 22, 3) := by decide +kernel
theorem dX7_init_33 : decode prog_9_method_1_code 33 = .ok (.aload_n 0, 1) := by decide +kernel
theorem dX7_init_34 : decode prog_9_method_1_code 34 = .ok (.iconst 0, 1) := by decide +kernel
theorem dX7_init_35 : decode prog_9_method_1_code 35 = .ok (.putfield 25, 3) := by decide +kernel
theorem dX7_init_38 : decode prog_9_method_1_code 38 = .ok (.aload_n 0, 1) := by decide +kernel
theorem dX7_init_39 : decode prog_9_method_1_code 39 = .ok (.bipush 80, 2) := by decide +kernel
theorem dX7_init_41 : decode prog_9_method_1_code 41 = .ok (.newarray .int, 2) := by decide +kernel
theorem dX7_init_43 : decode prog_9_method_1_code 43 = .ok (.putfield 29, 3) := by decide +kernel
theorem dX7_init_46 : decode prog_9_method_1_code 46 = .ok (.aload_n 0, 1) := by decide +kernel
theorem dX7_init_47 : decode prog_9_method_1_code 47 = .ok (.aload_n 1, 1) := by decide +kernel
theorem dX7_init_48 : decode prog_9_method_1_code 48 = .ok (.putfield 32, 3) := by decide +kernel
theorem dX7_init_51 : decode prog_9_method_1_code 51 = .ok (.aload_n 0, 1) := by decide +kernel
theorem dX7_init_52 : decode prog_9_method_1_code 52 = .ok (.new 36, 3) := by decide +kernel
theorem dX7_init_55 : decode prog_9_method_1_code 55 = .ok (.dup, 1) := by decide +kernel
theorem dX7_init_56 : decode prog_9_method_1_code 56 = .ok (.aload_n 1, 1) := by decide +kernel
theorem dX7_init_57 : decode prog_9_method_1_code 57 = .ok (.invokespecial 38, 3) := by decide +kernel
theorem dX7_init_60 : decode prog_9_method_1_code 60 = .ok (.putfield 41, 3) := by decide +kernel
theorem dX7_init_63 : decode prog_9_method_1_code 63 = .ok (.aload_n 0, 1) := by decide +kernel
theorem dX7_init_64 : decode prog_9_method_1_code 64 = .ok (.new 45, 3) := by decide +kernel
theorem dX7_init_67 : decode prog_9_method_1_code 67 = .ok (.dup, 1) := by decide +kernel
theorem dX7_init_68 : decode prog_9_method_1_code 68 = .ok (.aload_n 1, 1) := by decide +kernel
theorem dX7_init_69 : decode prog_9_method_1_code 69 = .ok (.invokespecial 47, 3) := by decide +kernel
theorem dX7_init_72 : decode prog_9_method_1_code 72 = .ok (.putfield 48, 3) := by decide +kernel
theorem dX7_init_75 : decode prog_9_method_1_code 75 = .ok (.return_, 1) := by decide +kernel
theorem dX7_forget_0 : decode prog_9_method_2_code 0 = .ok (.iconst 0, 1) := by decide +kernel
theorem dX7_forget_1 : decode prog_9_method_2_code 1 = .ok (.istore_n 1, 1) := by decide +kernel
theorem dX7_forget_2 : decode prog_9_method_2_code 2 = .ok (.iload_n 1, 1) := by decide +kernel
theorem dX7_forget_3 : decode prog_9_method_2_code 3 = .ok (.iconst 4, 1) := by decide +kernel
theorem dX7_forget_4 : decode prog_9_method_2_code 4 = .ok (.if_icmp .gt 16, 3) := by decide +kernel
theorem dX7_forget_7 : decode prog_9_method_2_code 7 = .ok (.aload_n 0, 1) := by decide +kernel
theorem dX7_forget_8 : decode prog_9_method_2_code 8 = .ok (.getfield 15, 3) := by decide +kernel
theorem dX7_forget_11 : decode prog_9_method_2_code 11 = .ok (.iload_n 1, 1) := by decide +kernel
theorem dX7_forget_12 : decode prog_9_method_2_code 12 = .ok (.iconst 0, 1) := by decide +kernel
theorem dX7_forget_13 : decode prog_9_method_2_code 13 = .ok (.bastore, 1) := by decide +kernel
theorem dX7_forget_14 : decode prog_9_method_2_code 14 = .ok (.iinc 1 1, 3) := by decide +kernel
theorem dX7_forget_17 : decode prog_9_method_2_code 17 = .ok (.goto (-15), 3) := by decide +kernel
theorem dX7_forget_20 : decode prog_9_method_2_code 20 = .ok (.aload_n 0, 1) := by decide +kernel
theorem dX7_forget_21 : decode prog_9_method_2_code 21 = .ok (.iconst 0, 1) := by decide +kernel
theorem dX7_forget_22 : decode prog_9_method_2_code 22 = .ok (.putfield 25, 3) := by decide +kernel
theorem dX7_forget_25 : decode prog_9_method_2_code 25 = .ok (.return_, 1) := by decide +kernel
theorem dX7_find_0 : decode prog_9_method_3_code 0 = .ok (.aload_n 0, 1) := by decide +kernel
theorem dX7_find_1 : decode prog_9_method_3_code 1 = .ok (.getfield 15, 3) := by decide +kernel
theorem dX7_find_4 : decode prog_9_method_3_code 4 = .ok (.iload_n 1, 1) := by decide +kernel
theorem dX7_find_5 : decode prog_9_method_3_code 5 = .ok (.baload, 1) := by decide +kernel
theorem dX7_find_6 : decode prog_9_method_3_code 6 = .ok (.ifCond .eq 10, 3) := by decide +kernel
theorem dX7_find_9 : decode prog_9_method_3_code 9 = .ok (.aload_n 0, 1) := by decide +kernel
theorem dX7_find_10 : decode prog_9_method_3_code 10 = .ok (.getfield 19, 3) := by decide +kernel
theorem dX7_find_13 : decode prog_9_method_3_code 13 = .ok (.iload_n 1, 1) := by decide +kernel
theorem dX7_find_14 : decode prog_9_method_3_code 14 = .ok (.iaload, 1) := by decide +kernel
theorem dX7_find_15 : decode prog_9_method_3_code 15 = .ok (.ireturn, 1) := by decide +kernel
theorem dX7_find_16 : decode prog_9_method_3_code 16 = .ok (.aload_n 0, 1) := by decide +kernel
theorem dX7_find_17 : decode prog_9_method_3_code 17 = .ok (.getfield 15, 3) := by decide +kernel
theorem dX7_find_20 : decode prog_9_method_3_code 20 = .ok (.iload_n 1, 1) := by decide +kernel
theorem dX7_find_21 : decode prog_9_method_3_code 21 = .ok (.iconst 1, 1) := by decide +kernel
theorem dX7_find_22 : decode prog_9_method_3_code 22 = .ok (.bastore, 1) := by decide +kernel
theorem dX7_find_23 : decode prog_9_method_3_code 23 = .ok (.aload_n 0, 1) := by decide +kernel
theorem dX7_find_24 : decode prog_9_method_3_code 24 = .ok (.getfield 19, 3) := by decide +kernel
theorem dX7_find_27 : decode prog_9_method_3_code 27 = .ok (.iload_n 1, 1) := by decide +kernel
theorem dX7_find_28 : decode prog_9_method_3_code 28 = .ok (.ldc 52, 2) := by decide +kernel
theorem dX7_find_30 : decode prog_9_method_3_code 30 = .ok (.iastore, 1) := by decide +kernel
theorem dX7_find_31 : decode prog_9_method_3_code 31 = .ok (.aload_n 0, 1) := by decide +kernel
theorem dX7_find_32 : decode prog_9_method_3_code 32 = .ok (.invokevirtual 53, 3) := by decide +kernel
theorem dX7_find_35 : decode prog_9_method_3_code 35 = .ok (.iconst 1, 1) := by decide +kernel
theorem dX7_find_36 : decode prog_9_method_3_code 36 = .ok (.istore_n 2, 1) := by decide +kernel
theorem dX7_find_37 : decode prog_9_method_3_code 37 = .ok (.iconst 0, 1) := by decide +kernel
theorem dX7_find_38 : decode prog_9_method_3_code 38 = .ok (.istore_n 3, 1) := by decide +kernel
theorem dX7_find_39 : decode prog_9_method_3_code 39 = .ok (.iload_n 3, 1) := by decide +kernel
theorem dX7_find_40 : decode prog_9_method_3_code 40 = .ok (.sipush 10000, 3) := by decide +kernel
theorem dX7_find_43 : decode prog_9_method_3_code 43 = .ok (.if_icmp .ge 23, 3) := by decide +kernel
theorem dX7_find_46 : decode prog_9_method_3_code 46 = .ok (.iload_n 2, 1) := by decide +kernel
theorem dX7_find_47 : decode prog_9_method_3_code 47 = .ok (.ifCond .eq 19, 3) := by decide +kernel
theorem dX7_find_50 : decode prog_9_method_3_code 50 = .ok (.aload_n 0, 1) := by decide +kernel
theorem dX7_find_51 : decode prog_9_method_3_code 51 = .ok (.aload_n 0, 1) := by decide +kernel
theorem dX7_find_52 : decode prog_9_method_3_code 52 = .ok (.iload_n 1, 1) := by decide +kernel
theorem dX7_find_53 : decode prog_9_method_3_code 53 = .ok (.invokevirtual 56, 3) := by decide +kernel
theorem dX7_find_56 : decode prog_9_method_3_code 56 = .ok (.invokevirtual 60, 3) := by decide +kernel
theorem dX7_find_59 : decode prog_9_method_3_code 59 = .ok (.istore_n 2, 1) := by decide +kernel
theorem dX7_find_60 : decode prog_9_method_3_code 60 = .ok (.iinc 3 1, 3) := by decide +kernel
theorem dX7_find_63 : decode prog_9_method_3_code 63 = .ok (.goto (-24), 3) := by decide +kernel
theorem dX7_find_66 : decode prog_9_method_3_code 66 = .ok (.aload_n 0, 1) := by decide +kernel
theorem dX7_find_67 : decode prog_9_method_3_code 67 = .ok (.getfield 19, 3) := by decide +kernel
theorem dX7_find_70 : decode prog_9_method_3_code 70 = .ok (.iload_n 1, 1) := by decide +kernel
theorem dX7_find_71 : decode prog_9_method_3_code 71 = .ok (.iaload, 1) := by decide +kernel
theorem dX7_find_72 : decode prog_9_method_3_code 72 = .ok (.ireturn, 1) := by decide +kernel
theorem dX7_clearWishes_0 : decode prog_9_method_4_code 0 = .ok (.iconst 0, 1) := by decide +kernel
theorem dX7_clearWishes_1 : decode prog_9_method_4_code 1 = .ok (.istore_n 1, 1) := by decide +kernel
theorem dX7_clearWishes_2 : decode prog_9_method_4_code 2 = .ok (.iload_n 1, 1) := by decide +kernel
theorem dX7_clearWishes_3 : decode prog_9_method_4_code 3 = .ok (.iconst 4, 1) := by decide +kernel
theorem dX7_clearWishes_4 : decode prog_9_method_4_code 4 = .ok (.if_icmp .ge 16, 3) := by decide +kernel
theorem dX7_clearWishes_7 : decode prog_9_method_4_code 7 = .ok (.aload_n 0, 1) := by decide +kernel
theorem dX7_clearWishes_8 : decode prog_9_method_4_code 8 = .ok (.getfield 9, 3) := by decide +kernel
theorem dX7_clearWishes_11 : decode prog_9_method_4_code 11 = .ok (.iload_n 1, 1) := by decide +kernel
theorem dX7_clearWishes_12 : decode prog_9_method_4_code 12 = .ok (.iconst 0, 1) := by decide +kernel
theorem dX7_clearWishes_13 : decode prog_9_method_4_code 13 = .ok (.iastore, 1) := by decide +kernel
theorem dX7_clearWishes_14 : decode prog_9_method_4_code 14 = .ok (.iinc 1 1, 3) := by decide +kernel
theorem dX7_clearWishes_17 : decode prog_9_method_4_code 17 = .ok (.goto (-15), 3) := by decide +kernel
theorem dX7_clearWishes_20 : decode prog_9_method_4_code 20 = .ok (.return_, 1) := by decide +kernel
theorem dX7_wishAnew_0 : decode prog_9_method_5_code 0 = .ok (.iconst 3, 1) := by decide +kernel
theorem dX7_wishAnew_1 : decode prog_9_method_5_code 1 = .ok (.istore_n 2, 1) := by decide +kernel
theorem dX7_wishAnew_2 : decode prog_9_method_5_code 2 = .ok (.iload_n 2, 1) := by decide +kernel
theorem dX7_wishAnew_3 : decode prog_9_method_5_code 3 = .ok (.iload_n 1, 1) := by decide +kernel
theorem dX7_wishAnew_4 : decode prog_9_method_5_code 4 = .ok (.if_icmp .le 16, 3) := by decide +kernel
theorem dX7_wishAnew_7 : decode prog_9_method_5_code 7 = .ok (.aload_n 0, 1) := by decide +kernel
theorem dX7_wishAnew_8 : decode prog_9_method_5_code 8 = .ok (.getfield 9, 3) := by decide +kernel
theorem dX7_wishAnew_11 : decode prog_9_method_5_code 11 = .ok (.iload_n 2, 1) := by decide +kernel
theorem dX7_wishAnew_12 : decode prog_9_method_5_code 12 = .ok (.iconst 0, 1) := by decide +kernel
theorem dX7_wishAnew_13 : decode prog_9_method_5_code 13 = .ok (.iastore, 1) := by decide +kernel
theorem dX7_wishAnew_14 : decode prog_9_method_5_code 14 = .ok (.iinc 2 (-1), 3) := by decide +kernel
theorem dX7_wishAnew_17 : decode prog_9_method_5_code 17 = .ok (.goto (-15), 3) := by decide +kernel
theorem dX7_wishAnew_20 : decode prog_9_method_5_code 20 = .ok (.iload_n 1, 1) := by decide +kernel
theorem dX7_wishAnew_21 : decode prog_9_method_5_code 21 = .ok (.iconst 3, 1) := by decide +kernel
theorem dX7_wishAnew_22 : decode prog_9_method_5_code 22 = .ok (.invokestatic 64, 3) := by decide +kernel
theorem dX7_wishAnew_25 : decode prog_9_method_5_code 25 = .ok (.istore_n 2, 1) := by decide +kernel
theorem dX7_wishAnew_26 : decode prog_9_method_5_code 26 = .ok (.iload_n 2, 1) := by decide +kernel
theorem dX7_wishAnew_27 : decode prog_9_method_5_code 27 = .ok (.ifCond .lt 47, 3) := by decide +kernel
theorem dX7_wishAnew_30 : decode prog_9_method_5_code 30 = .ok (.aload_n 0, 1) := by decide +kernel
theorem dX7_wishAnew_31 : decode prog_9_method_5_code 31 = .ok (.getfield 9, 3) := by decide +kernel
theorem dX7_wishAnew_34 : decode prog_9_method_5_code 34 = .ok (.iload_n 2, 1) := by decide +kernel
theorem dX7_wishAnew_35 : decode prog_9_method_5_code 35 = .ok (.dup2, 1) := by decide +kernel
theorem dX7_wishAnew_36 : decode prog_9_method_5_code 36 = .ok (.iaload, 1) := by decide +kernel
theorem dX7_wishAnew_37 : decode prog_9_method_5_code 37 = .ok (.iconst 1, 1) := by decide +kernel
theorem dX7_wishAnew_38 : decode prog_9_method_5_code 38 = .ok (.iadd, 1) := by decide +kernel
theorem dX7_wishAnew_39 : decode prog_9_method_5_code 39 = .ok (.iastore, 1) := by decide +kernel
theorem dX7_wishAnew_40 : decode prog_9_method_5_code 40 = .ok (.aload_n 0, 1) := by decide +kernel
theorem dX7_wishAnew_41 : decode prog_9_method_5_code 41 = .ok (.getfield 9, 3) := by decide +kernel
theorem dX7_wishAnew_44 : decode prog_9_method_5_code 44 = .ok (.iload_n 2, 1) := by decide +kernel
theorem dX7_wishAnew_45 : decode prog_9_method_5_code 45 = .ok (.iaload, 1) := by decide +kernel
theorem dX7_wishAnew_46 : decode prog_9_method_5_code 46 = .ok (.aload_n 0, 1) := by decide +kernel
theorem dX7_wishAnew_47 : decode prog_9_method_5_code 47 = .ok (.getfield 32, 3) := by decide +kernel
theorem dX7_wishAnew_50 : decode prog_9_method_5_code 50 = .ok (.getfield 70, 3) := by decide +kernel
theorem dX7_wishAnew_53 : decode prog_9_method_5_code 53 = .ok (.getfield 76, 3) := by decide +kernel
theorem dX7_wishAnew_56 : decode prog_9_method_5_code 56 = .ok (.if_icmp .ge 5, 3) := by decide +kernel
theorem dX7_wishAnew_59 : decode prog_9_method_5_code 59 = .ok (.iconst 1, 1) := by decide +kernel
theorem dX7_wishAnew_60 : decode prog_9_method_5_code 60 = .ok (.ireturn, 1) := by decide +kernel
theorem dX7_wishAnew_61 : decode prog_9_method_5_code 61 = .ok (.aload_n 0, 1) := by decide +kernel
theorem dX7_wishAnew_62 : decode prog_9_method_5_code 62 = .ok (.getfield 9, 3) := by decide +kernel
theorem dX7_wishAnew_65 : decode prog_9_method_5_code 65 = .ok (.iload_n 2, 1) := by decide +kernel
theorem dX7_wishAnew_66 : decode prog_9_method_5_code 66 = .ok (.iconst 0, 1) := by decide +kernel
theorem dX7_wishAnew_67 : decode prog_9_method_5_code 67 = .ok (.iastore, 1) := by decide +kernel
theorem dX7_wishAnew_68 : decode prog_9_method_5_code 68 = .ok (.iinc 2 (-1), 3) := by decide +kernel
theorem dX7_wishAnew_71 : decode prog_9_method_5_code 71 = .ok (.goto (-45), 3) := by decide +kernel
theorem dX7_wishAnew_74 : decode prog_9_method_5_code 74 = .ok (.iconst 0, 1) := by decide +kernel
theorem dX7_wishAnew_75 : decode prog_9_method_5_code 75 = .ok (.ireturn, 1) := by decide +kernel
theorem dX7_tryRow_0 : decode prog_9_method_6_code 0 = .ok (.aload_n 0, 1) := by decide +kernel
theorem dX7_tryRow_1 : decode prog_9_method_6_code 1 = .ok (.getfield 41, 3) := by decide +kernel
theorem dX7_tryRow_4 : decode prog_9_method_6_code 4 = .ok (.aload_n 0, 1) := by decide +kernel
theorem dX7_tryRow_5 : decode prog_9_method_6_code 5 = .ok (.getfield 32, 3) := by decide +kernel
theorem dX7_tryRow_8 : decode prog_9_method_6_code 8 = .ok (.getfield 82, 3) := by decide +kernel
theorem dX7_tryRow_11 : decode prog_9_method_6_code 11 = .ok (.getfield 86, 3) := by decide +kernel
theorem dX7_tryRow_14 : decode prog_9_method_6_code 14 = .ok (.aload_n 0, 1) := by decide +kernel
theorem dX7_tryRow_15 : decode prog_9_method_6_code 15 = .ok (.getfield 32, 3) := by decide +kernel
theorem dX7_tryRow_18 : decode prog_9_method_6_code 18 = .ok (.getfield 82, 3) := by decide +kernel
theorem dX7_tryRow_21 : decode prog_9_method_6_code 21 = .ok (.getfield 91, 3) := by decide +kernel
theorem dX7_tryRow_24 : decode prog_9_method_6_code 24 = .ok (.invokevirtual 94, 3) := by decide +kernel
theorem dX7_tryRow_27 : decode prog_9_method_6_code 27 = .ok (.iconst 0, 1) := by decide +kernel
theorem dX7_tryRow_28 : decode prog_9_method_6_code 28 = .ok (.istore_n 2, 1) := by decide +kernel
theorem dX7_tryRow_29 : decode prog_9_method_6_code 29 = .ok (.iload_n 2, 1) := by decide +kernel
theorem dX7_tryRow_30 : decode prog_9_method_6_code 30 = .ok (.iload_n 1, 1) := by decide +kernel
theorem dX7_tryRow_31 : decode prog_9_method_6_code 31 = .ok (.if_icmp .ge 35, 3) := by decide +kernel
theorem dX7_tryRow_34 : decode prog_9_method_6_code 34 = .ok (.aload_n 0, 1) := by decide +kernel
theorem dX7_tryRow_35 : decode prog_9_method_6_code 35 = .ok (.iload_n 2, 1) := by decide +kernel
theorem dX7_tryRow_36 : decode prog_9_method_6_code 36 = .ok (.invokevirtual 98, 3) := by decide +kernel
theorem dX7_tryRow_39 : decode prog_9_method_6_code 39 = .ok (.ifCond .eq 19, 3) := by decide +kernel
theorem dX7_tryRow_42 : decode prog_9_method_6_code 42 = .ok (.aload_n 0, 1) := by decide +kernel
theorem dX7_tryRow_43 : decode prog_9_method_6_code 43 = .ok (.getfield 41, 3) := by decide +kernel
theorem dX7_tryRow_46 : decode prog_9_method_6_code 46 = .ok (.getfield 101, 3) := by decide +kernel
theorem dX7_tryRow_49 : decode prog_9_method_6_code 49 = .ok (.aload_n 0, 1) := by decide +kernel
theorem dX7_tryRow_50 : decode prog_9_method_6_code 50 = .ok (.getfield 19, 3) := by decide +kernel
theorem dX7_tryRow_53 : decode prog_9_method_6_code 53 = .ok (.iload_n 1, 1) := by decide +kernel
theorem dX7_tryRow_54 : decode prog_9_method_6_code 54 = .ok (.iaload, 1) := by decide +kernel
theorem dX7_tryRow_55 : decode prog_9_method_6_code 55 = .ok (.if_icmp .lt 5, 3) := by decide +kernel
theorem dX7_tryRow_58 : decode prog_9_method_6_code 58 = .ok (.iload_n 2, 1) := by decide +kernel
theorem dX7_tryRow_59 : decode prog_9_method_6_code 59 = .ok (.ireturn, 1) := by decide +kernel
theorem dX7_tryRow_60 : decode prog_9_method_6_code 60 = .ok (.iinc 2 1, 3) := by decide +kernel
theorem dX7_tryRow_63 : decode prog_9_method_6_code 63 = .ok (.goto (-34), 3) := by decide +kernel
theorem dX7_tryRow_66 : decode prog_9_method_6_code 66 = .ok (.iload_n 1, 1) := by decide +kernel
theorem dX7_tryRow_67 : decode prog_9_method_6_code 67 = .ok (.istore_n 2, 1) := by decide +kernel
theorem dX7_tryRow_68 : decode prog_9_method_6_code 68 = .ok (.iload_n 2, 1) := by decide +kernel
theorem dX7_tryRow_69 : decode prog_9_method_6_code 69 = .ok (.aload_n 0, 1) := by decide +kernel
theorem dX7_tryRow_70 : decode prog_9_method_6_code 70 = .ok (.getfield 32, 3) := by decide +kernel
theorem dX7_tryRow_73 : decode prog_9_method_6_code 73 = .ok (.getfield 70, 3) := by decide +kernel
theorem dX7_tryRow_76 : decode prog_9_method_6_code 76 = .ok (.getfield 104, 3) := by decide +kernel
theorem dX7_tryRow_79 : decode prog_9_method_6_code 79 = .ok (.if_icmp .ge 33, 3) := by decide +kernel
theorem dX7_tryRow_82 : decode prog_9_method_6_code 82 = .ok (.aload_n 0, 1) := by decide +kernel
theorem dX7_tryRow_83 : decode prog_9_method_6_code 83 = .ok (.getfield 41, 3) := by decide +kernel
theorem dX7_tryRow_86 : decode prog_9_method_6_code 86 = .ok (.getfield 101, 3) := by decide +kernel
theorem dX7_tryRow_89 : decode prog_9_method_6_code 89 = .ok (.aload_n 0, 1) := by decide +kernel
theorem dX7_tryRow_90 : decode prog_9_method_6_code 90 = .ok (.getfield 19, 3) := by decide +kernel
theorem dX7_tryRow_93 : decode prog_9_method_6_code 93 = .ok (.iload_n 1, 1) := by decide +kernel
theorem dX7_tryRow_94 : decode prog_9_method_6_code 94 = .ok (.iaload, 1) := by decide +kernel
theorem dX7_tryRow_95 : decode prog_9_method_6_code 95 = .ok (.if_icmp .ge 17, 3) := by decide +kernel
theorem dX7_tryRow_98 : decode prog_9_method_6_code 98 = .ok (.aload_n 0, 1) := by decide +kernel
theorem dX7_tryRow_99 : decode prog_9_method_6_code 99 = .ok (.getfield 41, 3) := by decide +kernel
theorem dX7_tryRow_102 : decode prog_9_method_6_code 102 = .ok (.iload_n 2, 1) := by decide +kernel
theorem dX7_tryRow_103 : decode prog_9_method_6_code 103 = .ok (.invokevirtual 107, 3) := by decide +kernel
theorem dX7_tryRow_106 : decode prog_9_method_6_code 106 = .ok (.iinc 2 1, 3) := by decide +kernel
theorem dX7_tryRow_109 : decode prog_9_method_6_code 109 = .ok (.goto (-41), 3) := by decide +kernel
theorem dX7_tryRow_112 : decode prog_9_method_6_code 112 = .ok (.aload_n 0, 1) := by decide +kernel
theorem dX7_tryRow_113 : decode prog_9_method_6_code 113 = .ok (.getfield 41, 3) := by decide +kernel
theorem dX7_tryRow_116 : decode prog_9_method_6_code 116 = .ok (.getfield 101, 3) := by decide +kernel
theorem dX7_tryRow_119 : decode prog_9_method_6_code 119 = .ok (.aload_n 0, 1) := by decide +kernel
theorem dX7_tryRow_120 : decode prog_9_method_6_code 120 = .ok (.getfield 19, 3) := by decide +kernel
theorem dX7_tryRow_123 : decode prog_9_method_6_code 123 = .ok (.iload_n 1, 1) := by decide +kernel
theorem dX7_tryRow_124 : decode prog_9_method_6_code 124 = .ok (.iaload, 1) := by decide +kernel
theorem dX7_tryRow_125 : decode prog_9_method_6_code 125 = .ok (.if_icmp .ge 35, 3) := by decide +kernel
theorem dX7_tryRow_128 : decode prog_9_method_6_code 128 = .ok (.aload_n 0, 1) := by decide +kernel
theorem dX7_tryRow_129 : decode prog_9_method_6_code 129 = .ok (.getfield 19, 3) := by decide +kernel
theorem dX7_tryRow_132 : decode prog_9_method_6_code 132 = .ok (.iload_n 1, 1) := by decide +kernel
theorem dX7_tryRow_133 : decode prog_9_method_6_code 133 = .ok (.aload_n 0, 1) := by decide +kernel
theorem dX7_tryRow_134 : decode prog_9_method_6_code 134 = .ok (.getfield 41, 3) := by decide +kernel
theorem dX7_tryRow_137 : decode prog_9_method_6_code 137 = .ok (.getfield 101, 3) := by decide +kernel
theorem dX7_tryRow_140 : decode prog_9_method_6_code 140 = .ok (.iastore, 1) := by decide +kernel
theorem dX7_tryRow_141 : decode prog_9_method_6_code 141 = .ok (.aload_n 0, 1) := by decide +kernel
theorem dX7_tryRow_142 : decode prog_9_method_6_code 142 = .ok (.getfield 41, 3) := by decide +kernel
theorem dX7_tryRow_145 : decode prog_9_method_6_code 145 = .ok (.getfield 111, 3) := by decide +kernel
theorem dX7_tryRow_148 : decode prog_9_method_6_code 148 = .ok (.iconst 0, 1) := by decide +kernel
theorem dX7_tryRow_149 : decode prog_9_method_6_code 149 = .ok (.aload_n 0, 1) := by decide +kernel
theorem dX7_tryRow_150 : decode prog_9_method_6_code 150 = .ok (.getfield 22, 3) := by decide +kernel
theorem dX7_tryRow_153 : decode prog_9_method_6_code 153 = .ok (.iload_n 1, 1) := by decide +kernel
theorem dX7_tryRow_154 : decode prog_9_method_6_code 154 = .ok (.iconst 4, 1) := by decide +kernel
theorem dX7_tryRow_155 : decode prog_9_method_6_code 155 = .ok (.imul, 1) := by decide +kernel
theorem dX7_tryRow_156 : decode prog_9_method_6_code 156 = .ok (.iload_n 1, 1) := by decide +kernel
theorem dX7_tryRow_157 : decode prog_9_method_6_code 157 = .ok (.invokestatic 114, 3) := by decide +kernel
theorem dX7_tryRow_160 : decode prog_9_method_6_code 160 = .ok (.iload_n 1, 1) := by decide +kernel
theorem dX7_tryRow_161 : decode prog_9_method_6_code 161 = .ok (.iconst 1, 1) := by decide +kernel
theorem dX7_tryRow_162 : decode prog_9_method_6_code 162 = .ok (.isub, 1) := by decide +kernel
theorem dX7_tryRow_163 : decode prog_9_method_6_code 163 = .ok (.ireturn, 1) := by decide +kernel
theorem dX7_meetWish_0 : decode prog_9_method_7_code 0 = .ok (.aload_n 0, 1) := by decide +kernel
theorem dX7_meetWish_1 : decode prog_9_method_7_code 1 = .ok (.getfield 9, 3) := by decide +kernel
theorem dX7_meetWish_4 : decode prog_9_method_7_code 4 = .ok (.iload_n 1, 1) := by decide +kernel
theorem dX7_meetWish_5 : decode prog_9_method_7_code 5 = .ok (.iaload, 1) := by decide +kernel
theorem dX7_meetWish_6 : decode prog_9_method_7_code 6 = .ok (.istore_n 2, 1) := by decide +kernel
theorem dX7_meetWish_7 : decode prog_9_method_7_code 7 = .ok (.aload_n 0, 1) := by decide +kernel
theorem dX7_meetWish_8 : decode prog_9_method_7_code 8 = .ok (.getfield 41, 3) := by decide +kernel
theorem dX7_meetWish_11 : decode prog_9_method_7_code 11 = .ok (.iload_n 1, 1) := by decide +kernel
theorem dX7_meetWish_12 : decode prog_9_method_7_code 12 = .ok (.invokevirtual 120, 3) := by decide +kernel
theorem dX7_meetWish_15 : decode prog_9_method_7_code 15 = .ok (.istore_n 3, 1) := by decide +kernel
theorem dX7_meetWish_16 : decode prog_9_method_7_code 16 = .ok (.iload_n 3, 1) := by decide +kernel
theorem dX7_meetWish_17 : decode prog_9_method_7_code 17 = .ok (.bipush (-3), 2) := by decide +kernel
theorem dX7_meetWish_19 : decode prog_9_method_7_code 19 = .ok (.if_icmp .ne 7, 3) := by decide +kernel
theorem dX7_meetWish_22 : decode prog_9_method_7_code 22 = .ok (.iconst 1, 1) := by decide +kernel
theorem dX7_meetWish_23 : decode prog_9_method_7_code 23 = .ok (.goto 4, 3) := by decide +kernel
theorem dX7_meetWish_26 : decode prog_9_method_7_code 26 = .ok (.iconst 0, 1) := by decide +kernel
theorem dX7_meetWish_27 : decode prog_9_method_7_code 27 = .ok (.istore 4, 2) := by decide +kernel
theorem dX7_meetWish_29 : decode prog_9_method_7_code 29 = .ok (.iload 4, 2) := by decide +kernel
theorem dX7_meetWish_31 : decode prog_9_method_7_code 31 = .ok (.ifCond .eq 21, 3) := by decide +kernel
theorem dX7_meetWish_34 : decode prog_9_method_7_code 34 = .ok (.aload_n 0, 1) := by decide +kernel
theorem dX7_meetWish_35 : decode prog_9_method_7_code 35 = .ok (.getfield 41, 3) := by decide +kernel
theorem dX7_meetWish_38 : decode prog_9_method_7_code 38 = .ok (.iload_n 1, 1) := by decide +kernel
theorem dX7_meetWish_39 : decode prog_9_method_7_code 39 = .ok (.invokevirtual 123, 3) := by decide +kernel
theorem dX7_meetWish_42 : decode prog_9_method_7_code 42 = .ok (.iload_n 2, 1) := by decide +kernel
theorem dX7_meetWish_43 : decode prog_9_method_7_code 43 = .ok (.invokestatic 126, 3) := by decide +kernel
theorem dX7_meetWish_46 : decode prog_9_method_7_code 46 = .ok (.ifCond .ne 12, 3) := by decide +kernel
theorem dX7_meetWish_49 : decode prog_9_method_7_code 49 = .ok (.goto 7, 3) := by decide +kernel
theorem dX7_meetWish_52 : decode prog_9_method_7_code 52 = .ok (.iload_n 2, 1) := by decide +kernel
theorem dX7_meetWish_53 : decode prog_9_method_7_code 53 = .ok (.ifCond .eq 5, 3) := by decide +kernel
theorem dX7_meetWish_56 : decode prog_9_method_7_code 56 = .ok (.iconst 0, 1) := by decide +kernel
theorem dX7_meetWish_57 : decode prog_9_method_7_code 57 = .ok (.ireturn, 1) := by decide +kernel
theorem dX7_meetWish_58 : decode prog_9_method_7_code 58 = .ok (.aload_n 0, 1) := by decide +kernel
theorem dX7_meetWish_59 : decode prog_9_method_7_code 59 = .ok (.getfield 41, 3) := by decide +kernel
theorem dX7_meetWish_62 : decode prog_9_method_7_code 62 = .ok (.iload_n 1, 1) := by decide +kernel
theorem dX7_meetWish_63 : decode prog_9_method_7_code 63 = .ok (.iload 4, 2) := by decide +kernel
theorem dX7_meetWish_65 : decode prog_9_method_7_code 65 = .ok (.ifCond .eq 7, 3) := by decide +kernel
theorem dX7_meetWish_68 : decode prog_9_method_7_code 68 = .ok (.iload_n 2, 1) := by decide +kernel
theorem dX7_meetWish_69 : decode prog_9_method_7_code 69 = .ok (.goto 4, 3) := by decide +kernel
theorem dX7_meetWish_72 : decode prog_9_method_7_code 72 = .ok (.iload_n 3, 1) := by decide +kernel
theorem dX7_meetWish_73 : decode prog_9_method_7_code 73 = .ok (.invokevirtual 130, 3) := by decide +kernel
theorem dX7_meetWish_76 : decode prog_9_method_7_code 76 = .ok (.iconst 1, 1) := by decide +kernel
theorem dX7_meetWish_77 : decode prog_9_method_7_code 77 = .ok (.ireturn, 1) := by decide +kernel
theorem dX7_findChains_0 : decode prog_9_method_8_code 0 = .ok (.aload_n 0, 1) := by decide +kernel
theorem dX7_findChains_1 : decode prog_9_method_8_code 1 = .ok (.getfield 25, 3) := by decide +kernel
theorem dX7_findChains_4 : decode prog_9_method_8_code 4 = .ok (.ifCond .eq 4, 3) := by decide +kernel
theorem dX7_findChains_7 : decode prog_9_method_8_code 7 = .ok (.return_, 1) := by decide +kernel
theorem dX7_findChains_8 : decode prog_9_method_8_code 8 = .ok (.aload_n 0, 1) := by decide +kernel
theorem dX7_findChains_9 : decode prog_9_method_8_code 9 = .ok (.iconst 1, 1) := by decide +kernel
theorem dX7_findChains_10 : decode prog_9_method_8_code 10 = .ok (.putfield 25, 3) := by decide +kernel
theorem dX7_findChains_13 : decode prog_9_method_8_code 13 = .ok (.iconst 0, 1) := by decide +kernel
theorem dX7_findChains_14 : decode prog_9_method_8_code 14 = .ok (.istore_n 1, 1) := by decide +kernel
theorem dX7_findChains_15 : decode prog_9_method_8_code 15 = .ok (.iload_n 1, 1) := by decide +kernel
theorem dX7_findChains_16 : decode prog_9_method_8_code 16 = .ok (.aload_n 0, 1) := by decide +kernel
theorem dX7_findChains_17 : decode prog_9_method_8_code 17 = .ok (.getfield 29, 3) := by decide +kernel
theorem dX7_findChains_20 : decode prog_9_method_8_code 20 = .ok (.arraylength, 1) := by decide +kernel
theorem dX7_findChains_21 : decode prog_9_method_8_code 21 = .ok (.if_icmp .ge 17, 3) := by decide +kernel
theorem dX7_findChains_24 : decode prog_9_method_8_code 24 = .ok (.aload_n 0, 1) := by decide +kernel
theorem dX7_findChains_25 : decode prog_9_method_8_code 25 = .ok (.getfield 29, 3) := by decide +kernel
theorem dX7_findChains_28 : decode prog_9_method_8_code 28 = .ok (.iload_n 1, 1) := by decide +kernel
theorem dX7_findChains_29 : decode prog_9_method_8_code 29 = .ok (.bipush (-2), 2) := by decide +kernel
theorem dX7_findChains_31 : decode prog_9_method_8_code 31 = .ok (.iastore, 1) := by decide +kernel
theorem dX7_findChains_32 : decode prog_9_method_8_code 32 = .ok (.iinc 1 1, 3) := by decide +kernel
theorem dX7_findChains_35 : decode prog_9_method_8_code 35 = .ok (.goto (-20), 3) := by decide +kernel
theorem dX7_findChains_38 : decode prog_9_method_8_code 38 = .ok (.iconst 0, 1) := by decide +kernel
theorem dX7_findChains_39 : decode prog_9_method_8_code 39 = .ok (.istore_n 1, 1) := by decide +kernel
theorem dX7_findChains_40 : decode prog_9_method_8_code 40 = .ok (.iload_n 1, 1) := by decide +kernel
theorem dX7_findChains_41 : decode prog_9_method_8_code 41 = .ok (.aload_n 0, 1) := by decide +kernel
theorem dX7_findChains_42 : decode prog_9_method_8_code 42 = .ok (.getfield 32, 3) := by decide +kernel
theorem dX7_findChains_45 : decode prog_9_method_8_code 45 = .ok (.getfield 70, 3) := by decide +kernel
theorem dX7_findChains_48 : decode prog_9_method_8_code 48 = .ok (.getfield 133, 3) := by decide +kernel
theorem dX7_findChains_51 : decode prog_9_method_8_code 51 = .ok (.if_icmp .ge 32, 3) := by decide +kernel
theorem dX7_findChains_54 : decode prog_9_method_8_code 54 = .ok (.aload_n 0, 1) := by decide +kernel
theorem dX7_findChains_55 : decode prog_9_method_8_code 55 = .ok (.getfield 29, 3) := by decide +kernel
theorem dX7_findChains_58 : decode prog_9_method_8_code 58 = .ok (.iload_n 1, 1) := by decide +kernel
theorem dX7_findChains_59 : decode prog_9_method_8_code 59 = .ok (.bipush 10, 2) := by decide +kernel
theorem dX7_findChains_61 : decode prog_9_method_8_code 61 = .ok (.imul, 1) := by decide +kernel
theorem dX7_findChains_62 : decode prog_9_method_8_code 62 = .ok (.aload_n 0, 1) := by decide +kernel
theorem dX7_findChains_63 : decode prog_9_method_8_code 63 = .ok (.getfield 32, 3) := by decide +kernel
theorem dX7_findChains_66 : decode prog_9_method_8_code 66 = .ok (.getfield 70, 3) := by decide +kernel
theorem dX7_findChains_69 : decode prog_9_method_8_code 69 = .ok (.getfield 136, 3) := by decide +kernel
theorem dX7_findChains_72 : decode prog_9_method_8_code 72 = .ok (.iload_n 1, 1) := by decide +kernel
theorem dX7_findChains_73 : decode prog_9_method_8_code 73 = .ok (.iaload, 1) := by decide +kernel
theorem dX7_findChains_74 : decode prog_9_method_8_code 74 = .ok (.iadd, 1) := by decide +kernel
theorem dX7_findChains_75 : decode prog_9_method_8_code 75 = .ok (.iconst 0, 1) := by decide +kernel
theorem dX7_findChains_76 : decode prog_9_method_8_code 76 = .ok (.iastore, 1) := by decide +kernel
theorem dX7_findChains_77 : decode prog_9_method_8_code 77 = .ok (.iinc 1 1, 3) := by decide +kernel
theorem dX7_findChains_80 : decode prog_9_method_8_code 80 = .ok (.goto (-40), 3) := by decide +kernel
theorem dX7_findChains_83 : decode prog_9_method_8_code 83 = .ok (.aload_n 0, 1) := by decide +kernel
theorem dX7_findChains_84 : decode prog_9_method_8_code 84 = .ok (.invokevirtual 53, 3) := by decide +kernel
theorem dX7_findChains_87 : decode prog_9_method_8_code 87 = .ok (.iconst 1, 1) := by decide +kernel
theorem dX7_findChains_88 : decode prog_9_method_8_code 88 = .ok (.istore_n 1, 1) := by decide +kernel
theorem dX7_findChains_89 : decode prog_9_method_8_code 89 = .ok (.iconst 0, 1) := by decide +kernel
theorem dX7_findChains_90 : decode prog_9_method_8_code 90 = .ok (.istore_n 2, 1) := by decide +kernel
theorem dX7_findChains_91 : decode prog_9_method_8_code 91 = .ok (.iload_n 2, 1) := by decide +kernel
theorem dX7_findChains_92 : decode prog_9_method_8_code 92 = .ok (.sipush 10000, 3) := by decide +kernel
theorem dX7_findChains_95 : decode prog_9_method_8_code 95 = .ok (.if_icmp .ge 22, 3) := by decide +kernel
theorem dX7_findChains_98 : decode prog_9_method_8_code 98 = .ok (.iload_n 1, 1) := by decide +kernel
theorem dX7_findChains_99 : decode prog_9_method_8_code 99 = .ok (.ifCond .eq 18, 3) := by decide +kernel
theorem dX7_findChains_102 : decode prog_9_method_8_code 102 = .ok (.aload_n 0, 1) := by decide +kernel
theorem dX7_findChains_103 : decode prog_9_method_8_code 103 = .ok (.aload_n 0, 1) := by decide +kernel
theorem dX7_findChains_104 : decode prog_9_method_8_code 104 = .ok (.invokevirtual 139, 3) := by decide +kernel
theorem dX7_findChains_107 : decode prog_9_method_8_code 107 = .ok (.invokevirtual 60, 3) := by decide +kernel
theorem dX7_findChains_110 : decode prog_9_method_8_code 110 = .ok (.istore_n 1, 1) := by decide +kernel
theorem dX7_findChains_111 : decode prog_9_method_8_code 111 = .ok (.iinc 2 1, 3) := by decide +kernel
theorem dX7_findChains_114 : decode prog_9_method_8_code 114 = .ok (.goto (-23), 3) := by decide +kernel
theorem dX7_findChains_117 : decode prog_9_method_8_code 117 = .ok (.return_, 1) := by decide +kernel
theorem dX7_passNotes_0 : decode prog_9_method_9_code 0 = .ok (.aload_n 0, 1) := by decide +kernel
theorem dX7_passNotes_1 : decode prog_9_method_9_code 1 = .ok (.getfield 41, 3) := by decide +kernel
theorem dX7_passNotes_4 : decode prog_9_method_9_code 4 = .ok (.aload_n 0, 1) := by decide +kernel
theorem dX7_passNotes_5 : decode prog_9_method_9_code 5 = .ok (.getfield 32, 3) := by decide +kernel
theorem dX7_passNotes_8 : decode prog_9_method_9_code 8 = .ok (.getfield 82, 3) := by decide +kernel
theorem dX7_passNotes_11 : decode prog_9_method_9_code 11 = .ok (.getfield 86, 3) := by decide +kernel
theorem dX7_passNotes_14 : decode prog_9_method_9_code 14 = .ok (.aload_n 0, 1) := by decide +kernel
theorem dX7_passNotes_15 : decode prog_9_method_9_code 15 = .ok (.getfield 32, 3) := by decide +kernel
theorem dX7_passNotes_18 : decode prog_9_method_9_code 18 = .ok (.getfield 82, 3) := by decide +kernel
theorem dX7_passNotes_21 : decode prog_9_method_9_code 21 = .ok (.getfield 91, 3) := by decide +kernel
theorem dX7_passNotes_24 : decode prog_9_method_9_code 24 = .ok (.invokevirtual 94, 3) := by decide +kernel
theorem dX7_passNotes_27 : decode prog_9_method_9_code 27 = .ok (.aload_n 0, 1) := by decide +kernel
theorem dX7_passNotes_28 : decode prog_9_method_9_code 28 = .ok (.getfield 48, 3) := by decide +kernel
theorem dX7_passNotes_31 : decode prog_9_method_9_code 31 = .ok (.invokevirtual 143, 3) := by decide +kernel
theorem dX7_passNotes_34 : decode prog_9_method_9_code 34 = .ok (.iconst 0, 1) := by decide +kernel
theorem dX7_passNotes_35 : decode prog_9_method_9_code 35 = .ok (.istore_n 1, 1) := by decide +kernel
theorem dX7_passNotes_36 : decode prog_9_method_9_code 36 = .ok (.iload_n 1, 1) := by decide +kernel
theorem dX7_passNotes_37 : decode prog_9_method_9_code 37 = .ok (.iconst 4, 1) := by decide +kernel
theorem dX7_passNotes_38 : decode prog_9_method_9_code 38 = .ok (.if_icmp .ge 56, 3) := by decide +kernel
theorem dX7_passNotes_41 : decode prog_9_method_9_code 41 = .ok (.aload_n 0, 1) := by decide +kernel
theorem dX7_passNotes_42 : decode prog_9_method_9_code 42 = .ok (.iload_n 1, 1) := by decide +kernel
theorem dX7_passNotes_43 : decode prog_9_method_9_code 43 = .ok (.invokevirtual 98, 3) := by decide +kernel
theorem dX7_passNotes_46 : decode prog_9_method_9_code 46 = .ok (.ifCond .ne 5, 3) := by decide +kernel
theorem dX7_passNotes_49 : decode prog_9_method_9_code 49 = .ok (.iload_n 1, 1) := by decide +kernel
theorem dX7_passNotes_50 : decode prog_9_method_9_code 50 = .ok (.ireturn, 1) := by decide +kernel
theorem dX7_passNotes_51 : decode prog_9_method_9_code 51 = .ok (.aload_n 0, 1) := by decide +kernel
theorem dX7_passNotes_52 : decode prog_9_method_9_code 52 = .ok (.getfield 41, 3) := by decide +kernel
theorem dX7_passNotes_55 : decode prog_9_method_9_code 55 = .ok (.getfield 111, 3) := by decide +kernel
theorem dX7_passNotes_58 : decode prog_9_method_9_code 58 = .ok (.iload_n 1, 1) := by decide +kernel
theorem dX7_passNotes_59 : decode prog_9_method_9_code 59 = .ok (.iaload, 1) := by decide +kernel
theorem dX7_passNotes_60 : decode prog_9_method_9_code 60 = .ok (.istore_n 2, 1) := by decide +kernel
theorem dX7_passNotes_61 : decode prog_9_method_9_code 61 = .ok (.iload_n 2, 1) := by decide +kernel
theorem dX7_passNotes_62 : decode prog_9_method_9_code 62 = .ok (.ifCond .lt 26, 3) := by decide +kernel
theorem dX7_passNotes_65 : decode prog_9_method_9_code 65 = .ok (.aload_n 0, 1) := by decide +kernel
theorem dX7_passNotes_66 : decode prog_9_method_9_code 66 = .ok (.getfield 48, 3) := by decide +kernel
theorem dX7_passNotes_69 : decode prog_9_method_9_code 69 = .ok (.iload_n 2, 1) := by decide +kernel
theorem dX7_passNotes_70 : decode prog_9_method_9_code 70 = .ok (.aload_n 0, 1) := by decide +kernel
theorem dX7_passNotes_71 : decode prog_9_method_9_code 71 = .ok (.getfield 41, 3) := by decide +kernel
theorem dX7_passNotes_74 : decode prog_9_method_9_code 74 = .ok (.getfield 145, 3) := by decide +kernel
theorem dX7_passNotes_77 : decode prog_9_method_9_code 77 = .ok (.invokevirtual 148, 3) := by decide +kernel
theorem dX7_passNotes_80 : decode prog_9_method_9_code 80 = .ok (.aload_n 0, 1) := by decide +kernel
theorem dX7_passNotes_81 : decode prog_9_method_9_code 81 = .ok (.iload_n 2, 1) := by decide +kernel
theorem dX7_passNotes_82 : decode prog_9_method_9_code 82 = .ok (.iload_n 1, 1) := by decide +kernel
theorem dX7_passNotes_83 : decode prog_9_method_9_code 83 = .ok (.iconst 1, 1) := by decide +kernel
theorem dX7_passNotes_84 : decode prog_9_method_9_code 84 = .ok (.iadd, 1) := by decide +kernel
theorem dX7_passNotes_85 : decode prog_9_method_9_code 85 = .ok (.invokevirtual 151, 3) := by decide +kernel
theorem dX7_passNotes_88 : decode prog_9_method_9_code 88 = .ok (.iinc 1 1, 3) := by decide +kernel
theorem dX7_passNotes_91 : decode prog_9_method_9_code 91 = .ok (.goto (-55), 3) := by decide +kernel
theorem dX7_passNotes_94 : decode prog_9_method_9_code 94 = .ok (.iconst 3, 1) := by decide +kernel
theorem dX7_passNotes_95 : decode prog_9_method_9_code 95 = .ok (.ireturn, 1) := by decide +kernel
theorem dX7_learn_0 : decode prog_9_method_10_code 0 = .ok (.iconst 0, 1) := by decide +kernel
theorem dX7_learn_1 : decode prog_9_method_10_code 1 = .ok (.istore_n 3, 1) := by decide +kernel
theorem dX7_learn_2 : decode prog_9_method_10_code 2 = .ok (.iload_n 3, 1) := by decide +kernel
theorem dX7_learn_3 : decode prog_9_method_10_code 3 = .ok (.aload_n 0, 1) := by decide +kernel
theorem dX7_learn_4 : decode prog_9_method_10_code 4 = .ok (.getfield 32, 3) := by decide +kernel
theorem dX7_learn_7 : decode prog_9_method_10_code 7 = .ok (.getfield 70, 3) := by decide +kernel
theorem dX7_learn_10 : decode prog_9_method_10_code 10 = .ok (.getfield 133, 3) := by decide +kernel
theorem dX7_learn_13 : decode prog_9_method_10_code 13 = .ok (.if_icmp .ge 62, 3) := by decide +kernel
theorem dX7_learn_16 : decode prog_9_method_10_code 16 = .ok (.iload_n 3, 1) := by decide +kernel
theorem dX7_learn_17 : decode prog_9_method_10_code 17 = .ok (.bipush 10, 2) := by decide +kernel
theorem dX7_learn_19 : decode prog_9_method_10_code 19 = .ok (.imul, 1) := by decide +kernel
theorem dX7_learn_20 : decode prog_9_method_10_code 20 = .ok (.iload_n 1, 1) := by decide +kernel
theorem dX7_learn_21 : decode prog_9_method_10_code 21 = .ok (.iadd, 1) := by decide +kernel
theorem dX7_learn_22 : decode prog_9_method_10_code 22 = .ok (.istore 4, 2) := by decide +kernel
theorem dX7_learn_24 : decode prog_9_method_10_code 24 = .ok (.aload_n 0, 1) := by decide +kernel
theorem dX7_learn_25 : decode prog_9_method_10_code 25 = .ok (.getfield 48, 3) := by decide +kernel
theorem dX7_learn_28 : decode prog_9_method_10_code 28 = .ok (.getfield 154, 3) := by decide +kernel
theorem dX7_learn_31 : decode prog_9_method_10_code 31 = .ok (.iload_n 1, 1) := by decide +kernel
theorem dX7_learn_32 : decode prog_9_method_10_code 32 = .ok (.iaload, 1) := by decide +kernel
theorem dX7_learn_33 : decode prog_9_method_10_code 33 = .ok (.iload_n 3, 1) := by decide +kernel
theorem dX7_learn_34 : decode prog_9_method_10_code 34 = .ok (.invokestatic 126, 3) := by decide +kernel
theorem dX7_learn_37 : decode prog_9_method_10_code 37 = .ok (.ifCond .eq 32, 3) := by decide +kernel
theorem dX7_learn_40 : decode prog_9_method_10_code 40 = .ok (.aload_n 0, 1) := by decide +kernel
theorem dX7_learn_41 : decode prog_9_method_10_code 41 = .ok (.getfield 29, 3) := by decide +kernel
theorem dX7_learn_44 : decode prog_9_method_10_code 44 = .ok (.iload 4, 2) := by decide +kernel
theorem dX7_learn_46 : decode prog_9_method_10_code 46 = .ok (.iaload, 1) := by decide +kernel
theorem dX7_learn_47 : decode prog_9_method_10_code 47 = .ok (.ifCond .lt 14, 3) := by decide +kernel
theorem dX7_learn_50 : decode prog_9_method_10_code 50 = .ok (.aload_n 0, 1) := by decide +kernel
theorem dX7_learn_51 : decode prog_9_method_10_code 51 = .ok (.getfield 29, 3) := by decide +kernel
theorem dX7_learn_54 : decode prog_9_method_10_code 54 = .ok (.iload 4, 2) := by decide +kernel
theorem dX7_learn_56 : decode prog_9_method_10_code 56 = .ok (.iaload, 1) := by decide +kernel
theorem dX7_learn_57 : decode prog_9_method_10_code 57 = .ok (.iload_n 2, 1) := by decide +kernel
theorem dX7_learn_58 : decode prog_9_method_10_code 58 = .ok (.if_icmp .le 11, 3) := by decide +kernel
theorem dX7_learn_61 : decode prog_9_method_10_code 61 = .ok (.aload_n 0, 1) := by decide +kernel
theorem dX7_learn_62 : decode prog_9_method_10_code 62 = .ok (.getfield 29, 3) := by decide +kernel
theorem dX7_learn_65 : decode prog_9_method_10_code 65 = .ok (.iload 4, 2) := by decide +kernel
theorem dX7_learn_67 : decode prog_9_method_10_code 67 = .ok (.iload_n 2, 1) := by decide +kernel
theorem dX7_learn_68 : decode prog_9_method_10_code 68 = .ok (.iastore, 1) := by decide +kernel
theorem dX7_learn_69 : decode prog_9_method_10_code 69 = .ok (.iinc 3 1, 3) := by decide +kernel
theorem dX7_learn_72 : decode prog_9_method_10_code 72 = .ok (.goto (-70), 3) := by decide +kernel
theorem dX7_learn_75 : decode prog_9_method_10_code 75 = .ok (.return_, 1) := by decide +kernel
theorem dX9_init_0 : decode prog_11_method_1_code 0 = .ok (.aload_n 0, 1) := by decide +kernel
theorem dX9_init_1 : decode prog_11_method_1_code 1 = .ok (.invokespecial 1, 3) := by decide +kernel
theorem dX9_init_4 : decode prog_11_method_1_code 4 = .ok (.aload_n 0, 1) := by decide +kernel
theorem dX9_init_5 : decode prog_11_method_1_code 5 = .ok (.new 7, 3) := by decide +kernel
theorem dX9_init_8 : decode prog_11_method_1_code 8 = .ok (.dup, 1) := by decide +kernel
theorem dX9_init_9 : decode prog_11_method_1_code 9 = .ok (.invokespecial 9, 3) := by decide +kernel
theorem dX9_init_12 : decode prog_11_method_1_code 12 = .ok (.putfield 10, 3) := by decide +kernel
theorem dX9_init_15 : decode prog_11_method_1_code 15 = .ok (.aload_n 0, 1) := by decide +kernel
theorem dX9_init_16 : decode prog_11_method_1_code 16 = .ok (.new 16, 3) := by decide +kernel
theorem dX9_init_19 : decode prog_11_method_1_code 19 = .ok (.dup, 1) := by decide +kernel
theorem dX9_init_20 : decode prog_11_method_1_code 20 = .ok (.invokespecial 18, 3) := by decide +kernel
theorem dX9_init_23 : decode prog_11_method_1_code 23 = .ok (.putfield 19, 3) := by decide +kernel
theorem dX9_init_26 : decode prog_11_method_1_code 26 = .ok (.aload_n 0, 1) := by decide +kernel
theorem dX9_init_27 : decode prog_11_method_1_code 27 = .ok (.new 23, 3) := by decide +kernel
theorem dX9_init_30 : decode prog_11_method_1_code 30 = .ok (.dup, 1) := by decide +kernel
theorem dX9_init_31 : decode prog_11_method_1_code 31 = .ok (.invokespecial 25, 3) := by decide +kernel
theorem dX9_init_34 : decode prog_11_method_1_code 34 = .ok (.putfield 26, 3) := by decide +kernel
theorem dX9_init_37 : decode prog_11_method_1_code 37 = .ok (.return_, 1) := by decide +kernel
theorem dX8_init_0 : decode prog_10_method_1_code 0 = .ok (.aload_n 0, 1) := by decide +kernel
theorem dX8_init_1 : decode prog_10_method_1_code 1 = .ok (.invokespecial 3, 3) := by decide +kernel
theorem dX8_init_4 : decode prog_10_method_1_code 4 = .ok (.aload_n 0, 1) := by decide +kernel
theorem dX8_init_5 : decode prog_10_method_1_code 5 = .ok (.iconst 0, 1) := by decide +kernel
theorem dX8_init_6 : decode prog_10_method_1_code 6 = .ok (.putfield 9, 3) := by decide +kernel
theorem dX8_init_9 : decode prog_10_method_1_code 9 = .ok (.aload_n 0, 1) := by decide +kernel
theorem dX8_init_10 : decode prog_10_method_1_code 10 = .ok (.iconst 0, 1) := by decide +kernel
theorem dX8_init_11 : decode prog_10_method_1_code 11 = .ok (.putfield 15, 3) := by decide +kernel
theorem dX8_init_14 : decode prog_10_method_1_code 14 = .ok (.aload_n 0, 1) := by decide +kernel
theorem dX8_init_15 : decode prog_10_method_1_code 15 = .ok (.iconst (-1), 1) := by decide +kernel
theorem dX8_init_16 : decode prog_10_method_1_code 16 = .ok (.putfield 18, 3) := by decide +kernel
theorem dX8_init_19 : decode prog_10_method_1_code 19 = .ok (.aload_n 0, 1) := by decide +kernel
theorem dX8_init_20 : decode prog_10_method_1_code 20 = .ok (.iconst (-1), 1) := by decide +kernel
theorem dX8_init_21 : decode prog_10_method_1_code 21 = .ok (.putfield 21, 3) := by decide +kernel
theorem dX8_init_24 : decode prog_10_method_1_code 24 = .ok (.aload_n 0, 1) := by decide +kernel
theorem dX8_init_25 : decode prog_10_method_1_code 25 = .ok (.iconst 0, 1) := by decide +kernel
theorem dX8_init_26 : decode prog_10_method_1_code 26 = .ok (.putfield 24, 3) := by decide +kernel
theorem dX8_init_29 : decode prog_10_method_1_code 29 = .ok (.aload_n 0, 1) := by decide +kernel
theorem dX8_init_30 : decode prog_10_method_1_code 30 = .ok (.iconst 0, 1) := by decide +kernel
theorem dX8_init_31 : decode prog_10_method_1_code 31 = .ok (.putfield 27, 3) := by decide +kernel
theorem dX8_init_34 : decode prog_10_method_1_code 34 = .ok (.aload_n 0, 1) := by decide +kernel
theorem dX8_init_35 : decode prog_10_method_1_code 35 = .ok (.iconst (-1), 1) := by decide +kernel
theorem dX8_init_36 : decode prog_10_method_1_code 36 = .ok (.putfield 31, 3) := by decide +kernel
theorem dX8_init_39 : decode prog_10_method_1_code 39 = .ok (.aload_n 0, 1) := by decide +kernel
theorem dX8_init_40 : decode prog_10_method_1_code 40 = .ok (.iconst 0, 1) := by decide +kernel
theorem dX8_init_41 : decode prog_10_method_1_code 41 = .ok (.putfield 34, 3) := by decide +kernel
theorem dX8_init_44 : decode prog_10_method_1_code 44 = .ok (.aload_n 0, 1) := by decide +kernel
theorem dX8_init_45 : decode prog_10_method_1_code 45 = .ok (.iconst 0, 1) := by decide +kernel
theorem dX8_init_46 : decode prog_10_method_1_code 46 = .ok (.putfield 37, 3) := by decide +kernel
theorem dX8_init_49 : decode prog_10_method_1_code 49 = .ok (.aload_n 0, 1) := by decide +kernel
theorem dX8_init_50 : decode prog_10_method_1_code 50 = .ok (.iconst 0, 1) := by decide +kernel
theorem dX8_init_51 : decode prog_10_method_1_code 51 = .ok (.putfield 40, 3) := by decide +kernel
theorem dX8_init_54 : decode prog_10_method_1_code 54 = .ok (.aload_n 0, 1) := by decide +kernel
theorem dX8_init_55 : decode prog_10_method_1_code 55 = .ok (.bipush 10, 2) := by decide +kernel
theorem dX8_init_57 : decode prog_10_method_1_code 57 = .ok (.newarray .int, 2) := by decide +kernel
theorem dX8_init_59 : decode prog_10_method_1_code 59 = .ok (.putfield 43, 3) := by decide +kernel
theorem dX8_init_62 : decode prog_10_method_1_code 62 = .ok (.aload_n 0, 1) := by decide +kernel
theorem dX8_init_63 : decode prog_10_method_1_code 63 = .ok (.bipush 10, 2) := by decide +kernel
theorem dX8_init_65 : decode prog_10_method_1_code 65 = .ok (.newarray .int, 2) := by decide +kernel
theorem dX8_init_67 : decode prog_10_method_1_code 67 = .ok (.putfield 47, 3) := by decide +kernel
theorem dX8_init_70 : decode prog_10_method_1_code 70 = .ok (.aload_n 0, 1) := by decide +kernel
theorem dX8_init_71 : decode prog_10_method_1_code 71 = .ok (.bipush 10, 2) := by decide +kernel
theorem dX8_init_73 : decode prog_10_method_1_code 73 = .ok (.newarray .int, 2) := by decide +kernel
theorem dX8_init_75 : decode prog_10_method_1_code 75 = .ok (.putfield 50, 3) := by decide +kernel
theorem dX8_init_78 : decode prog_10_method_1_code 78 = .ok (.aload_n 0, 1) := by decide +kernel
theorem dX8_init_79 : decode prog_10_method_1_code 79 = .ok (.bipush 24, 2) := by decide +kernel
theorem dX8_init_81 : decode prog_10_method_1_code 81 = .ok (.newarray .int, 2) := by decide +kernel
theorem dX8_init_83 : decode prog_10_method_1_code 83 = .ok (.putfield 53, 3) := by decide +kernel
theorem dX8_init_86 : decode prog_10_method_1_code 86 = .ok (.aload_n 0, 1) := by decide +kernel
theorem dX8_init_87 : decode prog_10_method_1_code 87 = .ok (.aload_n 1, 1) := by decide +kernel
theorem dX8_init_88 : decode prog_10_method_1_code 88 = .ok (.putfield 56, 3) := by decide +kernel
theorem dX8_init_91 : decode prog_10_method_1_code 91 = .ok (.return_, 1) := by decide +kernel
