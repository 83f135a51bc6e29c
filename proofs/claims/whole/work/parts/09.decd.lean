/-! ===== decode rows, by wip/whole/gen09.py ===== -/
theorem dX10_buy_0 : decode prog_1_method_42_code 0 = .ok (.aload_n 0, 1) := by decide +kernel
theorem dX10_buy_1 : decode prog_1_method_42_code 1 = .ok (.iload_n 2, 1) := by decide +kernel
theorem dX10_buy_2 : decode prog_1_method_42_code 2 = .ok (.iload_n 3, 1) := by decide +kernel
theorem dX10_buy_3 : decode prog_1_method_42_code 3 = .ok (.invokevirtual 230, 3) := by decide +kernel
theorem dX10_buy_6 : decode prog_1_method_42_code 6 = .ok (.ifCond .eq 9, 3) := by decide +kernel
theorem dX10_buy_9 : decode prog_1_method_42_code 9 = .ok (.aload_n 0, 1) := by decide +kernel
theorem dX10_buy_10 : decode prog_1_method_42_code 10 = .ok (.iconst 1, 1) := by decide +kernel
theorem dX10_buy_11 : decode prog_1_method_42_code 11 = .ok (.invokevirtual 279, 3) := by decide +kernel
theorem dX10_buy_14 : decode prog_1_method_42_code 14 = .ok (.ireturn, 1) := by decide +kernel
theorem dX10_buy_15 : decode prog_1_method_42_code 15 = .ok (.aload_n 0, 1) := by decide +kernel
theorem dX10_buy_16 : decode prog_1_method_42_code 16 = .ok (.iload_n 1, 1) := by decide +kernel
theorem dX10_buy_17 : decode prog_1_method_42_code 17 = .ok (.invokevirtual 166, 3) := by decide +kernel
theorem dX10_buy_20 : decode prog_1_method_42_code 20 = .ok (.ifCond .ne 15, 3) := by decide +kernel
theorem dX10_buy_23 : decode prog_1_method_42_code 23 = .ok (.iload 4, 2) := by decide +kernel
theorem dX10_buy_25 : decode prog_1_method_42_code 25 = .ok (.ifCond .lt 10, 3) := by decide +kernel
theorem dX10_buy_28 : decode prog_1_method_42_code 28 = .ok (.iload 4, 2) := by decide +kernel
theorem dX10_buy_30 : decode prog_1_method_42_code 30 = .ok (.bipush 99, 2) := by decide +kernel
theorem dX10_buy_32 : decode prog_1_method_42_code 32 = .ok (.if_icmp .le 9, 3) := by decide +kernel
theorem dX10_buy_35 : decode prog_1_method_42_code 35 = .ok (.aload_n 0, 1) := by decide +kernel
theorem dX10_buy_36 : decode prog_1_method_42_code 36 = .ok (.iconst 2, 1) := by decide +kernel
theorem dX10_buy_37 : decode prog_1_method_42_code 37 = .ok (.invokevirtual 279, 3) := by decide +kernel
theorem dX10_buy_40 : decode prog_1_method_42_code 40 = .ok (.ireturn, 1) := by decide +kernel
theorem dX10_buy_41 : decode prog_1_method_42_code 41 = .ok (.aload_n 0, 1) := by decide +kernel
theorem dX10_buy_42 : decode prog_1_method_42_code 42 = .ok (.getfield 19, 3) := by decide +kernel
theorem dX10_buy_45 : decode prog_1_method_42_code 45 = .ok (.getfield 81, 3) := by decide +kernel
theorem dX10_buy_48 : decode prog_1_method_42_code 48 = .ok (.getfield 282, 3) := by decide +kernel
theorem dX10_buy_51 : decode prog_1_method_42_code 51 = .ok (.bipush 8, 2) := by decide +kernel
theorem dX10_buy_53 : decode prog_1_method_42_code 53 = .ok (.if_icmp .lt 9, 3) := by decide +kernel
theorem dX10_buy_56 : decode prog_1_method_42_code 56 = .ok (.aload_n 0, 1) := by decide +kernel
theorem dX10_buy_57 : decode prog_1_method_42_code 57 = .ok (.iconst 3, 1) := by decide +kernel
theorem dX10_buy_58 : decode prog_1_method_42_code 58 = .ok (.invokevirtual 279, 3) := by decide +kernel
theorem dX10_buy_61 : decode prog_1_method_42_code 61 = .ok (.ireturn, 1) := by decide +kernel
theorem dX10_buy_62 : decode prog_1_method_42_code 62 = .ok (.aload_n 0, 1) := by decide +kernel
theorem dX10_buy_63 : decode prog_1_method_42_code 63 = .ok (.getfield 26, 3) := by decide +kernel
theorem dX10_buy_66 : decode prog_1_method_42_code 66 = .ok (.aload_n 0, 1) := by decide +kernel
theorem dX10_buy_67 : decode prog_1_method_42_code 67 = .ok (.getfield 19, 3) := by decide +kernel
theorem dX10_buy_70 : decode prog_1_method_42_code 70 = .ok (.getfield 81, 3) := by decide +kernel
theorem dX10_buy_73 : decode prog_1_method_42_code 73 = .ok (.invokevirtual 285, 3) := by decide +kernel
theorem dX10_buy_76 : decode prog_1_method_42_code 76 = .ok (.aload_n 0, 1) := by decide +kernel
theorem dX10_buy_77 : decode prog_1_method_42_code 77 = .ok (.getfield 19, 3) := by decide +kernel
theorem dX10_buy_80 : decode prog_1_method_42_code 80 = .ok (.getfield 81, 3) := by decide +kernel
theorem dX10_buy_83 : decode prog_1_method_42_code 83 = .ok (.iload_n 1, 1) := by decide +kernel
theorem dX10_buy_84 : decode prog_1_method_42_code 84 = .ok (.iload_n 2, 1) := by decide +kernel
theorem dX10_buy_85 : decode prog_1_method_42_code 85 = .ok (.iload_n 3, 1) := by decide +kernel
theorem dX10_buy_86 : decode prog_1_method_42_code 86 = .ok (.iload 4, 2) := by decide +kernel
theorem dX10_buy_88 : decode prog_1_method_42_code 88 = .ok (.invokevirtual 289, 3) := by decide +kernel
theorem dX10_buy_91 : decode prog_1_method_42_code 91 = .ok (.aload_n 0, 1) := by decide +kernel
theorem dX10_buy_92 : decode prog_1_method_42_code 92 = .ok (.invokevirtual 94, 3) := by decide +kernel
theorem dX10_buy_95 : decode prog_1_method_42_code 95 = .ok (.ireturn, 1) := by decide +kernel
theorem dX10_death_0 : decode prog_1_method_43_code 0 = .ok (.aload_n 0, 1) := by decide +kernel
theorem dX10_death_1 : decode prog_1_method_43_code 1 = .ok (.iload_n 1, 1) := by decide +kernel
theorem dX10_death_2 : decode prog_1_method_43_code 2 = .ok (.invokevirtual 109, 3) := by decide +kernel
theorem dX10_death_5 : decode prog_1_method_43_code 5 = .ok (.ifCond .eq 9, 3) := by decide +kernel
theorem dX10_death_8 : decode prog_1_method_43_code 8 = .ok (.aload_n 0, 1) := by decide +kernel
theorem dX10_death_9 : decode prog_1_method_43_code 9 = .ok (.iconst 1, 1) := by decide +kernel
theorem dX10_death_10 : decode prog_1_method_43_code 10 = .ok (.invokevirtual 279, 3) := by decide +kernel
theorem dX10_death_13 : decode prog_1_method_43_code 13 = .ok (.ireturn, 1) := by decide +kernel
theorem dX10_death_14 : decode prog_1_method_43_code 14 = .ok (.iload_n 2, 1) := by decide +kernel
theorem dX10_death_15 : decode prog_1_method_43_code 15 = .ok (.bipush (-2), 2) := by decide +kernel
theorem dX10_death_17 : decode prog_1_method_43_code 17 = .ok (.if_icmp .eq 17, 3) := by decide +kernel
theorem dX10_death_20 : decode prog_1_method_43_code 20 = .ok (.aload_n 0, 1) := by decide +kernel
theorem dX10_death_21 : decode prog_1_method_43_code 21 = .ok (.iload_n 2, 1) := by decide +kernel
theorem dX10_death_22 : decode prog_1_method_43_code 22 = .ok (.invokevirtual 166, 3) := by decide +kernel
theorem dX10_death_25 : decode prog_1_method_43_code 25 = .ok (.ifCond .eq 9, 3) := by decide +kernel
theorem dX10_death_28 : decode prog_1_method_43_code 28 = .ok (.aload_n 0, 1) := by decide +kernel
theorem dX10_death_29 : decode prog_1_method_43_code 29 = .ok (.iconst 2, 1) := by decide +kernel
theorem dX10_death_30 : decode prog_1_method_43_code 30 = .ok (.invokevirtual 279, 3) := by decide +kernel
theorem dX10_death_33 : decode prog_1_method_43_code 33 = .ok (.ireturn, 1) := by decide +kernel
theorem dX10_death_34 : decode prog_1_method_43_code 34 = .ok (.aload_n 0, 1) := by decide +kernel
theorem dX10_death_35 : decode prog_1_method_43_code 35 = .ok (.getfield 19, 3) := by decide +kernel
theorem dX10_death_38 : decode prog_1_method_43_code 38 = .ok (.getfield 81, 3) := by decide +kernel
theorem dX10_death_41 : decode prog_1_method_43_code 41 = .ok (.getfield 119, 3) := by decide +kernel
theorem dX10_death_44 : decode prog_1_method_43_code 44 = .ok (.iload_n 1, 1) := by decide +kernel
theorem dX10_death_45 : decode prog_1_method_43_code 45 = .ok (.iaload, 1) := by decide +kernel
theorem dX10_death_46 : decode prog_1_method_43_code 46 = .ok (.iload_n 2, 1) := by decide +kernel
theorem dX10_death_47 : decode prog_1_method_43_code 47 = .ok (.if_icmp .ne 9, 3) := by decide +kernel
theorem dX10_death_50 : decode prog_1_method_43_code 50 = .ok (.aload_n 0, 1) := by decide +kernel
theorem dX10_death_51 : decode prog_1_method_43_code 51 = .ok (.iconst 5, 1) := by decide +kernel
theorem dX10_death_52 : decode prog_1_method_43_code 52 = .ok (.invokevirtual 279, 3) := by decide +kernel
theorem dX10_death_55 : decode prog_1_method_43_code 55 = .ok (.ireturn, 1) := by decide +kernel
theorem dX10_death_56 : decode prog_1_method_43_code 56 = .ok (.aload_n 0, 1) := by decide +kernel
theorem dX10_death_57 : decode prog_1_method_43_code 57 = .ok (.getfield 26, 3) := by decide +kernel
theorem dX10_death_60 : decode prog_1_method_43_code 60 = .ok (.aload_n 0, 1) := by decide +kernel
theorem dX10_death_61 : decode prog_1_method_43_code 61 = .ok (.getfield 19, 3) := by decide +kernel
theorem dX10_death_64 : decode prog_1_method_43_code 64 = .ok (.getfield 81, 3) := by decide +kernel
theorem dX10_death_67 : decode prog_1_method_43_code 67 = .ok (.invokevirtual 285, 3) := by decide +kernel
theorem dX10_death_70 : decode prog_1_method_43_code 70 = .ok (.aload_n 0, 1) := by decide +kernel
theorem dX10_death_71 : decode prog_1_method_43_code 71 = .ok (.getfield 19, 3) := by decide +kernel
theorem dX10_death_74 : decode prog_1_method_43_code 74 = .ok (.getfield 81, 3) := by decide +kernel
theorem dX10_death_77 : decode prog_1_method_43_code 77 = .ok (.getfield 119, 3) := by decide +kernel
theorem dX10_death_80 : decode prog_1_method_43_code 80 = .ok (.iload_n 1, 1) := by decide +kernel
theorem dX10_death_81 : decode prog_1_method_43_code 81 = .ok (.iload_n 2, 1) := by decide +kernel
theorem dX10_death_82 : decode prog_1_method_43_code 82 = .ok (.iastore, 1) := by decide +kernel
theorem dX10_death_83 : decode prog_1_method_43_code 83 = .ok (.aload_n 0, 1) := by decide +kernel
theorem dX10_death_84 : decode prog_1_method_43_code 84 = .ok (.invokevirtual 94, 3) := by decide +kernel
theorem dX10_death_87 : decode prog_1_method_43_code 87 = .ok (.ireturn, 1) := by decide +kernel
theorem dX10_law_0 : decode prog_1_method_44_code 0 = .ok (.aload_n 0, 1) := by decide +kernel
theorem dX10_law_1 : decode prog_1_method_44_code 1 = .ok (.getfield 53, 3) := by decide +kernel
theorem dX10_law_4 : decode prog_1_method_44_code 4 = .ok (.ifCond .eq 10, 3) := by decide +kernel
theorem dX10_law_7 : decode prog_1_method_44_code 7 = .ok (.iload_n 1, 1) := by decide +kernel
theorem dX10_law_8 : decode prog_1_method_44_code 8 = .ok (.invokestatic 206, 3) := by decide +kernel
theorem dX10_law_11 : decode prog_1_method_44_code 11 = .ok (.ifCond .eq 9, 3) := by decide +kernel
theorem dX10_law_14 : decode prog_1_method_44_code 14 = .ok (.aload_n 0, 1) := by decide +kernel
theorem dX10_law_15 : decode prog_1_method_44_code 15 = .ok (.iconst 1, 1) := by decide +kernel
theorem dX10_law_16 : decode prog_1_method_44_code 16 = .ok (.invokevirtual 279, 3) := by decide +kernel
theorem dX10_law_19 : decode prog_1_method_44_code 19 = .ok (.ireturn, 1) := by decide +kernel
theorem dX10_law_20 : decode prog_1_method_44_code 20 = .ok (.aload_n 0, 1) := by decide +kernel
theorem dX10_law_21 : decode prog_1_method_44_code 21 = .ok (.getfield 19, 3) := by decide +kernel
theorem dX10_law_24 : decode prog_1_method_44_code 24 = .ok (.getfield 81, 3) := by decide +kernel
theorem dX10_law_27 : decode prog_1_method_44_code 27 = .ok (.getfield 293, 3) := by decide +kernel
theorem dX10_law_30 : decode prog_1_method_44_code 30 = .ok (.iload_n 1, 1) := by decide +kernel
theorem dX10_law_31 : decode prog_1_method_44_code 31 = .ok (.if_icmp .ne 9, 3) := by decide +kernel
theorem dX10_law_34 : decode prog_1_method_44_code 34 = .ok (.aload_n 0, 1) := by decide +kernel
theorem dX10_law_35 : decode prog_1_method_44_code 35 = .ok (.iconst 5, 1) := by decide +kernel
theorem dX10_law_36 : decode prog_1_method_44_code 36 = .ok (.invokevirtual 279, 3) := by decide +kernel
theorem dX10_law_39 : decode prog_1_method_44_code 39 = .ok (.ireturn, 1) := by decide +kernel
theorem dX10_law_40 : decode prog_1_method_44_code 40 = .ok (.aload_n 0, 1) := by decide +kernel
theorem dX10_law_41 : decode prog_1_method_44_code 41 = .ok (.getfield 26, 3) := by decide +kernel
theorem dX10_law_44 : decode prog_1_method_44_code 44 = .ok (.aload_n 0, 1) := by decide +kernel
theorem dX10_law_45 : decode prog_1_method_44_code 45 = .ok (.getfield 19, 3) := by decide +kernel
theorem dX10_law_48 : decode prog_1_method_44_code 48 = .ok (.getfield 81, 3) := by decide +kernel
theorem dX10_law_51 : decode prog_1_method_44_code 51 = .ok (.invokevirtual 285, 3) := by decide +kernel
theorem dX10_law_54 : decode prog_1_method_44_code 54 = .ok (.aload_n 0, 1) := by decide +kernel
theorem dX10_law_55 : decode prog_1_method_44_code 55 = .ok (.getfield 19, 3) := by decide +kernel
theorem dX10_law_58 : decode prog_1_method_44_code 58 = .ok (.getfield 81, 3) := by decide +kernel
theorem dX10_law_61 : decode prog_1_method_44_code 61 = .ok (.iload_n 1, 1) := by decide +kernel
theorem dX10_law_62 : decode prog_1_method_44_code 62 = .ok (.putfield 293, 3) := by decide +kernel
theorem dX10_law_65 : decode prog_1_method_44_code 65 = .ok (.aload_n 0, 1) := by decide +kernel
theorem dX10_law_66 : decode prog_1_method_44_code 66 = .ok (.invokevirtual 94, 3) := by decide +kernel
theorem dX10_law_69 : decode prog_1_method_44_code 69 = .ok (.ireturn, 1) := by decide +kernel
theorem dX10_seed_0 : decode prog_1_method_45_code 0 = .ok (.aload_n 0, 1) := by decide +kernel
theorem dX10_seed_1 : decode prog_1_method_45_code 1 = .ok (.getfield 53, 3) := by decide +kernel
theorem dX10_seed_4 : decode prog_1_method_45_code 4 = .ok (.ifCond .ne 9, 3) := by decide +kernel
theorem dX10_seed_7 : decode prog_1_method_45_code 7 = .ok (.aload_n 0, 1) := by decide +kernel
theorem dX10_seed_8 : decode prog_1_method_45_code 8 = .ok (.iconst 1, 1) := by decide +kernel
theorem dX10_seed_9 : decode prog_1_method_45_code 9 = .ok (.invokevirtual 279, 3) := by decide +kernel
theorem dX10_seed_12 : decode prog_1_method_45_code 12 = .ok (.ireturn, 1) := by decide +kernel
theorem dX10_seed_13 : decode prog_1_method_45_code 13 = .ok (.iload_n 1, 1) := by decide +kernel
theorem dX10_seed_14 : decode prog_1_method_45_code 14 = .ok (.invokestatic 265, 3) := by decide +kernel
theorem dX10_seed_17 : decode prog_1_method_45_code 17 = .ok (.ifCond .eq 9, 3) := by decide +kernel
theorem dX10_seed_20 : decode prog_1_method_45_code 20 = .ok (.aload_n 0, 1) := by decide +kernel
theorem dX10_seed_21 : decode prog_1_method_45_code 21 = .ok (.iconst 2, 1) := by decide +kernel
theorem dX10_seed_22 : decode prog_1_method_45_code 22 = .ok (.invokevirtual 279, 3) := by decide +kernel
theorem dX10_seed_25 : decode prog_1_method_45_code 25 = .ok (.ireturn, 1) := by decide +kernel
theorem dX10_seed_26 : decode prog_1_method_45_code 26 = .ok (.aload_n 0, 1) := by decide +kernel
theorem dX10_seed_27 : decode prog_1_method_45_code 27 = .ok (.getfield 19, 3) := by decide +kernel
theorem dX10_seed_30 : decode prog_1_method_45_code 30 = .ok (.getfield 81, 3) := by decide +kernel
theorem dX10_seed_33 : decode prog_1_method_45_code 33 = .ok (.iload_n 1, 1) := by decide +kernel
theorem dX10_seed_34 : decode prog_1_method_45_code 34 = .ok (.putfield 237, 3) := by decide +kernel
theorem dX10_seed_37 : decode prog_1_method_45_code 37 = .ok (.aload_n 0, 1) := by decide +kernel
theorem dX10_seed_38 : decode prog_1_method_45_code 38 = .ok (.invokevirtual 94, 3) := by decide +kernel
theorem dX10_seed_41 : decode prog_1_method_45_code 41 = .ok (.ireturn, 1) := by decide +kernel
theorem dX10_undo_0 : decode prog_1_method_46_code 0 = .ok (.aload_n 0, 1) := by decide +kernel
theorem dX10_undo_1 : decode prog_1_method_46_code 1 = .ok (.getfield 26, 3) := by decide +kernel
theorem dX10_undo_4 : decode prog_1_method_46_code 4 = .ok (.aload_n 0, 1) := by decide +kernel
theorem dX10_undo_5 : decode prog_1_method_46_code 5 = .ok (.getfield 19, 3) := by decide +kernel
theorem dX10_undo_8 : decode prog_1_method_46_code 8 = .ok (.getfield 81, 3) := by decide +kernel
theorem dX10_undo_11 : decode prog_1_method_46_code 11 = .ok (.invokevirtual 296, 3) := by decide +kernel
theorem dX10_undo_14 : decode prog_1_method_46_code 14 = .ok (.ifCond .ne 10, 3) := by decide +kernel
theorem dX10_undo_17 : decode prog_1_method_46_code 17 = .ok (.aload_n 0, 1) := by decide +kernel
theorem dX10_undo_18 : decode prog_1_method_46_code 18 = .ok (.bipush 6, 2) := by decide +kernel
theorem dX10_undo_20 : decode prog_1_method_46_code 20 = .ok (.invokevirtual 279, 3) := by decide +kernel
theorem dX10_undo_23 : decode prog_1_method_46_code 23 = .ok (.ireturn, 1) := by decide +kernel
theorem dX10_undo_24 : decode prog_1_method_46_code 24 = .ok (.aload_n 0, 1) := by decide +kernel
theorem dX10_undo_25 : decode prog_1_method_46_code 25 = .ok (.invokevirtual 94, 3) := by decide +kernel
theorem dX10_undo_28 : decode prog_1_method_46_code 28 = .ok (.ireturn, 1) := by decide +kernel
theorem dX10_mark_0 : decode prog_1_method_47_code 0 = .ok (.aload_n 0, 1) := by decide +kernel
theorem dX10_mark_1 : decode prog_1_method_47_code 1 = .ok (.getfield 53, 3) := by decide +kernel
theorem dX10_mark_4 : decode prog_1_method_47_code 4 = .ok (.ifCond .ne 9, 3) := by decide +kernel
theorem dX10_mark_7 : decode prog_1_method_47_code 7 = .ok (.aload_n 0, 1) := by decide +kernel
theorem dX10_mark_8 : decode prog_1_method_47_code 8 = .ok (.iconst 1, 1) := by decide +kernel
theorem dX10_mark_9 : decode prog_1_method_47_code 9 = .ok (.invokevirtual 68, 3) := by decide +kernel
theorem dX10_mark_12 : decode prog_1_method_47_code 12 = .ok (.ireturn, 1) := by decide +kernel
theorem dX10_mark_13 : decode prog_1_method_47_code 13 = .ok (.aload_n 0, 1) := by decide +kernel
theorem dX10_mark_14 : decode prog_1_method_47_code 14 = .ok (.getfield 26, 3) := by decide +kernel
theorem dX10_mark_17 : decode prog_1_method_47_code 17 = .ok (.aload_n 0, 1) := by decide +kernel
theorem dX10_mark_18 : decode prog_1_method_47_code 18 = .ok (.getfield 19, 3) := by decide +kernel
theorem dX10_mark_21 : decode prog_1_method_47_code 21 = .ok (.getfield 81, 3) := by decide +kernel
theorem dX10_mark_24 : decode prog_1_method_47_code 24 = .ok (.invokevirtual 300, 3) := by decide +kernel
theorem dX10_mark_27 : decode prog_1_method_47_code 27 = .ok (.istore_n 1, 1) := by decide +kernel
theorem dX10_mark_28 : decode prog_1_method_47_code 28 = .ok (.iload_n 1, 1) := by decide +kernel
theorem dX10_mark_29 : decode prog_1_method_47_code 29 = .ok (.ifCond .ge 11, 3) := by decide +kernel
theorem dX10_mark_32 : decode prog_1_method_47_code 32 = .ok (.aload_n 0, 1) := by decide +kernel
theorem dX10_mark_33 : decode prog_1_method_47_code 33 = .ok (.iconst 3, 1) := by decide +kernel
theorem dX10_mark_34 : decode prog_1_method_47_code 34 = .ok (.invokevirtual 68, 3) := by decide +kernel
theorem dX10_mark_37 : decode prog_1_method_47_code 37 = .ok (.goto 8, 3) := by decide +kernel
theorem dX10_mark_40 : decode prog_1_method_47_code 40 = .ok (.aload_n 0, 1) := by decide +kernel
theorem dX10_mark_41 : decode prog_1_method_47_code 41 = .ok (.iload_n 1, 1) := by decide +kernel
theorem dX10_mark_42 : decode prog_1_method_47_code 42 = .ok (.invokevirtual 116, 3) := by decide +kernel
theorem dX10_mark_45 : decode prog_1_method_47_code 45 = .ok (.ireturn, 1) := by decide +kernel
theorem dX10_back_0 : decode prog_1_method_48_code 0 = .ok (.aload_n 0, 1) := by decide +kernel
theorem dX10_back_1 : decode prog_1_method_48_code 1 = .ok (.getfield 26, 3) := by decide +kernel
theorem dX10_back_4 : decode prog_1_method_48_code 4 = .ok (.iload_n 1, 1) := by decide +kernel
theorem dX10_back_5 : decode prog_1_method_48_code 5 = .ok (.aload_n 0, 1) := by decide +kernel
theorem dX10_back_6 : decode prog_1_method_48_code 6 = .ok (.getfield 19, 3) := by decide +kernel
theorem dX10_back_9 : decode prog_1_method_48_code 9 = .ok (.getfield 81, 3) := by decide +kernel
theorem dX10_back_12 : decode prog_1_method_48_code 12 = .ok (.invokevirtual 304, 3) := by decide +kernel
theorem dX10_back_15 : decode prog_1_method_48_code 15 = .ok (.ifCond .ne 9, 3) := by decide +kernel
theorem dX10_back_18 : decode prog_1_method_48_code 18 = .ok (.aload_n 0, 1) := by decide +kernel
theorem dX10_back_19 : decode prog_1_method_48_code 19 = .ok (.iconst 1, 1) := by decide +kernel
theorem dX10_back_20 : decode prog_1_method_48_code 20 = .ok (.invokevirtual 279, 3) := by decide +kernel
theorem dX10_back_23 : decode prog_1_method_48_code 23 = .ok (.ireturn, 1) := by decide +kernel
theorem dX10_back_24 : decode prog_1_method_48_code 24 = .ok (.aload_n 0, 1) := by decide +kernel
theorem dX10_back_25 : decode prog_1_method_48_code 25 = .ok (.invokevirtual 94, 3) := by decide +kernel
theorem dX10_back_28 : decode prog_1_method_48_code 28 = .ok (.ireturn, 1) := by decide +kernel
theorem dX10_led_0 : decode prog_1_method_49_code 0 = .ok (.aload_n 0, 1) := by decide +kernel
theorem dX10_led_1 : decode prog_1_method_49_code 1 = .ok (.getfield 53, 3) := by decide +kernel
theorem dX10_led_4 : decode prog_1_method_49_code 4 = .ok (.ifCond .eq 14, 3) := by decide +kernel
theorem dX10_led_7 : decode prog_1_method_49_code 7 = .ok (.aload_n 0, 1) := by decide +kernel
theorem dX10_led_8 : decode prog_1_method_49_code 8 = .ok (.getfield 35, 3) := by decide +kernel
theorem dX10_led_11 : decode prog_1_method_49_code 11 = .ok (.iload_n 1, 1) := by decide +kernel
theorem dX10_led_12 : decode prog_1_method_49_code 12 = .ok (.invokevirtual 308, 3) := by decide +kernel
theorem dX10_led_15 : decode prog_1_method_49_code 15 = .ok (.goto 5, 3) := by decide +kernel
theorem dX10_led_18 : decode prog_1_method_49_code 18 = .ok (.bipush (-2), 2) := by decide +kernel
theorem dX10_led_20 : decode prog_1_method_49_code 20 = .ok (.istore_n 2, 1) := by decide +kernel
theorem dX10_led_21 : decode prog_1_method_49_code 21 = .ok (.iload_n 2, 1) := by decide +kernel
theorem dX10_led_22 : decode prog_1_method_49_code 22 = .ok (.ifCond .ge 11, 3) := by decide +kernel
theorem dX10_led_25 : decode prog_1_method_49_code 25 = .ok (.new 311, 3) := by decide +kernel
theorem dX10_led_28 : decode prog_1_method_49_code 28 = .ok (.dup, 1) := by decide +kernel
theorem dX10_led_29 : decode prog_1_method_49_code 29 = .ok (.invokespecial 313, 3) := by decide +kernel
theorem dX10_led_32 : decode prog_1_method_49_code 32 = .ok (.athrow, 1) := by decide +kernel
theorem dX10_led_33 : decode prog_1_method_49_code 33 = .ok (.iload_n 2, 1) := by decide +kernel
theorem dX10_led_34 : decode prog_1_method_49_code 34 = .ok (.ireturn, 1) := by decide +kernel
theorem dX10_size_0 : decode prog_1_method_50_code 0 = .ok (.aload_n 0, 1) := by decide +kernel
theorem dX10_size_1 : decode prog_1_method_50_code 1 = .ok (.getfield 19, 3) := by decide +kernel
theorem dX10_size_4 : decode prog_1_method_50_code 4 = .ok (.getfield 76, 3) := by decide +kernel
theorem dX10_size_7 : decode prog_1_method_50_code 7 = .ok (.astore_n 2, 1) := by decide +kernel
theorem dX10_size_8 : decode prog_1_method_50_code 8 = .ok (.iload_n 1, 1) := by decide +kernel
theorem dX10_size_9 : decode prog_1_method_50_code 9 = .ok (.tableswitch 164 0 12 #[67, 72, 83, 88, 93, 98, 114, 119, 124, 129, 140, 148, 156], 67) := by decide +kernel
theorem dX10_size_76 : decode prog_1_method_50_code 76 = .ok (.aload_n 2, 1) := by decide +kernel
theorem dX10_size_77 : decode prog_1_method_50_code 77 = .ok (.getfield 256, 3) := by decide +kernel
theorem dX10_size_80 : decode prog_1_method_50_code 80 = .ok (.ireturn, 1) := by decide +kernel
theorem dX10_size_81 : decode prog_1_method_50_code 81 = .ok (.aload_n 0, 1) := by decide +kernel
theorem dX10_size_82 : decode prog_1_method_50_code 82 = .ok (.getfield 19, 3) := by decide +kernel
theorem dX10_size_85 : decode prog_1_method_50_code 85 = .ok (.getfield 81, 3) := by decide +kernel
theorem dX10_size_88 : decode prog_1_method_50_code 88 = .ok (.getfield 293, 3) := by decide +kernel
theorem dX10_size_91 : decode prog_1_method_50_code 91 = .ok (.ireturn, 1) := by decide +kernel
theorem dX10_size_92 : decode prog_1_method_50_code 92 = .ok (.aload_n 2, 1) := by decide +kernel
theorem dX10_size_93 : decode prog_1_method_50_code 93 = .ok (.getfield 314, 3) := by decide +kernel
theorem dX10_size_96 : decode prog_1_method_50_code 96 = .ok (.ireturn, 1) := by decide +kernel
theorem dX10_size_97 : decode prog_1_method_50_code 97 = .ok (.aload_n 2, 1) := by decide +kernel
theorem dX10_size_98 : decode prog_1_method_50_code 98 = .ok (.getfield 98, 3) := by decide +kernel
theorem dX10_size_101 : decode prog_1_method_50_code 101 = .ok (.ireturn, 1) := by decide +kernel
theorem dX10_size_102 : decode prog_1_method_50_code 102 = .ok (.aload_n 2, 1) := by decide +kernel
theorem dX10_size_103 : decode prog_1_method_50_code 103 = .ok (.getfield 123, 3) := by decide +kernel
theorem dX10_size_106 : decode prog_1_method_50_code 106 = .ok (.ireturn, 1) := by decide +kernel
theorem dX10_size_107 : decode prog_1_method_50_code 107 = .ok (.aload_n 2, 1) := by decide +kernel
theorem dX10_size_108 : decode prog_1_method_50_code 108 = .ok (.getfield 317, 3) := by decide +kernel
theorem dX10_size_111 : decode prog_1_method_50_code 111 = .ok (.aload_n 0, 1) := by decide +kernel
theorem dX10_size_112 : decode prog_1_method_50_code 112 = .ok (.getfield 19, 3) := by decide +kernel
theorem dX10_size_115 : decode prog_1_method_50_code 115 = .ok (.getfield 81, 3) := by decide +kernel
theorem dX10_size_118 : decode prog_1_method_50_code 118 = .ok (.getfield 282, 3) := by decide +kernel
theorem dX10_size_121 : decode prog_1_method_50_code 121 = .ok (.iadd, 1) := by decide +kernel
theorem dX10_size_122 : decode prog_1_method_50_code 122 = .ok (.ireturn, 1) := by decide +kernel
theorem dX10_size_123 : decode prog_1_method_50_code 123 = .ok (.aload_n 2, 1) := by decide +kernel
theorem dX10_size_124 : decode prog_1_method_50_code 124 = .ok (.getfield 320, 3) := by decide +kernel
theorem dX10_size_127 : decode prog_1_method_50_code 127 = .ok (.ireturn, 1) := by decide +kernel
theorem dX10_size_128 : decode prog_1_method_50_code 128 = .ok (.aload_n 2, 1) := by decide +kernel
theorem dX10_size_129 : decode prog_1_method_50_code 129 = .ok (.getfield 323, 3) := by decide +kernel
theorem dX10_size_132 : decode prog_1_method_50_code 132 = .ok (.ireturn, 1) := by decide +kernel
theorem dX10_size_133 : decode prog_1_method_50_code 133 = .ok (.aload_n 2, 1) := by decide +kernel
theorem dX10_size_134 : decode prog_1_method_50_code 134 = .ok (.getfield 326, 3) := by decide +kernel
theorem dX10_size_137 : decode prog_1_method_50_code 137 = .ok (.ireturn, 1) := by decide +kernel
theorem dX10_size_138 : decode prog_1_method_50_code 138 = .ok (.aload_n 0, 1) := by decide +kernel
theorem dX10_size_139 : decode prog_1_method_50_code 139 = .ok (.getfield 19, 3) := by decide +kernel
theorem dX10_size_142 : decode prog_1_method_50_code 142 = .ok (.getfield 81, 3) := by decide +kernel
theorem dX10_size_145 : decode prog_1_method_50_code 145 = .ok (.getfield 237, 3) := by decide +kernel
theorem dX10_size_148 : decode prog_1_method_50_code 148 = .ok (.ireturn, 1) := by decide +kernel
theorem dX10_size_149 : decode prog_1_method_50_code 149 = .ok (.aload_n 0, 1) := by decide +kernel
theorem dX10_size_150 : decode prog_1_method_50_code 150 = .ok (.getfield 26, 3) := by decide +kernel
theorem dX10_size_153 : decode prog_1_method_50_code 153 = .ok (.getfield 329, 3) := by decide +kernel
theorem dX10_size_156 : decode prog_1_method_50_code 156 = .ok (.ireturn, 1) := by decide +kernel
theorem dX10_size_157 : decode prog_1_method_50_code 157 = .ok (.aload_n 0, 1) := by decide +kernel
theorem dX10_size_158 : decode prog_1_method_50_code 158 = .ok (.getfield 26, 3) := by decide +kernel
theorem dX10_size_161 : decode prog_1_method_50_code 161 = .ok (.getfield 332, 3) := by decide +kernel
theorem dX10_size_164 : decode prog_1_method_50_code 164 = .ok (.ireturn, 1) := by decide +kernel
theorem dX10_size_165 : decode prog_1_method_50_code 165 = .ok (.aload_n 0, 1) := by decide +kernel
theorem dX10_size_166 : decode prog_1_method_50_code 166 = .ok (.getfield 12, 3) := by decide +kernel
theorem dX10_size_169 : decode prog_1_method_50_code 169 = .ok (.getfield 61, 3) := by decide +kernel
theorem dX10_size_172 : decode prog_1_method_50_code 172 = .ok (.ireturn, 1) := by decide +kernel
theorem dX10_size_173 : decode prog_1_method_50_code 173 = .ok (.iconst (-1), 1) := by decide +kernel
theorem dX10_size_174 : decode prog_1_method_50_code 174 = .ok (.ireturn, 1) := by decide +kernel
theorem dX10_trouble_0 : decode prog_1_method_51_code 0 = .ok (.aload_n 0, 1) := by decide +kernel
theorem dX10_trouble_1 : decode prog_1_method_51_code 1 = .ok (.getfield 57, 3) := by decide +kernel
theorem dX10_trouble_4 : decode prog_1_method_51_code 4 = .ok (.ireturn, 1) := by decide +kernel
theorem dX10_refuse_0 : decode prog_1_method_52_code 0 = .ok (.aload_n 0, 1) := by decide +kernel
theorem dX10_refuse_1 : decode prog_1_method_52_code 1 = .ok (.iload_n 1, 1) := by decide +kernel
theorem dX10_refuse_2 : decode prog_1_method_52_code 2 = .ok (.putfield 57, 3) := by decide +kernel
theorem dX10_refuse_5 : decode prog_1_method_52_code 5 = .ok (.iconst (-1), 1) := by decide +kernel
theorem dX10_refuse_6 : decode prog_1_method_52_code 6 = .ok (.ireturn, 1) := by decide +kernel
theorem dX10_grant_0 : decode prog_1_method_53_code 0 = .ok (.aload_n 0, 1) := by decide +kernel
theorem dX10_grant_1 : decode prog_1_method_53_code 1 = .ok (.iconst 0, 1) := by decide +kernel
theorem dX10_grant_2 : decode prog_1_method_53_code 2 = .ok (.putfield 57, 3) := by decide +kernel
theorem dX10_grant_5 : decode prog_1_method_53_code 5 = .ok (.iload_n 1, 1) := by decide +kernel
theorem dX10_grant_6 : decode prog_1_method_53_code 6 = .ok (.ireturn, 1) := by decide +kernel
theorem dX10_deny_0 : decode prog_1_method_54_code 0 = .ok (.aload_n 0, 1) := by decide +kernel
theorem dX10_deny_1 : decode prog_1_method_54_code 1 = .ok (.iload_n 1, 1) := by decide +kernel
theorem dX10_deny_2 : decode prog_1_method_54_code 2 = .ok (.putfield 57, 3) := by decide +kernel
theorem dX10_deny_5 : decode prog_1_method_54_code 5 = .ok (.iconst 0, 1) := by decide +kernel
theorem dX10_deny_6 : decode prog_1_method_54_code 6 = .ok (.ireturn, 1) := by decide +kernel
theorem dX10_acted_0 : decode prog_1_method_55_code 0 = .ok (.aload_n 0, 1) := by decide +kernel
theorem dX10_acted_1 : decode prog_1_method_55_code 1 = .ok (.getfield 19, 3) := by decide +kernel
theorem dX10_acted_4 : decode prog_1_method_55_code 4 = .ok (.getfield 246, 3) := by decide +kernel
theorem dX10_acted_7 : decode prog_1_method_55_code 7 = .ok (.aload_n 0, 1) := by decide +kernel
theorem dX10_acted_8 : decode prog_1_method_55_code 8 = .ok (.getfield 19, 3) := by decide +kernel
theorem dX10_acted_11 : decode prog_1_method_55_code 11 = .ok (.getfield 76, 3) := by decide +kernel
theorem dX10_acted_14 : decode prog_1_method_55_code 14 = .ok (.aload_n 0, 1) := by decide +kernel
theorem dX10_acted_15 : decode prog_1_method_55_code 15 = .ok (.getfield 19, 3) := by decide +kernel
theorem dX10_acted_18 : decode prog_1_method_55_code 18 = .ok (.getfield 81, 3) := by decide +kernel
theorem dX10_acted_21 : decode prog_1_method_55_code 21 = .ok (.invokevirtual 335, 3) := by decide +kernel
theorem dX10_acted_24 : decode prog_1_method_55_code 24 = .ok (.aload_n 0, 1) := by decide +kernel
theorem dX10_acted_25 : decode prog_1_method_55_code 25 = .ok (.getfield 35, 3) := by decide +kernel
theorem dX10_acted_28 : decode prog_1_method_55_code 28 = .ok (.invokevirtual 339, 3) := by decide +kernel
theorem dX10_acted_31 : decode prog_1_method_55_code 31 = .ok (.aload_n 0, 1) := by decide +kernel
theorem dX10_acted_32 : decode prog_1_method_55_code 32 = .ok (.getfield 49, 3) := by decide +kernel
theorem dX10_acted_35 : decode prog_1_method_55_code 35 = .ok (.invokevirtual 342, 3) := by decide +kernel
theorem dX10_acted_38 : decode prog_1_method_55_code 38 = .ok (.aload_n 0, 1) := by decide +kernel
theorem dX10_acted_39 : decode prog_1_method_55_code 39 = .ok (.iconst 0, 1) := by decide +kernel
theorem dX10_acted_40 : decode prog_1_method_55_code 40 = .ok (.putfield 57, 3) := by decide +kernel
theorem dX10_acted_43 : decode prog_1_method_55_code 43 = .ok (.iconst 1, 1) := by decide +kernel
theorem dX10_acted_44 : decode prog_1_method_55_code 44 = .ok (.ireturn, 1) := by decide +kernel
theorem dX10_isNoPerson_0 : decode prog_1_method_56_code 0 = .ok (.aload_n 0, 1) := by decide +kernel
theorem dX10_isNoPerson_1 : decode prog_1_method_56_code 1 = .ok (.getfield 53, 3) := by decide +kernel
theorem dX10_isNoPerson_4 : decode prog_1_method_56_code 4 = .ok (.ifCond .eq 21, 3) := by decide +kernel
theorem dX10_isNoPerson_7 : decode prog_1_method_56_code 7 = .ok (.iload_n 1, 1) := by decide +kernel
theorem dX10_isNoPerson_8 : decode prog_1_method_56_code 8 = .ok (.ifCond .lt 17, 3) := by decide +kernel
theorem dX10_isNoPerson_11 : decode prog_1_method_56_code 11 = .ok (.iload_n 1, 1) := by decide +kernel
theorem dX10_isNoPerson_12 : decode prog_1_method_56_code 12 = .ok (.aload_n 0, 1) := by decide +kernel
theorem dX10_isNoPerson_13 : decode prog_1_method_56_code 13 = .ok (.getfield 19, 3) := by decide +kernel
theorem dX10_isNoPerson_16 : decode prog_1_method_56_code 16 = .ok (.getfield 76, 3) := by decide +kernel
theorem dX10_isNoPerson_19 : decode prog_1_method_56_code 19 = .ok (.getfield 98, 3) := by decide +kernel
theorem dX10_isNoPerson_22 : decode prog_1_method_56_code 22 = .ok (.if_icmp .lt 7, 3) := by decide +kernel
theorem dX10_isNoPerson_25 : decode prog_1_method_56_code 25 = .ok (.iconst 1, 1) := by decide +kernel
theorem dX10_isNoPerson_26 : decode prog_1_method_56_code 26 = .ok (.goto 4, 3) := by decide +kernel
theorem dX10_isNoPerson_29 : decode prog_1_method_56_code 29 = .ok (.iconst 0, 1) := by decide +kernel
theorem dX10_isNoPerson_30 : decode prog_1_method_56_code 30 = .ok (.ireturn, 1) := by decide +kernel
theorem dX10_isNoPair_0 : decode prog_1_method_57_code 0 = .ok (.aload_n 0, 1) := by decide +kernel
theorem dX10_isNoPair_1 : decode prog_1_method_57_code 1 = .ok (.iload_n 1, 1) := by decide +kernel
theorem dX10_isNoPair_2 : decode prog_1_method_57_code 2 = .ok (.invokevirtual 109, 3) := by decide +kernel
theorem dX10_isNoPair_5 : decode prog_1_method_57_code 5 = .ok (.ifCond .ne 16, 3) := by decide +kernel
theorem dX10_isNoPair_8 : decode prog_1_method_57_code 8 = .ok (.aload_n 0, 1) := by decide +kernel
theorem dX10_isNoPair_9 : decode prog_1_method_57_code 9 = .ok (.iload_n 2, 1) := by decide +kernel
theorem dX10_isNoPair_10 : decode prog_1_method_57_code 10 = .ok (.invokevirtual 109, 3) := by decide +kernel
theorem dX10_isNoPair_13 : decode prog_1_method_57_code 13 = .ok (.ifCond .ne 8, 3) := by decide +kernel
theorem dX10_isNoPair_16 : decode prog_1_method_57_code 16 = .ok (.iload_n 1, 1) := by decide +kernel
theorem dX10_isNoPair_17 : decode prog_1_method_57_code 17 = .ok (.iload_n 2, 1) := by decide +kernel
theorem dX10_isNoPair_18 : decode prog_1_method_57_code 18 = .ok (.if_icmp .ne 7, 3) := by decide +kernel
theorem dX10_isNoPair_21 : decode prog_1_method_57_code 21 = .ok (.iconst 1, 1) := by decide +kernel
theorem dX10_isNoPair_22 : decode prog_1_method_57_code 22 = .ok (.goto 4, 3) := by decide +kernel
theorem dX10_isNoPair_25 : decode prog_1_method_57_code 25 = .ok (.iconst 0, 1) := by decide +kernel
theorem dX10_isNoPair_26 : decode prog_1_method_57_code 26 = .ok (.ireturn, 1) := by decide +kernel
theorem dX10_isNoSecret_0 : decode prog_1_method_58_code 0 = .ok (.aload_n 0, 1) := by decide +kernel
theorem dX10_isNoSecret_1 : decode prog_1_method_58_code 1 = .ok (.getfield 53, 3) := by decide +kernel
theorem dX10_isNoSecret_4 : decode prog_1_method_58_code 4 = .ok (.ifCond .eq 21, 3) := by decide +kernel
theorem dX10_isNoSecret_7 : decode prog_1_method_58_code 7 = .ok (.iload_n 1, 1) := by decide +kernel
theorem dX10_isNoSecret_8 : decode prog_1_method_58_code 8 = .ok (.ifCond .lt 17, 3) := by decide +kernel
theorem dX10_isNoSecret_11 : decode prog_1_method_58_code 11 = .ok (.iload_n 1, 1) := by decide +kernel
theorem dX10_isNoSecret_12 : decode prog_1_method_58_code 12 = .ok (.aload_n 0, 1) := by decide +kernel
theorem dX10_isNoSecret_13 : decode prog_1_method_58_code 13 = .ok (.getfield 19, 3) := by decide +kernel
theorem dX10_isNoSecret_16 : decode prog_1_method_58_code 16 = .ok (.getfield 76, 3) := by decide +kernel
theorem dX10_isNoSecret_19 : decode prog_1_method_58_code 19 = .ok (.getfield 320, 3) := by decide +kernel
theorem dX10_isNoSecret_22 : decode prog_1_method_58_code 22 = .ok (.if_icmp .lt 7, 3) := by decide +kernel
theorem dX10_isNoSecret_25 : decode prog_1_method_58_code 25 = .ok (.iconst 1, 1) := by decide +kernel
theorem dX10_isNoSecret_26 : decode prog_1_method_58_code 26 = .ok (.goto 4, 3) := by decide +kernel
theorem dX10_isNoSecret_29 : decode prog_1_method_58_code 29 = .ok (.iconst 0, 1) := by decide +kernel
theorem dX10_isNoSecret_30 : decode prog_1_method_58_code 30 = .ok (.ireturn, 1) := by decide +kernel
theorem dX10_isNoYear_0 : decode prog_1_method_59_code 0 = .ok (.iload_n 1, 1) := by decide +kernel
theorem dX10_isNoYear_1 : decode prog_1_method_59_code 1 = .ok (.ifCond .lt 17, 3) := by decide +kernel
theorem dX10_isNoYear_4 : decode prog_1_method_59_code 4 = .ok (.iload_n 1, 1) := by decide +kernel
theorem dX10_isNoYear_5 : decode prog_1_method_59_code 5 = .ok (.aload_n 0, 1) := by decide +kernel
theorem dX10_isNoYear_6 : decode prog_1_method_59_code 6 = .ok (.getfield 19, 3) := by decide +kernel
theorem dX10_isNoYear_9 : decode prog_1_method_59_code 9 = .ok (.getfield 76, 3) := by decide +kernel
theorem dX10_isNoYear_12 : decode prog_1_method_59_code 12 = .ok (.getfield 256, 3) := by decide +kernel
theorem dX10_isNoYear_15 : decode prog_1_method_59_code 15 = .ok (.if_icmp .lt 7, 3) := by decide +kernel
theorem dX10_isNoYear_18 : decode prog_1_method_59_code 18 = .ok (.iconst 1, 1) := by decide +kernel
theorem dX10_isNoYear_19 : decode prog_1_method_59_code 19 = .ok (.goto 4, 3) := by decide +kernel
theorem dX10_isNoYear_22 : decode prog_1_method_59_code 22 = .ok (.iconst 0, 1) := by decide +kernel
theorem dX10_isNoYear_23 : decode prog_1_method_59_code 23 = .ok (.ireturn, 1) := by decide +kernel
theorem dX10_isNoLaw_0 : decode prog_1_method_60_code 0 = .ok (.iload_n 0, 1) := by decide +kernel
theorem dX10_isNoLaw_1 : decode prog_1_method_60_code 1 = .ok (.ifCond .lt 8, 3) := by decide +kernel
theorem dX10_isNoLaw_4 : decode prog_1_method_60_code 4 = .ok (.iload_n 0, 1) := by decide +kernel
theorem dX10_isNoLaw_5 : decode prog_1_method_60_code 5 = .ok (.iconst 5, 1) := by decide +kernel
theorem dX10_isNoLaw_6 : decode prog_1_method_60_code 6 = .ok (.if_icmp .lt 7, 3) := by decide +kernel
theorem dX10_isNoLaw_9 : decode prog_1_method_60_code 9 = .ok (.iconst 1, 1) := by decide +kernel
theorem dX10_isNoLaw_10 : decode prog_1_method_60_code 10 = .ok (.goto 4, 3) := by decide +kernel
theorem dX10_isNoLaw_13 : decode prog_1_method_60_code 13 = .ok (.iconst 0, 1) := by decide +kernel
theorem dX10_isNoLaw_14 : decode prog_1_method_60_code 14 = .ok (.ireturn, 1) := by decide +kernel
theorem dX10_isNoMeasure_0 : decode prog_1_method_61_code 0 = .ok (.iload_n 0, 1) := by decide +kernel
theorem dX10_isNoMeasure_1 : decode prog_1_method_61_code 1 = .ok (.ifCond .lt 8, 3) := by decide +kernel
theorem dX10_isNoMeasure_4 : decode prog_1_method_61_code 4 = .ok (.iload_n 0, 1) := by decide +kernel
theorem dX10_isNoMeasure_5 : decode prog_1_method_61_code 5 = .ok (.iconst 4, 1) := by decide +kernel
theorem dX10_isNoMeasure_6 : decode prog_1_method_61_code 6 = .ok (.if_icmp .lt 7, 3) := by decide +kernel
theorem dX10_isNoMeasure_9 : decode prog_1_method_61_code 9 = .ok (.iconst 1, 1) := by decide +kernel
theorem dX10_isNoMeasure_10 : decode prog_1_method_61_code 10 = .ok (.goto 4, 3) := by decide +kernel
theorem dX10_isNoMeasure_13 : decode prog_1_method_61_code 13 = .ok (.iconst 0, 1) := by decide +kernel
theorem dX10_isNoMeasure_14 : decode prog_1_method_61_code 14 = .ok (.ireturn, 1) := by decide +kernel
theorem dX10_isNoSeed_0 : decode prog_1_method_62_code 0 = .ok (.iload_n 0, 1) := by decide +kernel
theorem dX10_isNoSeed_1 : decode prog_1_method_62_code 1 = .ok (.ifCond .lt 10, 3) := by decide +kernel
theorem dX10_isNoSeed_4 : decode prog_1_method_62_code 4 = .ok (.iload_n 0, 1) := by decide +kernel
theorem dX10_isNoSeed_5 : decode prog_1_method_62_code 5 = .ok (.ldc_w 268, 3) := by decide +kernel
theorem dX10_isNoSeed_8 : decode prog_1_method_62_code 8 = .ok (.if_icmp .lt 7, 3) := by decide +kernel
theorem dX10_isNoSeed_11 : decode prog_1_method_62_code 11 = .ok (.iconst 1, 1) := by decide +kernel
theorem dX10_isNoSeed_12 : decode prog_1_method_62_code 12 = .ok (.goto 4, 3) := by decide +kernel
theorem dX10_isNoSeed_15 : decode prog_1_method_62_code 15 = .ok (.iconst 0, 1) := by decide +kernel
theorem dX10_isNoSeed_16 : decode prog_1_method_62_code 16 = .ok (.ireturn, 1) := by decide +kernel
theorem dX10_yearTrouble_0 : decode prog_1_method_63_code 0 = .ok (.aload_n 0, 1) := by decide +kernel
theorem dX10_yearTrouble_1 : decode prog_1_method_63_code 1 = .ok (.getfield 53, 3) := by decide +kernel
theorem dX10_yearTrouble_4 : decode prog_1_method_63_code 4 = .ok (.ifCond .ne 5, 3) := by decide +kernel
theorem dX10_yearTrouble_7 : decode prog_1_method_63_code 7 = .ok (.iconst 1, 1) := by decide +kernel
theorem dX10_yearTrouble_8 : decode prog_1_method_63_code 8 = .ok (.ireturn, 1) := by decide +kernel
theorem dX10_yearTrouble_9 : decode prog_1_method_63_code 9 = .ok (.aload_n 0, 1) := by decide +kernel
theorem dX10_yearTrouble_10 : decode prog_1_method_63_code 10 = .ok (.iload_n 1, 1) := by decide +kernel
theorem dX10_yearTrouble_11 : decode prog_1_method_63_code 11 = .ok (.invokevirtual 166, 3) := by decide +kernel
theorem dX10_yearTrouble_14 : decode prog_1_method_63_code 14 = .ok (.ifCond .eq 7, 3) := by decide +kernel
theorem dX10_yearTrouble_17 : decode prog_1_method_63_code 17 = .ok (.iconst 2, 1) := by decide +kernel
theorem dX10_yearTrouble_18 : decode prog_1_method_63_code 18 = .ok (.goto 4, 3) := by decide +kernel
theorem dX10_yearTrouble_21 : decode prog_1_method_63_code 21 = .ok (.iconst 0, 1) := by decide +kernel
theorem dX10_yearTrouble_22 : decode prog_1_method_63_code 22 = .ok (.ireturn, 1) := by decide +kernel
theorem dX10_personYearTrouble_0 : decode prog_1_method_64_code 0 = .ok (.aload_n 0, 1) := by decide +kernel
theorem dX10_personYearTrouble_1 : decode prog_1_method_64_code 1 = .ok (.iload_n 1, 1) := by decide +kernel
theorem dX10_personYearTrouble_2 : decode prog_1_method_64_code 2 = .ok (.invokevirtual 109, 3) := by decide +kernel
theorem dX10_personYearTrouble_5 : decode prog_1_method_64_code 5 = .ok (.ifCond .eq 5, 3) := by decide +kernel
theorem dX10_personYearTrouble_8 : decode prog_1_method_64_code 8 = .ok (.iconst 1, 1) := by decide +kernel
theorem dX10_personYearTrouble_9 : decode prog_1_method_64_code 9 = .ok (.ireturn, 1) := by decide +kernel
theorem dX10_personYearTrouble_10 : decode prog_1_method_64_code 10 = .ok (.aload_n 0, 1) := by decide +kernel
theorem dX10_personYearTrouble_11 : decode prog_1_method_64_code 11 = .ok (.iload_n 2, 1) := by decide +kernel
theorem dX10_personYearTrouble_12 : decode prog_1_method_64_code 12 = .ok (.invokevirtual 166, 3) := by decide +kernel
theorem dX10_personYearTrouble_15 : decode prog_1_method_64_code 15 = .ok (.ifCond .eq 7, 3) := by decide +kernel
theorem dX10_personYearTrouble_18 : decode prog_1_method_64_code 18 = .ok (.iconst 2, 1) := by decide +kernel
theorem dX10_personYearTrouble_19 : decode prog_1_method_64_code 19 = .ok (.goto 4, 3) := by decide +kernel
theorem dX10_personYearTrouble_22 : decode prog_1_method_64_code 22 = .ok (.iconst 0, 1) := by decide +kernel
theorem dX10_personYearTrouble_23 : decode prog_1_method_64_code 23 = .ok (.ireturn, 1) := by decide +kernel
theorem dX10_rowTrouble_0 : decode prog_1_method_65_code 0 = .ok (.aload_n 0, 1) := by decide +kernel
theorem dX10_rowTrouble_1 : decode prog_1_method_65_code 1 = .ok (.getfield 53, 3) := by decide +kernel
theorem dX10_rowTrouble_4 : decode prog_1_method_65_code 4 = .ok (.ifCond .ne 5, 3) := by decide +kernel
theorem dX10_rowTrouble_7 : decode prog_1_method_65_code 7 = .ok (.iconst 1, 1) := by decide +kernel
theorem dX10_rowTrouble_8 : decode prog_1_method_65_code 8 = .ok (.ireturn, 1) := by decide +kernel
theorem dX10_rowTrouble_9 : decode prog_1_method_65_code 9 = .ok (.iload_n 1, 1) := by decide +kernel
theorem dX10_rowTrouble_10 : decode prog_1_method_65_code 10 = .ok (.iconst 1, 1) := by decide +kernel
theorem dX10_rowTrouble_11 : decode prog_1_method_65_code 11 = .ok (.if_icmp .lt 8, 3) := by decide +kernel
theorem dX10_rowTrouble_14 : decode prog_1_method_65_code 14 = .ok (.iload_n 1, 1) := by decide +kernel
theorem dX10_rowTrouble_15 : decode prog_1_method_65_code 15 = .ok (.iconst 4, 1) := by decide +kernel
theorem dX10_rowTrouble_16 : decode prog_1_method_65_code 16 = .ok (.if_icmp .le 7, 3) := by decide +kernel
theorem dX10_rowTrouble_19 : decode prog_1_method_65_code 19 = .ok (.iconst 2, 1) := by decide +kernel
theorem dX10_rowTrouble_20 : decode prog_1_method_65_code 20 = .ok (.goto 4, 3) := by decide +kernel
theorem dX10_rowTrouble_23 : decode prog_1_method_65_code 23 = .ok (.iconst 0, 1) := by decide +kernel
theorem dX10_rowTrouble_24 : decode prog_1_method_65_code 24 = .ok (.ireturn, 1) := by decide +kernel
theorem dX10_seedsTrouble_0 : decode prog_1_method_66_code 0 = .ok (.aload_n 0, 1) := by decide +kernel
theorem dX10_seedsTrouble_1 : decode prog_1_method_66_code 1 = .ok (.getfield 53, 3) := by decide +kernel
theorem dX10_seedsTrouble_4 : decode prog_1_method_66_code 4 = .ok (.ifCond .ne 5, 3) := by decide +kernel
theorem dX10_seedsTrouble_7 : decode prog_1_method_66_code 7 = .ok (.iconst 1, 1) := by decide +kernel
theorem dX10_seedsTrouble_8 : decode prog_1_method_66_code 8 = .ok (.ireturn, 1) := by decide +kernel
theorem dX10_seedsTrouble_9 : decode prog_1_method_66_code 9 = .ok (.iload_n 1, 1) := by decide +kernel
theorem dX10_seedsTrouble_10 : decode prog_1_method_66_code 10 = .ok (.iconst 1, 1) := by decide +kernel
theorem dX10_seedsTrouble_11 : decode prog_1_method_66_code 11 = .ok (.if_icmp .lt 10, 3) := by decide +kernel
theorem dX10_seedsTrouble_14 : decode prog_1_method_66_code 14 = .ok (.iload_n 1, 1) := by decide +kernel
theorem dX10_seedsTrouble_15 : decode prog_1_method_66_code 15 = .ok (.sipush 200, 3) := by decide +kernel
theorem dX10_seedsTrouble_18 : decode prog_1_method_66_code 18 = .ok (.if_icmp .le 7, 3) := by decide +kernel
theorem dX10_seedsTrouble_21 : decode prog_1_method_66_code 21 = .ok (.iconst 2, 1) := by decide +kernel
theorem dX10_seedsTrouble_22 : decode prog_1_method_66_code 22 = .ok (.goto 4, 3) := by decide +kernel
theorem dX10_seedsTrouble_25 : decode prog_1_method_66_code 25 = .ok (.iconst 0, 1) := by decide +kernel
theorem dX10_seedsTrouble_26 : decode prog_1_method_66_code 26 = .ok (.ireturn, 1) := by decide +kernel
theorem dX10_measureByLaw_0 : decode prog_1_method_67_code 0 = .ok (.aload_n 0, 1) := by decide +kernel
theorem dX10_measureByLaw_1 : decode prog_1_method_67_code 1 = .ok (.getfield 42, 3) := by decide +kernel
theorem dX10_measureByLaw_4 : decode prog_1_method_67_code 4 = .ok (.iload_n 1, 1) := by decide +kernel
theorem dX10_measureByLaw_5 : decode prog_1_method_67_code 5 = .ok (.aload_n 0, 1) := by decide +kernel
theorem dX10_measureByLaw_6 : decode prog_1_method_67_code 6 = .ok (.getfield 19, 3) := by decide +kernel
theorem dX10_measureByLaw_9 : decode prog_1_method_67_code 9 = .ok (.getfield 81, 3) := by decide +kernel
theorem dX10_measureByLaw_12 : decode prog_1_method_67_code 12 = .ok (.getfield 237, 3) := by decide +kernel
theorem dX10_measureByLaw_15 : decode prog_1_method_67_code 15 = .ok (.invokevirtual 269, 3) := by decide +kernel
theorem dX10_measureByLaw_18 : decode prog_1_method_67_code 18 = .ok (.aload_n 0, 1) := by decide +kernel
theorem dX10_measureByLaw_19 : decode prog_1_method_67_code 19 = .ok (.getfield 42, 3) := by decide +kernel
theorem dX10_measureByLaw_22 : decode prog_1_method_67_code 22 = .ok (.invokevirtual 273, 3) := by decide +kernel
theorem dX10_measureByLaw_25 : decode prog_1_method_67_code 25 = .ok (.iload_n 2, 1) := by decide +kernel
theorem dX10_measureByLaw_26 : decode prog_1_method_67_code 26 = .ok (.tableswitch 50 0 2 #[26, 34, 42], 26) := by decide +kernel
theorem dX10_measureByLaw_52 : decode prog_1_method_67_code 52 = .ok (.aload_n 0, 1) := by decide +kernel
theorem dX10_measureByLaw_53 : decode prog_1_method_67_code 53 = .ok (.getfield 42, 3) := by decide +kernel
theorem dX10_measureByLaw_56 : decode prog_1_method_67_code 56 = .ok (.getfield 179, 3) := by decide +kernel
theorem dX10_measureByLaw_59 : decode prog_1_method_67_code 59 = .ok (.ireturn, 1) := by decide +kernel
theorem dX10_measureByLaw_60 : decode prog_1_method_67_code 60 = .ok (.aload_n 0, 1) := by decide +kernel
theorem dX10_measureByLaw_61 : decode prog_1_method_67_code 61 = .ok (.getfield 42, 3) := by decide +kernel
theorem dX10_measureByLaw_64 : decode prog_1_method_67_code 64 = .ok (.getfield 197, 3) := by decide +kernel
theorem dX10_measureByLaw_67 : decode prog_1_method_67_code 67 = .ok (.ireturn, 1) := by decide +kernel
theorem dX10_measureByLaw_68 : decode prog_1_method_67_code 68 = .ok (.aload_n 0, 1) := by decide +kernel
theorem dX10_measureByLaw_69 : decode prog_1_method_67_code 69 = .ok (.getfield 42, 3) := by decide +kernel
theorem dX10_measureByLaw_72 : decode prog_1_method_67_code 72 = .ok (.invokevirtual 193, 3) := by decide +kernel
theorem dX10_measureByLaw_75 : decode prog_1_method_67_code 75 = .ok (.ireturn, 1) := by decide +kernel
theorem dX10_measureByLaw_76 : decode prog_1_method_67_code 76 = .ok (.aload_n 0, 1) := by decide +kernel
theorem dX10_measureByLaw_77 : decode prog_1_method_67_code 77 = .ok (.getfield 42, 3) := by decide +kernel
theorem dX10_measureByLaw_80 : decode prog_1_method_67_code 80 = .ok (.getfield 343, 3) := by decide +kernel
theorem dX10_measureByLaw_83 : decode prog_1_method_67_code 83 = .ok (.ireturn, 1) := by decide +kernel
theorem dX10_harmOfTrade_0 : decode prog_1_method_68_code 0 = .ok (.aload_n 0, 1) := by decide +kernel
theorem dX10_harmOfTrade_1 : decode prog_1_method_68_code 1 = .ok (.getfield 42, 3) := by decide +kernel
theorem dX10_harmOfTrade_4 : decode prog_1_method_68_code 4 = .ok (.aload_n 0, 1) := by decide +kernel
theorem dX10_harmOfTrade_5 : decode prog_1_method_68_code 5 = .ok (.getfield 19, 3) := by decide +kernel
theorem dX10_harmOfTrade_8 : decode prog_1_method_68_code 8 = .ok (.getfield 81, 3) := by decide +kernel
theorem dX10_harmOfTrade_11 : decode prog_1_method_68_code 11 = .ok (.getfield 293, 3) := by decide +kernel
theorem dX10_harmOfTrade_14 : decode prog_1_method_68_code 14 = .ok (.aload_n 0, 1) := by decide +kernel
theorem dX10_harmOfTrade_15 : decode prog_1_method_68_code 15 = .ok (.getfield 19, 3) := by decide +kernel
theorem dX10_harmOfTrade_18 : decode prog_1_method_68_code 18 = .ok (.getfield 81, 3) := by decide +kernel
theorem dX10_harmOfTrade_21 : decode prog_1_method_68_code 21 = .ok (.getfield 237, 3) := by decide +kernel
theorem dX10_harmOfTrade_24 : decode prog_1_method_68_code 24 = .ok (.invokevirtual 269, 3) := by decide +kernel
theorem dX10_harmOfTrade_27 : decode prog_1_method_68_code 27 = .ok (.aload_n 0, 1) := by decide +kernel
theorem dX10_harmOfTrade_28 : decode prog_1_method_68_code 28 = .ok (.getfield 42, 3) := by decide +kernel
theorem dX10_harmOfTrade_31 : decode prog_1_method_68_code 31 = .ok (.iload_n 1, 1) := by decide +kernel
theorem dX10_harmOfTrade_32 : decode prog_1_method_68_code 32 = .ok (.putfield 346, 3) := by decide +kernel
theorem dX10_harmOfTrade_35 : decode prog_1_method_68_code 35 = .ok (.aload_n 0, 1) := by decide +kernel
theorem dX10_harmOfTrade_36 : decode prog_1_method_68_code 36 = .ok (.getfield 42, 3) := by decide +kernel
theorem dX10_harmOfTrade_39 : decode prog_1_method_68_code 39 = .ok (.iload_n 2, 1) := by decide +kernel
theorem dX10_harmOfTrade_40 : decode prog_1_method_68_code 40 = .ok (.putfield 349, 3) := by decide +kernel
theorem dX10_harmOfTrade_43 : decode prog_1_method_68_code 43 = .ok (.aload_n 0, 1) := by decide +kernel
theorem dX10_harmOfTrade_44 : decode prog_1_method_68_code 44 = .ok (.getfield 42, 3) := by decide +kernel
theorem dX10_harmOfTrade_47 : decode prog_1_method_68_code 47 = .ok (.invokevirtual 273, 3) := by decide +kernel
theorem dX10_harmOfTrade_50 : decode prog_1_method_68_code 50 = .ok (.aload_n 0, 1) := by decide +kernel
theorem dX10_harmOfTrade_51 : decode prog_1_method_68_code 51 = .ok (.getfield 42, 3) := by decide +kernel
theorem dX10_harmOfTrade_54 : decode prog_1_method_68_code 54 = .ok (.getfield 179, 3) := by decide +kernel
theorem dX10_harmOfTrade_57 : decode prog_1_method_68_code 57 = .ok (.aload_n 0, 1) := by decide +kernel
theorem dX10_harmOfTrade_58 : decode prog_1_method_68_code 58 = .ok (.getfield 35, 3) := by decide +kernel
theorem dX10_harmOfTrade_61 : decode prog_1_method_68_code 61 = .ok (.getfield 138, 3) := by decide +kernel
theorem dX10_harmOfTrade_64 : decode prog_1_method_68_code 64 = .ok (.getfield 179, 3) := by decide +kernel
theorem dX10_harmOfTrade_67 : decode prog_1_method_68_code 67 = .ok (.isub, 1) := by decide +kernel
theorem dX10_harmOfTrade_68 : decode prog_1_method_68_code 68 = .ok (.ireturn, 1) := by decide +kernel
theorem dX10_diariesFit_0 : decode prog_1_method_69_code 0 = .ok (.aload_n 0, 1) := by decide +kernel
theorem dX10_diariesFit_1 : decode prog_1_method_69_code 1 = .ok (.getfield 42, 3) := by decide +kernel
theorem dX10_diariesFit_4 : decode prog_1_method_69_code 4 = .ok (.iload_n 1, 1) := by decide +kernel
theorem dX10_diariesFit_5 : decode prog_1_method_69_code 5 = .ok (.iload_n 2, 1) := by decide +kernel
theorem dX10_diariesFit_6 : decode prog_1_method_69_code 6 = .ok (.invokevirtual 269, 3) := by decide +kernel
theorem dX10_diariesFit_9 : decode prog_1_method_69_code 9 = .ok (.aload_n 0, 1) := by decide +kernel
theorem dX10_diariesFit_10 : decode prog_1_method_69_code 10 = .ok (.getfield 42, 3) := by decide +kernel
theorem dX10_diariesFit_13 : decode prog_1_method_69_code 13 = .ok (.invokevirtual 273, 3) := by decide +kernel
theorem dX10_diariesFit_16 : decode prog_1_method_69_code 16 = .ok (.aload_n 0, 1) := by decide +kernel
theorem dX10_diariesFit_17 : decode prog_1_method_69_code 17 = .ok (.getfield 19, 3) := by decide +kernel
theorem dX10_diariesFit_20 : decode prog_1_method_69_code 20 = .ok (.getfield 76, 3) := by decide +kernel
theorem dX10_diariesFit_23 : decode prog_1_method_69_code 23 = .ok (.astore_n 3, 1) := by decide +kernel
theorem dX10_diariesFit_24 : decode prog_1_method_69_code 24 = .ok (.iconst 0, 1) := by decide +kernel
theorem dX10_diariesFit_25 : decode prog_1_method_69_code 25 = .ok (.istore 4, 2) := by decide +kernel
theorem dX10_diariesFit_27 : decode prog_1_method_69_code 27 = .ok (.iload 4, 2) := by decide +kernel
theorem dX10_diariesFit_29 : decode prog_1_method_69_code 29 = .ok (.aload_n 3, 1) := by decide +kernel
theorem dX10_diariesFit_30 : decode prog_1_method_69_code 30 = .ok (.getfield 326, 3) := by decide +kernel
theorem dX10_diariesFit_33 : decode prog_1_method_69_code 33 = .ok (.if_icmp .ge 63, 3) := by decide +kernel
theorem dX10_diariesFit_36 : decode prog_1_method_69_code 36 = .ok (.aload_n 3, 1) := by decide +kernel
theorem dX10_diariesFit_37 : decode prog_1_method_69_code 37 = .ok (.getfield 352, 3) := by decide +kernel
theorem dX10_diariesFit_40 : decode prog_1_method_69_code 40 = .ok (.iload 4, 2) := by decide +kernel
theorem dX10_diariesFit_42 : decode prog_1_method_69_code 42 = .ok (.aaload, 1) := by decide +kernel
theorem dX10_diariesFit_43 : decode prog_1_method_69_code 43 = .ok (.astore 5, 2) := by decide +kernel
theorem dX10_diariesFit_45 : decode prog_1_method_69_code 45 = .ok (.aload_n 0, 1) := by decide +kernel
theorem dX10_diariesFit_46 : decode prog_1_method_69_code 46 = .ok (.getfield 42, 3) := by decide +kernel
theorem dX10_diariesFit_49 : decode prog_1_method_69_code 49 = .ok (.getfield 141, 3) := by decide +kernel
theorem dX10_diariesFit_52 : decode prog_1_method_69_code 52 = .ok (.aload 5, 2) := by decide +kernel
theorem dX10_diariesFit_54 : decode prog_1_method_69_code 54 = .ok (.iconst 0, 1) := by decide +kernel
theorem dX10_diariesFit_55 : decode prog_1_method_69_code 55 = .ok (.iaload, 1) := by decide +kernel
theorem dX10_diariesFit_56 : decode prog_1_method_69_code 56 = .ok (.iaload, 1) := by decide +kernel
theorem dX10_diariesFit_57 : decode prog_1_method_69_code 57 = .ok (.aload 5, 2) := by decide +kernel
theorem dX10_diariesFit_59 : decode prog_1_method_69_code 59 = .ok (.iconst 1, 1) := by decide +kernel
theorem dX10_diariesFit_60 : decode prog_1_method_69_code 60 = .ok (.iaload, 1) := by decide +kernel
theorem dX10_diariesFit_61 : decode prog_1_method_69_code 61 = .ok (.if_icmp .ne 7, 3) := by decide +kernel
theorem dX10_diariesFit_64 : decode prog_1_method_69_code 64 = .ok (.iconst 1, 1) := by decide +kernel
theorem dX10_diariesFit_65 : decode prog_1_method_69_code 65 = .ok (.goto 4, 3) := by decide +kernel
theorem dX10_diariesFit_68 : decode prog_1_method_69_code 68 = .ok (.iconst 0, 1) := by decide +kernel
theorem dX10_diariesFit_69 : decode prog_1_method_69_code 69 = .ok (.istore 6, 2) := by decide +kernel
theorem dX10_diariesFit_71 : decode prog_1_method_69_code 71 = .ok (.iload 6, 2) := by decide +kernel
theorem dX10_diariesFit_73 : decode prog_1_method_69_code 73 = .ok (.aload 5, 2) := by decide +kernel
theorem dX10_diariesFit_75 : decode prog_1_method_69_code 75 = .ok (.iconst 2, 1) := by decide +kernel
theorem dX10_diariesFit_76 : decode prog_1_method_69_code 76 = .ok (.iaload, 1) := by decide +kernel
theorem dX10_diariesFit_77 : decode prog_1_method_69_code 77 = .ok (.ifCond .eq 7, 3) := by decide +kernel
theorem dX10_diariesFit_80 : decode prog_1_method_69_code 80 = .ok (.iconst 1, 1) := by decide +kernel
theorem dX10_diariesFit_81 : decode prog_1_method_69_code 81 = .ok (.goto 4, 3) := by decide +kernel
theorem dX10_diariesFit_84 : decode prog_1_method_69_code 84 = .ok (.iconst 0, 1) := by decide +kernel
theorem dX10_diariesFit_85 : decode prog_1_method_69_code 85 = .ok (.if_icmp .ne 5, 3) := by decide +kernel
theorem dX10_diariesFit_88 : decode prog_1_method_69_code 88 = .ok (.iconst 0, 1) := by decide +kernel
theorem dX10_diariesFit_89 : decode prog_1_method_69_code 89 = .ok (.ireturn, 1) := by decide +kernel
theorem dX10_diariesFit_90 : decode prog_1_method_69_code 90 = .ok (.iinc 4 1, 3) := by decide +kernel
theorem dX10_diariesFit_93 : decode prog_1_method_69_code 93 = .ok (.goto (-66), 3) := by decide +kernel
theorem dX10_diariesFit_96 : decode prog_1_method_69_code 96 = .ok (.iconst 1, 1) := by decide +kernel
theorem dX10_diariesFit_97 : decode prog_1_method_69_code 97 = .ok (.ireturn, 1) := by decide +kernel
theorem dX10_swayedSets_0 : decode prog_1_method_70_code 0 = .ok (.aload_n 0, 1) := by decide +kernel
theorem dX10_swayedSets_1 : decode prog_1_method_70_code 1 = .ok (.getfield 19, 3) := by decide +kernel
theorem dX10_swayedSets_4 : decode prog_1_method_70_code 4 = .ok (.getfield 76, 3) := by decide +kernel
theorem dX10_swayedSets_7 : decode prog_1_method_70_code 7 = .ok (.iload_n 2, 1) := by decide +kernel
theorem dX10_swayedSets_8 : decode prog_1_method_70_code 8 = .ok (.invokevirtual 355, 3) := by decide +kernel
theorem dX10_swayedSets_11 : decode prog_1_method_70_code 11 = .ok (.istore_n 3, 1) := by decide +kernel
theorem dX10_swayedSets_12 : decode prog_1_method_70_code 12 = .ok (.iload_n 2, 1) := by decide +kernel
theorem dX10_swayedSets_13 : decode prog_1_method_70_code 13 = .ok (.iconst 1, 1) := by decide +kernel
theorem dX10_swayedSets_14 : decode prog_1_method_70_code 14 = .ok (.iload_n 1, 1) := by decide +kernel
theorem dX10_swayedSets_15 : decode prog_1_method_70_code 15 = .ok (.ishl, 1) := by decide +kernel
theorem dX10_swayedSets_16 : decode prog_1_method_70_code 16 = .ok (.iconst (-1), 1) := by decide +kernel
theorem dX10_swayedSets_17 : decode prog_1_method_70_code 17 = .ok (.ixor, 1) := by decide +kernel
theorem dX10_swayedSets_18 : decode prog_1_method_70_code 18 = .ok (.iand, 1) := by decide +kernel
theorem dX10_swayedSets_19 : decode prog_1_method_70_code 19 = .ok (.istore 4, 2) := by decide +kernel
theorem dX10_swayedSets_21 : decode prog_1_method_70_code 21 = .ok (.aload_n 0, 1) := by decide +kernel
theorem dX10_swayedSets_22 : decode prog_1_method_70_code 22 = .ok (.getfield 19, 3) := by decide +kernel
theorem dX10_swayedSets_25 : decode prog_1_method_70_code 25 = .ok (.getfield 76, 3) := by decide +kernel
theorem dX10_swayedSets_28 : decode prog_1_method_70_code 28 = .ok (.getfield 112, 3) := by decide +kernel
theorem dX10_swayedSets_31 : decode prog_1_method_70_code 31 = .ok (.iload_n 1, 1) := by decide +kernel
theorem dX10_swayedSets_32 : decode prog_1_method_70_code 32 = .ok (.aaload, 1) := by decide +kernel
theorem dX10_swayedSets_33 : decode prog_1_method_70_code 33 = .ok (.iconst 4, 1) := by decide +kernel
theorem dX10_swayedSets_34 : decode prog_1_method_70_code 34 = .ok (.iaload, 1) := by decide +kernel
theorem dX10_swayedSets_35 : decode prog_1_method_70_code 35 = .ok (.istore 5, 2) := by decide +kernel
theorem dX10_swayedSets_37 : decode prog_1_method_70_code 37 = .ok (.iconst 0, 1) := by decide +kernel
theorem dX10_swayedSets_38 : decode prog_1_method_70_code 38 = .ok (.istore 6, 2) := by decide +kernel
theorem dX10_swayedSets_40 : decode prog_1_method_70_code 40 = .ok (.iconst 0, 1) := by decide +kernel
theorem dX10_swayedSets_41 : decode prog_1_method_70_code 41 = .ok (.istore 7, 2) := by decide +kernel
theorem dX10_swayedSets_43 : decode prog_1_method_70_code 43 = .ok (.iload 7, 2) := by decide +kernel
theorem dX10_swayedSets_45 : decode prog_1_method_70_code 45 = .ok (.iload 4, 2) := by decide +kernel
theorem dX10_swayedSets_47 : decode prog_1_method_70_code 47 = .ok (.if_icmp .gt 55, 3) := by decide +kernel
theorem dX10_swayedSets_50 : decode prog_1_method_70_code 50 = .ok (.iload 7, 2) := by decide +kernel
theorem dX10_swayedSets_52 : decode prog_1_method_70_code 52 = .ok (.iload 4, 2) := by decide +kernel
theorem dX10_swayedSets_54 : decode prog_1_method_70_code 54 = .ok (.iconst (-1), 1) := by decide +kernel
theorem dX10_swayedSets_55 : decode prog_1_method_70_code 55 = .ok (.ixor, 1) := by decide +kernel
theorem dX10_swayedSets_56 : decode prog_1_method_70_code 56 = .ok (.iand, 1) := by decide +kernel
theorem dX10_swayedSets_57 : decode prog_1_method_70_code 57 = .ok (.ifCond .ne 39, 3) := by decide +kernel
theorem dX10_swayedSets_60 : decode prog_1_method_70_code 60 = .ok (.aload_n 0, 1) := by decide +kernel
theorem dX10_swayedSets_61 : decode prog_1_method_70_code 61 = .ok (.getfield 19, 3) := by decide +kernel
theorem dX10_swayedSets_64 : decode prog_1_method_70_code 64 = .ok (.getfield 76, 3) := by decide +kernel
theorem dX10_swayedSets_67 : decode prog_1_method_70_code 67 = .ok (.iload 7, 2) := by decide +kernel
theorem dX10_swayedSets_69 : decode prog_1_method_70_code 69 = .ok (.invokevirtual 355, 3) := by decide +kernel
theorem dX10_swayedSets_72 : decode prog_1_method_70_code 72 = .ok (.istore 8, 2) := by decide +kernel
theorem dX10_swayedSets_74 : decode prog_1_method_70_code 74 = .ok (.iconst 2, 1) := by decide +kernel
theorem dX10_swayedSets_75 : decode prog_1_method_70_code 75 = .ok (.iload 8, 2) := by decide +kernel
theorem dX10_swayedSets_77 : decode prog_1_method_70_code 77 = .ok (.imul, 1) := by decide +kernel
theorem dX10_swayedSets_78 : decode prog_1_method_70_code 78 = .ok (.iload_n 3, 1) := by decide +kernel
theorem dX10_swayedSets_79 : decode prog_1_method_70_code 79 = .ok (.if_icmp .gt 17, 3) := by decide +kernel
theorem dX10_swayedSets_82 : decode prog_1_method_70_code 82 = .ok (.iconst 2, 1) := by decide +kernel
theorem dX10_swayedSets_83 : decode prog_1_method_70_code 83 = .ok (.iload 8, 2) := by decide +kernel
theorem dX10_swayedSets_85 : decode prog_1_method_70_code 85 = .ok (.iload 5, 2) := by decide +kernel
theorem dX10_swayedSets_87 : decode prog_1_method_70_code 87 = .ok (.iadd, 1) := by decide +kernel
theorem dX10_swayedSets_88 : decode prog_1_method_70_code 88 = .ok (.imul, 1) := by decide +kernel
theorem dX10_swayedSets_89 : decode prog_1_method_70_code 89 = .ok (.iload_n 3, 1) := by decide +kernel
theorem dX10_swayedSets_90 : decode prog_1_method_70_code 90 = .ok (.if_icmp .le 6, 3) := by decide +kernel
theorem dX10_swayedSets_93 : decode prog_1_method_70_code 93 = .ok (.iinc 6 1, 3) := by decide +kernel
theorem dX10_swayedSets_96 : decode prog_1_method_70_code 96 = .ok (.iinc 7 1, 3) := by decide +kernel
theorem dX10_swayedSets_99 : decode prog_1_method_70_code 99 = .ok (.goto (-56), 3) := by decide +kernel
theorem dX10_swayedSets_102 : decode prog_1_method_70_code 102 = .ok (.iload 6, 2) := by decide +kernel
theorem dX10_swayedSets_104 : decode prog_1_method_70_code 104 = .ok (.ireturn, 1) := by decide +kernel
theorem dX10_has_0 : decode prog_1_method_71_code 0 = .ok (.iload_n 0, 1) := by decide +kernel
theorem dX10_has_1 : decode prog_1_method_71_code 1 = .ok (.iload_n 1, 1) := by decide +kernel
theorem dX10_has_2 : decode prog_1_method_71_code 2 = .ok (.ishr, 1) := by decide +kernel
theorem dX10_has_3 : decode prog_1_method_71_code 3 = .ok (.iconst 1, 1) := by decide +kernel
theorem dX10_has_4 : decode prog_1_method_71_code 4 = .ok (.iand, 1) := by decide +kernel
theorem dX10_has_5 : decode prog_1_method_71_code 5 = .ok (.ifCond .eq 7, 3) := by decide +kernel
theorem dX10_has_8 : decode prog_1_method_71_code 8 = .ok (.iconst 1, 1) := by decide +kernel
theorem dX10_has_9 : decode prog_1_method_71_code 9 = .ok (.goto 4, 3) := by decide +kernel
theorem dX10_has_12 : decode prog_1_method_71_code 12 = .ok (.iconst 0, 1) := by decide +kernel
theorem dX10_has_13 : decode prog_1_method_71_code 13 = .ok (.ireturn, 1) := by decide +kernel
theorem dX10_commonPart_0 : decode prog_1_method_72_code 0 = .ok (.lload_n 0, 1) := by decide +kernel
theorem dX10_commonPart_1 : decode prog_1_method_72_code 1 = .ok (.lstore 4, 2) := by decide +kernel
theorem dX10_commonPart_3 : decode prog_1_method_72_code 3 = .ok (.lload_n 2, 1) := by decide +kernel
theorem dX10_commonPart_4 : decode prog_1_method_72_code 4 = .ok (.lstore 6, 2) := by decide +kernel
theorem dX10_commonPart_6 : decode prog_1_method_72_code 6 = .ok (.iconst 0, 1) := by decide +kernel
theorem dX10_commonPart_7 : decode prog_1_method_72_code 7 = .ok (.istore 8, 2) := by decide +kernel
theorem dX10_commonPart_9 : decode prog_1_method_72_code 9 = .ok (.iload 8, 2) := by decide +kernel
theorem dX10_commonPart_11 : decode prog_1_method_72_code 11 = .ok (.sipush 200, 3) := by decide +kernel
theorem dX10_commonPart_14 : decode prog_1_method_72_code 14 = .ok (.if_icmp .ge 31, 3) := by decide +kernel
theorem dX10_commonPart_17 : decode prog_1_method_72_code 17 = .ok (.lload 6, 2) := by decide +kernel
theorem dX10_commonPart_19 : decode prog_1_method_72_code 19 = .ok (.lconst 0, 1) := by decide +kernel
theorem dX10_commonPart_20 : decode prog_1_method_72_code 20 = .ok (.lcmp, 1) := by decide +kernel
theorem dX10_commonPart_21 : decode prog_1_method_72_code 21 = .ok (.ifCond .eq 24, 3) := by decide +kernel
theorem dX10_commonPart_24 : decode prog_1_method_72_code 24 = .ok (.lload 4, 2) := by decide +kernel
theorem dX10_commonPart_26 : decode prog_1_method_72_code 26 = .ok (.lload 6, 2) := by decide +kernel
theorem dX10_commonPart_28 : decode prog_1_method_72_code 28 = .ok (.lrem, 1) := by decide +kernel
theorem dX10_commonPart_29 : decode prog_1_method_72_code 29 = .ok (.lstore 9, 2) := by decide +kernel
theorem dX10_commonPart_31 : decode prog_1_method_72_code 31 = .ok (.lload 6, 2) := by decide +kernel
theorem dX10_commonPart_33 : decode prog_1_method_72_code 33 = .ok (.lstore 4, 2) := by decide +kernel
theorem dX10_commonPart_35 : decode prog_1_method_72_code 35 = .ok (.lload 9, 2) := by decide +kernel
theorem dX10_commonPart_37 : decode prog_1_method_72_code 37 = .ok (.lstore 6, 2) := by decide +kernel
theorem dX10_commonPart_39 : decode prog_1_method_72_code 39 = .ok (.iinc 8 1, 3) := by decide +kernel
theorem dX10_commonPart_42 : decode prog_1_method_72_code 42 = .ok (.goto (-33), 3) := by decide +kernel
theorem dX10_commonPart_45 : decode prog_1_method_72_code 45 = .ok (.lload 4, 2) := by decide +kernel
theorem dX10_commonPart_47 : decode prog_1_method_72_code 47 = .ok (.lreturn, 1) := by decide +kernel
theorem dX11_init_0 : decode prog_14_method_1_code 0 = .ok (.aload_n 0, 1) := by decide +kernel
theorem dX11_init_1 : decode prog_14_method_1_code 1 = .ok (.invokespecial 3, 3) := by decide +kernel
theorem dX11_init_4 : decode prog_14_method_1_code 4 = .ok (.aload_n 0, 1) := by decide +kernel
theorem dX11_init_5 : decode prog_14_method_1_code 5 = .ok (.bipush 10, 2) := by decide +kernel
theorem dX11_init_7 : decode prog_14_method_1_code 7 = .ok (.newarray .int, 2) := by decide +kernel
theorem dX11_init_9 : decode prog_14_method_1_code 9 = .ok (.putfield 9, 3) := by decide +kernel
theorem dX11_init_12 : decode prog_14_method_1_code 12 = .ok (.aload_n 0, 1) := by decide +kernel
theorem dX11_init_13 : decode prog_14_method_1_code 13 = .ok (.bipush 10, 2) := by decide +kernel
theorem dX11_init_15 : decode prog_14_method_1_code 15 = .ok (.newarray .int, 2) := by decide +kernel
theorem dX11_init_17 : decode prog_14_method_1_code 17 = .ok (.putfield 15, 3) := by decide +kernel
theorem dX11_init_20 : decode prog_14_method_1_code 20 = .ok (.aload_n 0, 1) := by decide +kernel
theorem dX11_init_21 : decode prog_14_method_1_code 21 = .ok (.bipush 10, 2) := by decide +kernel
theorem dX11_init_23 : decode prog_14_method_1_code 23 = .ok (.newarray .int, 2) := by decide +kernel
theorem dX11_init_25 : decode prog_14_method_1_code 25 = .ok (.putfield 18, 3) := by decide +kernel
theorem dX11_init_28 : decode prog_14_method_1_code 28 = .ok (.aload_n 0, 1) := by decide +kernel
theorem dX11_init_29 : decode prog_14_method_1_code 29 = .ok (.bipush 10, 2) := by decide +kernel
theorem dX11_init_31 : decode prog_14_method_1_code 31 = .ok (.newarray .int, 2) := by decide +kernel
theorem dX11_init_33 : decode prog_14_method_1_code 33 = .ok (.putfield 21, 3) := by decide +kernel
theorem dX11_init_36 : decode prog_14_method_1_code 36 = .ok (.aload_n 0, 1) := by decide +kernel
theorem dX11_init_37 : decode prog_14_method_1_code 37 = .ok (.bipush 10, 2) := by decide +kernel
theorem dX11_init_39 : decode prog_14_method_1_code 39 = .ok (.newarray .int, 2) := by decide +kernel
theorem dX11_init_41 : decode prog_14_method_1_code 41 = .ok (.putfield 24, 3) := by decide +kernel
theorem dX11_init_44 : decode prog_14_method_1_code 44 = .ok (.aload_n 0, 1) := by decide +kernel
theorem dX11_init_45 : decode prog_14_method_1_code 45 = .ok (.bipush 10, 2) := by decide +kernel
theorem dX11_init_47 : decode prog_14_method_1_code 47 = .ok (.newarray .int, 2) := by decide +kernel
theorem dX11_init_49 : decode prog_14_method_1_code 49 = .ok (.putfield 27, 3) := by decide +kernel
theorem dX11_init_52 : decode prog_14_method_1_code 52 = .ok (.aload_n 0, 1) := by decide +kernel
theorem dX11_init_53 : decode prog_14_method_1_code 53 = .ok (.bipush 10, 2) := by decide +kernel
theorem dX11_init_55 : decode prog_14_method_1_code 55 = .ok (.newarray .int, 2) := by decide +kernel
theorem dX11_init_57 : decode prog_14_method_1_code 57 = .ok (.putfield 30, 3) := by decide +kernel
theorem dX11_init_60 : decode prog_14_method_1_code 60 = .ok (.aload_n 0, 1) := by decide +kernel
theorem dX11_init_61 : decode prog_14_method_1_code 61 = .ok (.bipush 12, 2) := by decide +kernel
theorem dX11_init_63 : decode prog_14_method_1_code 63 = .ok (.newarray .int, 2) := by decide +kernel
theorem dX11_init_65 : decode prog_14_method_1_code 65 = .ok (.putfield 33, 3) := by decide +kernel
theorem dX11_init_68 : decode prog_14_method_1_code 68 = .ok (.aload_n 0, 1) := by decide +kernel
theorem dX11_init_69 : decode prog_14_method_1_code 69 = .ok (.bipush 12, 2) := by decide +kernel
theorem dX11_init_71 : decode prog_14_method_1_code 71 = .ok (.newarray .int, 2) := by decide +kernel
theorem dX11_init_73 : decode prog_14_method_1_code 73 = .ok (.putfield 36, 3) := by decide +kernel
theorem dX11_init_76 : decode prog_14_method_1_code 76 = .ok (.aload_n 0, 1) := by decide +kernel
theorem dX11_init_77 : decode prog_14_method_1_code 77 = .ok (.bipush 12, 2) := by decide +kernel
theorem dX11_init_79 : decode prog_14_method_1_code 79 = .ok (.newarray .int, 2) := by decide +kernel
theorem dX11_init_81 : decode prog_14_method_1_code 81 = .ok (.putfield 39, 3) := by decide +kernel
theorem dX11_init_84 : decode prog_14_method_1_code 84 = .ok (.aload_n 0, 1) := by decide +kernel
theorem dX11_init_85 : decode prog_14_method_1_code 85 = .ok (.bipush 12, 2) := by decide +kernel
theorem dX11_init_87 : decode prog_14_method_1_code 87 = .ok (.newarray .int, 2) := by decide +kernel
theorem dX11_init_89 : decode prog_14_method_1_code 89 = .ok (.putfield 42, 3) := by decide +kernel
theorem dX11_init_92 : decode prog_14_method_1_code 92 = .ok (.aload_n 0, 1) := by decide +kernel
theorem dX11_init_93 : decode prog_14_method_1_code 93 = .ok (.bipush 8, 2) := by decide +kernel
theorem dX11_init_95 : decode prog_14_method_1_code 95 = .ok (.newarray .int, 2) := by decide +kernel
theorem dX11_init_97 : decode prog_14_method_1_code 97 = .ok (.putfield 45, 3) := by decide +kernel
theorem dX11_init_100 : decode prog_14_method_1_code 100 = .ok (.aload_n 0, 1) := by decide +kernel
theorem dX11_init_101 : decode prog_14_method_1_code 101 = .ok (.bipush 8, 2) := by decide +kernel
theorem dX11_init_103 : decode prog_14_method_1_code 103 = .ok (.newarray .int, 2) := by decide +kernel
theorem dX11_init_105 : decode prog_14_method_1_code 105 = .ok (.putfield 48, 3) := by decide +kernel
theorem dX11_init_108 : decode prog_14_method_1_code 108 = .ok (.aload_n 0, 1) := by decide +kernel
theorem dX11_init_109 : decode prog_14_method_1_code 109 = .ok (.bipush 8, 2) := by decide +kernel
theorem dX11_init_111 : decode prog_14_method_1_code 111 = .ok (.newarray .int, 2) := by decide +kernel
theorem dX11_init_113 : decode prog_14_method_1_code 113 = .ok (.putfield 51, 3) := by decide +kernel
theorem dX11_init_116 : decode prog_14_method_1_code 116 = .ok (.aload_n 0, 1) := by decide +kernel
theorem dX11_init_117 : decode prog_14_method_1_code 117 = .ok (.bipush 8, 2) := by decide +kernel
theorem dX11_init_119 : decode prog_14_method_1_code 119 = .ok (.newarray .int, 2) := by decide +kernel
theorem dX11_init_121 : decode prog_14_method_1_code 121 = .ok (.putfield 54, 3) := by decide +kernel
theorem dX11_init_124 : decode prog_14_method_1_code 124 = .ok (.aload_n 0, 1) := by decide +kernel
theorem dX11_init_125 : decode prog_14_method_1_code 125 = .ok (.bipush 8, 2) := by decide +kernel
theorem dX11_init_127 : decode prog_14_method_1_code 127 = .ok (.newarray .int, 2) := by decide +kernel
theorem dX11_init_129 : decode prog_14_method_1_code 129 = .ok (.putfield 57, 3) := by decide +kernel
theorem dX11_init_132 : decode prog_14_method_1_code 132 = .ok (.aload_n 0, 1) := by decide +kernel
theorem dX11_init_133 : decode prog_14_method_1_code 133 = .ok (.bipush 80, 2) := by decide +kernel
theorem dX11_init_135 : decode prog_14_method_1_code 135 = .ok (.newarray .int, 2) := by decide +kernel
theorem dX11_init_137 : decode prog_14_method_1_code 137 = .ok (.putfield 60, 3) := by decide +kernel
theorem dX11_init_140 : decode prog_14_method_1_code 140 = .ok (.aload_n 0, 1) := by decide +kernel
theorem dX11_init_141 : decode prog_14_method_1_code 141 = .ok (.bipush 8, 2) := by decide +kernel
theorem dX11_init_143 : decode prog_14_method_1_code 143 = .ok (.newarray .int, 2) := by decide +kernel
theorem dX11_init_145 : decode prog_14_method_1_code 145 = .ok (.putfield 63, 3) := by decide +kernel
theorem dX11_init_148 : decode prog_14_method_1_code 148 = .ok (.aload_n 0, 1) := by decide +kernel
theorem dX11_init_149 : decode prog_14_method_1_code 149 = .ok (.bipush 8, 2) := by decide +kernel
theorem dX11_init_151 : decode prog_14_method_1_code 151 = .ok (.newarray .int, 2) := by decide +kernel
theorem dX11_init_153 : decode prog_14_method_1_code 153 = .ok (.putfield 66, 3) := by decide +kernel
theorem dX11_init_156 : decode prog_14_method_1_code 156 = .ok (.aload_n 0, 1) := by decide +kernel
theorem dX11_init_157 : decode prog_14_method_1_code 157 = .ok (.bipush 8, 2) := by decide +kernel
theorem dX11_init_159 : decode prog_14_method_1_code 159 = .ok (.newarray .boolean, 2) := by decide +kernel
theorem dX11_init_161 : decode prog_14_method_1_code 161 = .ok (.putfield 69, 3) := by decide +kernel
theorem dX11_init_164 : decode prog_14_method_1_code 164 = .ok (.aload_n 0, 1) := by decide +kernel
theorem dX11_init_165 : decode prog_14_method_1_code 165 = .ok (.bipush 18, 2) := by decide +kernel
theorem dX11_init_167 : decode prog_14_method_1_code 167 = .ok (.newarray .long, 2) := by decide +kernel
theorem dX11_init_169 : decode prog_14_method_1_code 169 = .ok (.putfield 73, 3) := by decide +kernel
theorem dX11_init_172 : decode prog_14_method_1_code 172 = .ok (.aload_n 0, 1) := by decide +kernel
theorem dX11_init_173 : decode prog_14_method_1_code 173 = .ok (.bipush 18, 2) := by decide +kernel
theorem dX11_init_175 : decode prog_14_method_1_code 175 = .ok (.newarray .boolean, 2) := by decide +kernel
theorem dX11_init_177 : decode prog_14_method_1_code 177 = .ok (.putfield 77, 3) := by decide +kernel
theorem dX11_init_180 : decode prog_14_method_1_code 180 = .ok (.aload_n 0, 1) := by decide +kernel
theorem dX11_init_181 : decode prog_14_method_1_code 181 = .ok (.bipush 18, 2) := by decide +kernel
theorem dX11_init_183 : decode prog_14_method_1_code 183 = .ok (.newarray .int, 2) := by decide +kernel
theorem dX11_init_185 : decode prog_14_method_1_code 185 = .ok (.putfield 80, 3) := by decide +kernel
theorem dX11_init_188 : decode prog_14_method_1_code 188 = .ok (.return_, 1) := by decide +kernel
theorem dX11_find_0 : decode prog_14_method_2_code 0 = .ok (.iconst 0, 1) := by decide +kernel
theorem dX11_find_1 : decode prog_14_method_2_code 1 = .ok (.istore_n 3, 1) := by decide +kernel
theorem dX11_find_2 : decode prog_14_method_2_code 2 = .ok (.iload_n 3, 1) := by decide +kernel
theorem dX11_find_3 : decode prog_14_method_2_code 3 = .ok (.aload_n 0, 1) := by decide +kernel
theorem dX11_find_4 : decode prog_14_method_2_code 4 = .ok (.getfield 83, 3) := by decide +kernel
theorem dX11_find_7 : decode prog_14_method_2_code 7 = .ok (.if_icmp .ge 22, 3) := by decide +kernel
theorem dX11_find_10 : decode prog_14_method_2_code 10 = .ok (.aload_n 0, 1) := by decide +kernel
theorem dX11_find_11 : decode prog_14_method_2_code 11 = .ok (.getfield 73, 3) := by decide +kernel
theorem dX11_find_14 : decode prog_14_method_2_code 14 = .ok (.iload_n 3, 1) := by decide +kernel
theorem dX11_find_15 : decode prog_14_method_2_code 15 = .ok (.laload, 1) := by decide +kernel
theorem dX11_find_16 : decode prog_14_method_2_code 16 = .ok (.lload_n 1, 1) := by decide +kernel
theorem dX11_find_17 : decode prog_14_method_2_code 17 = .ok (.lcmp, 1) := by decide +kernel
theorem dX11_find_18 : decode prog_14_method_2_code 18 = .ok (.ifCond .ne 5, 3) := by decide +kernel
theorem dX11_find_21 : decode prog_14_method_2_code 21 = .ok (.iload_n 3, 1) := by decide +kernel
theorem dX11_find_22 : decode prog_14_method_2_code 22 = .ok (.ireturn, 1) := by decide +kernel
theorem dX11_find_23 : decode prog_14_method_2_code 23 = .ok (.iinc 3 1, 3) := by decide +kernel
theorem dX11_find_26 : decode prog_14_method_2_code 26 = .ok (.goto (-24), 3) := by decide +kernel
theorem dX11_find_29 : decode prog_14_method_2_code 29 = .ok (.iconst (-1), 1) := by decide +kernel
theorem dX11_find_30 : decode prog_14_method_2_code 30 = .ok (.ireturn, 1) := by decide +kernel
theorem dX11_age_0 : decode prog_14_method_3_code 0 = .ok (.iload_n 2, 1) := by decide +kernel
theorem dX11_age_1 : decode prog_14_method_3_code 1 = .ok (.aload_n 0, 1) := by decide +kernel
theorem dX11_age_2 : decode prog_14_method_3_code 2 = .ok (.getfield 18, 3) := by decide +kernel
theorem dX11_age_5 : decode prog_14_method_3_code 5 = .ok (.iload_n 1, 1) := by decide +kernel
theorem dX11_age_6 : decode prog_14_method_3_code 6 = .ok (.iaload, 1) := by decide +kernel
theorem dX11_age_7 : decode prog_14_method_3_code 7 = .ok (.isub, 1) := by decide +kernel
theorem dX11_age_8 : decode prog_14_method_3_code 8 = .ok (.ireturn, 1) := by decide +kernel
theorem dX11_isBorn_0 : decode prog_14_method_4_code 0 = .ok (.aload_n 0, 1) := by decide +kernel
theorem dX11_isBorn_1 : decode prog_14_method_4_code 1 = .ok (.getfield 18, 3) := by decide +kernel
theorem dX11_isBorn_4 : decode prog_14_method_4_code 4 = .ok (.iload_n 1, 1) := by decide +kernel
theorem dX11_isBorn_5 : decode prog_14_method_4_code 5 = .ok (.iaload, 1) := by decide +kernel
theorem dX11_isBorn_6 : decode prog_14_method_4_code 6 = .ok (.iload_n 2, 1) := by decide +kernel
theorem dX11_isBorn_7 : decode prog_14_method_4_code 7 = .ok (.if_icmp .gt 7, 3) := by decide +kernel
theorem dX11_isBorn_10 : decode prog_14_method_4_code 10 = .ok (.iconst 1, 1) := by decide +kernel
theorem dX11_isBorn_11 : decode prog_14_method_4_code 11 = .ok (.goto 4, 3) := by decide +kernel
theorem dX11_isBorn_14 : decode prog_14_method_4_code 14 = .ok (.iconst 0, 1) := by decide +kernel
theorem dX11_isBorn_15 : decode prog_14_method_4_code 15 = .ok (.ireturn, 1) := by decide +kernel
theorem dX12_init_0 : decode prog_13_method_1_code 0 = .ok (.aload_n 0, 1) := by decide +kernel
theorem dX12_init_1 : decode prog_13_method_1_code 1 = .ok (.invokespecial 3, 3) := by decide +kernel
theorem dX12_init_4 : decode prog_13_method_1_code 4 = .ok (.aload_n 0, 1) := by decide +kernel
theorem dX12_init_5 : decode prog_13_method_1_code 5 = .ok (.iconst (-1), 1) := by decide +kernel
theorem dX12_init_6 : decode prog_13_method_1_code 6 = .ok (.putfield 9, 3) := by decide +kernel
theorem dX12_init_9 : decode prog_13_method_1_code 9 = .ok (.aload_n 0, 1) := by decide +kernel
theorem dX12_init_10 : decode prog_13_method_1_code 10 = .ok (.sipush 1100, 3) := by decide +kernel
theorem dX12_init_13 : decode prog_13_method_1_code 13 = .ok (.newarray .byte, 2) := by decide +kernel
theorem dX12_init_15 : decode prog_13_method_1_code 15 = .ok (.putfield 13, 3) := by decide +kernel
theorem dX12_init_18 : decode prog_13_method_1_code 18 = .ok (.aload_n 0, 1) := by decide +kernel
theorem dX12_init_19 : decode prog_13_method_1_code 19 = .ok (.bipush 45, 2) := by decide +kernel
theorem dX12_init_21 : decode prog_13_method_1_code 21 = .ok (.newarray .int, 2) := by decide +kernel
theorem dX12_init_23 : decode prog_13_method_1_code 23 = .ok (.putfield 17, 3) := by decide +kernel
theorem dX12_init_26 : decode prog_13_method_1_code 26 = .ok (.aload_n 0, 1) := by decide +kernel
theorem dX12_init_27 : decode prog_13_method_1_code 27 = .ok (.sipush 540, 3) := by decide +kernel
theorem dX12_init_30 : decode prog_13_method_1_code 30 = .ok (.newarray .int, 2) := by decide +kernel
theorem dX12_init_32 : decode prog_13_method_1_code 32 = .ok (.putfield 21, 3) := by decide +kernel
theorem dX12_init_35 : decode prog_13_method_1_code 35 = .ok (.aload_n 0, 1) := by decide +kernel
theorem dX12_init_36 : decode prog_13_method_1_code 36 = .ok (.sipush 135, 3) := by decide +kernel
theorem dX12_init_39 : decode prog_13_method_1_code 39 = .ok (.newarray .int, 2) := by decide +kernel
theorem dX12_init_41 : decode prog_13_method_1_code 41 = .ok (.putfield 24, 3) := by decide +kernel
theorem dX12_init_44 : decode prog_13_method_1_code 44 = .ok (.aload_n 0, 1) := by decide +kernel
theorem dX12_init_45 : decode prog_13_method_1_code 45 = .ok (.bipush 24, 2) := by decide +kernel
theorem dX12_init_47 : decode prog_13_method_1_code 47 = .ok (.newarray .int, 2) := by decide +kernel
theorem dX12_init_49 : decode prog_13_method_1_code 49 = .ok (.putfield 27, 3) := by decide +kernel
theorem dX12_init_52 : decode prog_13_method_1_code 52 = .ok (.aload_n 0, 1) := by decide +kernel
theorem dX12_init_53 : decode prog_13_method_1_code 53 = .ok (.bipush 25, 2) := by decide +kernel
theorem dX12_init_55 : decode prog_13_method_1_code 55 = .ok (.newarray .int, 2) := by decide +kernel
theorem dX12_init_57 : decode prog_13_method_1_code 57 = .ok (.putfield 30, 3) := by decide +kernel
theorem dX12_init_60 : decode prog_13_method_1_code 60 = .ok (.aload_n 0, 1) := by decide +kernel
theorem dX12_init_61 : decode prog_13_method_1_code 61 = .ok (.bipush 24, 2) := by decide +kernel
theorem dX12_init_63 : decode prog_13_method_1_code 63 = .ok (.newarray .int, 2) := by decide +kernel
theorem dX12_init_65 : decode prog_13_method_1_code 65 = .ok (.putfield 33, 3) := by decide +kernel
theorem dX12_init_68 : decode prog_13_method_1_code 68 = .ok (.aload_n 0, 1) := by decide +kernel
theorem dX12_init_69 : decode prog_13_method_1_code 69 = .ok (.bipush 24, 2) := by decide +kernel
theorem dX12_init_71 : decode prog_13_method_1_code 71 = .ok (.newarray .int, 2) := by decide +kernel
theorem dX12_init_73 : decode prog_13_method_1_code 73 = .ok (.putfield 36, 3) := by decide +kernel
theorem dX12_init_76 : decode prog_13_method_1_code 76 = .ok (.aload_n 0, 1) := by decide +kernel
theorem dX12_init_77 : decode prog_13_method_1_code 77 = .ok (.bipush 24, 2) := by decide +kernel
theorem dX12_init_79 : decode prog_13_method_1_code 79 = .ok (.newarray .int, 2) := by decide +kernel
theorem dX12_init_81 : decode prog_13_method_1_code 81 = .ok (.putfield 39, 3) := by decide +kernel
theorem dX12_init_84 : decode prog_13_method_1_code 84 = .ok (.aload_n 0, 1) := by decide +kernel
theorem dX12_init_85 : decode prog_13_method_1_code 85 = .ok (.bipush 24, 2) := by decide +kernel
theorem dX12_init_87 : decode prog_13_method_1_code 87 = .ok (.newarray .boolean, 2) := by decide +kernel
theorem dX12_init_89 : decode prog_13_method_1_code 89 = .ok (.putfield 42, 3) := by decide +kernel
theorem dX12_init_92 : decode prog_13_method_1_code 92 = .ok (.aload_n 0, 1) := by decide +kernel
theorem dX12_init_93 : decode prog_13_method_1_code 93 = .ok (.sipush 240, 3) := by decide +kernel
theorem dX12_init_96 : decode prog_13_method_1_code 96 = .ok (.newarray .int, 2) := by decide +kernel
theorem dX12_init_98 : decode prog_13_method_1_code 98 = .ok (.putfield 46, 3) := by decide +kernel
theorem dX12_init_101 : decode prog_13_method_1_code 101 = .ok (.aload_n 0, 1) := by decide +kernel
theorem dX12_init_102 : decode prog_13_method_1_code 102 = .ok (.sipush 240, 3) := by decide +kernel
theorem dX12_init_105 : decode prog_13_method_1_code 105 = .ok (.newarray .int, 2) := by decide +kernel
theorem dX12_init_107 : decode prog_13_method_1_code 107 = .ok (.putfield 49, 3) := by decide +kernel
theorem dX12_init_110 : decode prog_13_method_1_code 110 = .ok (.aload_n 0, 1) := by decide +kernel
theorem dX12_init_111 : decode prog_13_method_1_code 111 = .ok (.sipush 240, 3) := by decide +kernel
theorem dX12_init_114 : decode prog_13_method_1_code 114 = .ok (.newarray .int, 2) := by decide +kernel
theorem dX12_init_116 : decode prog_13_method_1_code 116 = .ok (.putfield 52, 3) := by decide +kernel
theorem dX12_init_119 : decode prog_13_method_1_code 119 = .ok (.aload_n 0, 1) := by decide +kernel
theorem dX12_init_120 : decode prog_13_method_1_code 120 = .ok (.sipush 192, 3) := by decide +kernel
theorem dX12_init_123 : decode prog_13_method_1_code 123 = .ok (.newarray .int, 2) := by decide +kernel
theorem dX12_init_125 : decode prog_13_method_1_code 125 = .ok (.putfield 55, 3) := by decide +kernel
theorem dX12_init_128 : decode prog_13_method_1_code 128 = .ok (.aload_n 0, 1) := by decide +kernel
theorem dX12_init_129 : decode prog_13_method_1_code 129 = .ok (.bipush 10, 2) := by decide +kernel
theorem dX12_init_131 : decode prog_13_method_1_code 131 = .ok (.newarray .int, 2) := by decide +kernel
theorem dX12_init_133 : decode prog_13_method_1_code 133 = .ok (.putfield 58, 3) := by decide +kernel
theorem dX12_init_136 : decode prog_13_method_1_code 136 = .ok (.aload_n 0, 1) := by decide +kernel
theorem dX12_init_137 : decode prog_13_method_1_code 137 = .ok (.bipush 10, 2) := by decide +kernel
theorem dX12_init_139 : decode prog_13_method_1_code 139 = .ok (.newarray .int, 2) := by decide +kernel
theorem dX12_init_141 : decode prog_13_method_1_code 141 = .ok (.putfield 61, 3) := by decide +kernel
theorem dX12_init_144 : decode prog_13_method_1_code 144 = .ok (.aload_n 0, 1) := by decide +kernel
theorem dX12_init_145 : decode prog_13_method_1_code 145 = .ok (.bipush 10, 2) := by decide +kernel
theorem dX12_init_147 : decode prog_13_method_1_code 147 = .ok (.newarray .int, 2) := by decide +kernel
theorem dX12_init_149 : decode prog_13_method_1_code 149 = .ok (.putfield 64, 3) := by decide +kernel
theorem dX12_init_152 : decode prog_13_method_1_code 152 = .ok (.aload_n 0, 1) := by decide +kernel
theorem dX12_init_153 : decode prog_13_method_1_code 153 = .ok (.bipush 10, 2) := by decide +kernel
theorem dX12_init_155 : decode prog_13_method_1_code 155 = .ok (.newarray .int, 2) := by decide +kernel
theorem dX12_init_157 : decode prog_13_method_1_code 157 = .ok (.putfield 67, 3) := by decide +kernel
theorem dX12_init_160 : decode prog_13_method_1_code 160 = .ok (.aload_n 0, 1) := by decide +kernel
theorem dX12_init_161 : decode prog_13_method_1_code 161 = .ok (.bipush 10, 2) := by decide +kernel
theorem dX12_init_163 : decode prog_13_method_1_code 163 = .ok (.newarray .int, 2) := by decide +kernel
theorem dX12_init_165 : decode prog_13_method_1_code 165 = .ok (.putfield 70, 3) := by decide +kernel
theorem dX12_init_168 : decode prog_13_method_1_code 168 = .ok (.aload_n 0, 1) := by decide +kernel
theorem dX12_init_169 : decode prog_13_method_1_code 169 = .ok (.bipush 10, 2) := by decide +kernel
theorem dX12_init_171 : decode prog_13_method_1_code 171 = .ok (.newarray .int, 2) := by decide +kernel
theorem dX12_init_173 : decode prog_13_method_1_code 173 = .ok (.putfield 73, 3) := by decide +kernel
theorem dX12_init_176 : decode prog_13_method_1_code 176 = .ok (.aload_n 0, 1) := by decide +kernel
theorem dX12_init_177 : decode prog_13_method_1_code 177 = .ok (.bipush 8, 2) := by decide +kernel
theorem dX12_init_179 : decode prog_13_method_1_code 179 = .ok (.newarray .int, 2) := by decide +kernel
theorem dX12_init_181 : decode prog_13_method_1_code 181 = .ok (.putfield 76, 3) := by decide +kernel
theorem dX12_init_184 : decode prog_13_method_1_code 184 = .ok (.aload_n 0, 1) := by decide +kernel
theorem dX12_init_185 : decode prog_13_method_1_code 185 = .ok (.iconst 4, 1) := by decide +kernel
theorem dX12_init_186 : decode prog_13_method_1_code 186 = .ok (.newarray .int, 2) := by decide +kernel
theorem dX12_init_188 : decode prog_13_method_1_code 188 = .ok (.putfield 79, 3) := by decide +kernel
theorem dX12_init_191 : decode prog_13_method_1_code 191 = .ok (.aload_n 0, 1) := by decide +kernel
theorem dX12_init_192 : decode prog_13_method_1_code 192 = .ok (.iconst 4, 1) := by decide +kernel
theorem dX12_init_193 : decode prog_13_method_1_code 193 = .ok (.newarray .int, 2) := by decide +kernel
theorem dX12_init_195 : decode prog_13_method_1_code 195 = .ok (.putfield 82, 3) := by decide +kernel
theorem dX12_init_198 : decode prog_13_method_1_code 198 = .ok (.return_, 1) := by decide +kernel
theorem dX12_thrown_0 : decode prog_13_method_2_code 0 = .ok (.aload_n 0, 1) := by decide +kernel
theorem dX12_thrown_1 : decode prog_13_method_2_code 1 = .ok (.getfield 85, 3) := by decide +kernel
theorem dX12_thrown_4 : decode prog_13_method_2_code 4 = .ok (.ireturn, 1) := by decide +kernel
theorem dX12_refused_0 : decode prog_13_method_3_code 0 = .ok (.aload_n 0, 1) := by decide +kernel
theorem dX12_refused_1 : decode prog_13_method_3_code 1 = .ok (.iload_n 1, 1) := by decide +kernel
theorem dX12_refused_2 : decode prog_13_method_3_code 2 = .ok (.putfield 88, 3) := by decide +kernel
theorem dX12_refused_5 : decode prog_13_method_3_code 5 = .ok (.aload_n 0, 1) := by decide +kernel
theorem dX12_refused_6 : decode prog_13_method_3_code 6 = .ok (.iconst (-1), 1) := by decide +kernel
theorem dX12_refused_7 : decode prog_13_method_3_code 7 = .ok (.putfield 9, 3) := by decide +kernel
theorem dX12_refused_10 : decode prog_13_method_3_code 10 = .ok (.iconst (-1), 1) := by decide +kernel
theorem dX12_refused_11 : decode prog_13_method_3_code 11 = .ok (.ireturn, 1) := by decide +kernel
theorem dX12_denied_0 : decode prog_13_method_4_code 0 = .ok (.aload_n 0, 1) := by decide +kernel
theorem dX12_denied_1 : decode prog_13_method_4_code 1 = .ok (.iload_n 1, 1) := by decide +kernel
theorem dX12_denied_2 : decode prog_13_method_4_code 2 = .ok (.invokevirtual 91, 3) := by decide +kernel
theorem dX12_denied_5 : decode prog_13_method_4_code 5 = .ok (.pop, 1) := by decide +kernel
theorem dX12_denied_6 : decode prog_13_method_4_code 6 = .ok (.iconst 0, 1) := by decide +kernel
theorem dX12_denied_7 : decode prog_13_method_4_code 7 = .ok (.ireturn, 1) := by decide +kernel
theorem dX12_refusedFar_0 : decode prog_13_method_5_code 0 = .ok (.aload_n 0, 1) := by decide +kernel
theorem dX12_refusedFar_1 : decode prog_13_method_5_code 1 = .ok (.iload_n 1, 1) := by decide +kernel
theorem dX12_refusedFar_2 : decode prog_13_method_5_code 2 = .ok (.invokevirtual 91, 3) := by decide +kernel
theorem dX12_refusedFar_5 : decode prog_13_method_5_code 5 = .ok (.pop, 1) := by decide +kernel
theorem dX12_refusedFar_6 : decode prog_13_method_5_code 6 = .ok (.sipush (-10000), 3) := by decide +kernel
theorem dX12_refusedFar_9 : decode prog_13_method_5_code 9 = .ok (.ireturn, 1) := by decide +kernel
theorem dX12_good_0 : decode prog_13_method_6_code 0 = .ok (.aload_n 0, 1) := by decide +kernel
theorem dX12_good_1 : decode prog_13_method_6_code 1 = .ok (.iconst 0, 1) := by decide +kernel
theorem dX12_good_2 : decode prog_13_method_6_code 2 = .ok (.putfield 88, 3) := by decide +kernel
theorem dX12_good_5 : decode prog_13_method_6_code 5 = .ok (.aload_n 0, 1) := by decide +kernel
theorem dX12_good_6 : decode prog_13_method_6_code 6 = .ok (.iconst (-1), 1) := by decide +kernel
theorem dX12_good_7 : decode prog_13_method_6_code 7 = .ok (.putfield 9, 3) := by decide +kernel
theorem dX12_good_10 : decode prog_13_method_6_code 10 = .ok (.iload_n 1, 1) := by decide +kernel
theorem dX12_good_11 : decode prog_13_method_6_code 11 = .ok (.ireturn, 1) := by decide +kernel
theorem dX12_granted_0 : decode prog_13_method_7_code 0 = .ok (.aload_n 0, 1) := by decide +kernel
theorem dX12_granted_1 : decode prog_13_method_7_code 1 = .ok (.iconst 0, 1) := by decide +kernel
theorem dX12_granted_2 : decode prog_13_method_7_code 2 = .ok (.invokevirtual 95, 3) := by decide +kernel
theorem dX12_granted_5 : decode prog_13_method_7_code 5 = .ok (.pop, 1) := by decide +kernel
theorem dX12_granted_6 : decode prog_13_method_7_code 6 = .ok (.iconst 1, 1) := by decide +kernel
theorem dX12_granted_7 : decode prog_13_method_7_code 7 = .ok (.ireturn, 1) := by decide +kernel
theorem dX12_in_0 : decode prog_13_method_8_code 0 = .ok (.iload_n 0, 1) := by decide +kernel
theorem dX12_in_1 : decode prog_13_method_8_code 1 = .ok (.iload_n 1, 1) := by decide +kernel
theorem dX12_in_2 : decode prog_13_method_8_code 2 = .ok (.if_icmp .lt 12, 3) := by decide +kernel
theorem dX12_in_5 : decode prog_13_method_8_code 5 = .ok (.iload_n 0, 1) := by decide +kernel
theorem dX12_in_6 : decode prog_13_method_8_code 6 = .ok (.iload_n 2, 1) := by decide +kernel
theorem dX12_in_7 : decode prog_13_method_8_code 7 = .ok (.if_icmp .gt 7, 3) := by decide +kernel
theorem dX12_in_10 : decode prog_13_method_8_code 10 = .ok (.iconst 1, 1) := by decide +kernel
theorem dX12_in_11 : decode prog_13_method_8_code 11 = .ok (.goto 4, 3) := by decide +kernel
theorem dX12_in_14 : decode prog_13_method_8_code 14 = .ok (.iconst 0, 1) := by decide +kernel
theorem dX12_in_15 : decode prog_13_method_8_code 15 = .ok (.ireturn, 1) := by decide +kernel
theorem dX12_bit_0 : decode prog_13_method_9_code 0 = .ok (.iload_n 0, 1) := by decide +kernel
theorem dX12_bit_1 : decode prog_13_method_9_code 1 = .ok (.iload_n 1, 1) := by decide +kernel
theorem dX12_bit_2 : decode prog_13_method_9_code 2 = .ok (.ishr, 1) := by decide +kernel
theorem dX12_bit_3 : decode prog_13_method_9_code 3 = .ok (.iconst 1, 1) := by decide +kernel
theorem dX12_bit_4 : decode prog_13_method_9_code 4 = .ok (.iand, 1) := by decide +kernel
theorem dX12_bit_5 : decode prog_13_method_9_code 5 = .ok (.iconst 1, 1) := by decide +kernel
theorem dX12_bit_6 : decode prog_13_method_9_code 6 = .ok (.if_icmp .ne 7, 3) := by decide +kernel
theorem dX12_bit_9 : decode prog_13_method_9_code 9 = .ok (.iconst 1, 1) := by decide +kernel
theorem dX12_bit_10 : decode prog_13_method_9_code 10 = .ok (.goto 4, 3) := by decide +kernel
theorem dX12_bit_13 : decode prog_13_method_9_code 13 = .ok (.iconst 0, 1) := by decide +kernel
theorem dX12_bit_14 : decode prog_13_method_9_code 14 = .ok (.ireturn, 1) := by decide +kernel
theorem dX12_byteAt_0 : decode prog_13_method_11_code 0 = .ok (.iload_n 1, 1) := by decide +kernel
theorem dX12_byteAt_1 : decode prog_13_method_11_code 1 = .ok (.aload_n 0, 1) := by decide +kernel
theorem dX12_byteAt_2 : decode prog_13_method_11_code 2 = .ok (.getfield 98, 3) := by decide +kernel
theorem dX12_byteAt_5 : decode prog_13_method_11_code 5 = .ok (.if_icmp .ge 16, 3) := by decide +kernel
theorem dX12_byteAt_8 : decode prog_13_method_11_code 8 = .ok (.aload_n 0, 1) := by decide +kernel
theorem dX12_byteAt_9 : decode prog_13_method_11_code 9 = .ok (.getfield 13, 3) := by decide +kernel
theorem dX12_byteAt_12 : decode prog_13_method_11_code 12 = .ok (.iload_n 1, 1) := by decide +kernel
theorem dX12_byteAt_13 : decode prog_13_method_11_code 13 = .ok (.baload, 1) := by decide +kernel
theorem dX12_byteAt_14 : decode prog_13_method_11_code 14 = .ok (.sipush 255, 3) := by decide +kernel
theorem dX12_byteAt_17 : decode prog_13_method_11_code 17 = .ok (.iand, 1) := by decide +kernel
theorem dX12_byteAt_18 : decode prog_13_method_11_code 18 = .ok (.goto 4, 3) := by decide +kernel
theorem dX12_byteAt_21 : decode prog_13_method_11_code 21 = .ok (.iconst (-1), 1) := by decide +kernel
theorem dX12_byteAt_22 : decode prog_13_method_11_code 22 = .ok (.ireturn, 1) := by decide +kernel
theorem dX12_isLetter_0 : decode prog_13_method_12_code 0 = .ok (.iload_n 0, 1) := by decide +kernel
theorem dX12_isLetter_1 : decode prog_13_method_12_code 1 = .ok (.bipush 97, 2) := by decide +kernel
theorem dX12_isLetter_3 : decode prog_13_method_12_code 3 = .ok (.if_icmp .lt 13, 3) := by decide +kernel
theorem dX12_isLetter_6 : decode prog_13_method_12_code 6 = .ok (.iload_n 0, 1) := by decide +kernel
theorem dX12_isLetter_7 : decode prog_13_method_12_code 7 = .ok (.bipush 122, 2) := by decide +kernel
theorem dX12_isLetter_9 : decode prog_13_method_12_code 9 = .ok (.if_icmp .gt 7, 3) := by decide +kernel
theorem dX12_isLetter_12 : decode prog_13_method_12_code 12 = .ok (.iconst 1, 1) := by decide +kernel
theorem dX12_isLetter_13 : decode prog_13_method_12_code 13 = .ok (.goto 4, 3) := by decide +kernel
theorem dX12_isLetter_16 : decode prog_13_method_12_code 16 = .ok (.iconst 0, 1) := by decide +kernel
theorem dX12_isLetter_17 : decode prog_13_method_12_code 17 = .ok (.ireturn, 1) := by decide +kernel
theorem dX12_isDigit_0 : decode prog_13_method_13_code 0 = .ok (.iload_n 0, 1) := by decide +kernel
theorem dX12_isDigit_1 : decode prog_13_method_13_code 1 = .ok (.bipush 48, 2) := by decide +kernel
theorem dX12_isDigit_3 : decode prog_13_method_13_code 3 = .ok (.if_icmp .lt 13, 3) := by decide +kernel
theorem dX12_isDigit_6 : decode prog_13_method_13_code 6 = .ok (.iload_n 0, 1) := by decide +kernel
theorem dX12_isDigit_7 : decode prog_13_method_13_code 7 = .ok (.bipush 57, 2) := by decide +kernel
theorem dX12_isDigit_9 : decode prog_13_method_13_code 9 = .ok (.if_icmp .gt 7, 3) := by decide +kernel
theorem dX12_isDigit_12 : decode prog_13_method_13_code 12 = .ok (.iconst 1, 1) := by decide +kernel
theorem dX12_isDigit_13 : decode prog_13_method_13_code 13 = .ok (.goto 4, 3) := by decide +kernel
theorem dX12_isDigit_16 : decode prog_13_method_13_code 16 = .ok (.iconst 0, 1) := by decide +kernel
theorem dX12_isDigit_17 : decode prog_13_method_13_code 17 = .ok (.ireturn, 1) := by decide +kernel
theorem dX12_wordOf_0 : decode prog_13_method_14_code 0 = .ok (.lconst 0, 1) := by decide +kernel
theorem dX12_wordOf_1 : decode prog_13_method_14_code 1 = .ok (.lstore_n 1, 1) := by decide +kernel
theorem dX12_wordOf_2 : decode prog_13_method_14_code 2 = .ok (.iconst 0, 1) := by decide +kernel
theorem dX12_wordOf_3 : decode prog_13_method_14_code 3 = .ok (.istore_n 3, 1) := by decide +kernel
theorem dX12_wordOf_4 : decode prog_13_method_14_code 4 = .ok (.iload_n 3, 1) := by decide +kernel
theorem dX12_wordOf_5 : decode prog_13_method_14_code 5 = .ok (.aload_n 0, 1) := by decide +kernel
theorem dX12_wordOf_6 : decode prog_13_method_14_code 6 = .ok (.invokevirtual 101, 3) := by decide +kernel
theorem dX12_wordOf_9 : decode prog_13_method_14_code 9 = .ok (.if_icmp .ge 27, 3) := by decide +kernel
theorem dX12_wordOf_12 : decode prog_13_method_14_code 12 = .ok (.ldc2_w 107, 3) := by decide +kernel
theorem dX12_wordOf_15 : decode prog_13_method_14_code 15 = .ok (.lload_n 1, 1) := by decide +kernel
theorem dX12_wordOf_16 : decode prog_13_method_14_code 16 = .ok (.lmul, 1) := by decide +kernel
theorem dX12_wordOf_17 : decode prog_13_method_14_code 17 = .ok (.aload_n 0, 1) := by decide +kernel
theorem dX12_wordOf_18 : decode prog_13_method_14_code 18 = .ok (.iload_n 3, 1) := by decide +kernel
theorem dX12_wordOf_19 : decode prog_13_method_14_code 19 = .ok (.invokevirtual 109, 3) := by decide +kernel
theorem dX12_wordOf_22 : decode prog_13_method_14_code 22 = .ok (.bipush 97, 2) := by decide +kernel
theorem dX12_wordOf_24 : decode prog_13_method_14_code 24 = .ok (.isub, 1) := by decide +kernel
theorem dX12_wordOf_25 : decode prog_13_method_14_code 25 = .ok (.iconst 1, 1) := by decide +kernel
theorem dX12_wordOf_26 : decode prog_13_method_14_code 26 = .ok (.iadd, 1) := by decide +kernel
theorem dX12_wordOf_27 : decode prog_13_method_14_code 27 = .ok (.i2l, 1) := by decide +kernel
theorem dX12_wordOf_28 : decode prog_13_method_14_code 28 = .ok (.ladd, 1) := by decide +kernel
theorem dX12_wordOf_29 : decode prog_13_method_14_code 29 = .ok (.lstore_n 1, 1) := by decide +kernel
theorem dX12_wordOf_30 : decode prog_13_method_14_code 30 = .ok (.iinc 3 1, 3) := by decide +kernel
theorem dX12_wordOf_33 : decode prog_13_method_14_code 33 = .ok (.goto (-29), 3) := by decide +kernel
theorem dX12_wordOf_36 : decode prog_13_method_14_code 36 = .ok (.lload_n 1, 1) := by decide +kernel
theorem dX12_wordOf_37 : decode prog_13_method_14_code 37 = .ok (.lreturn, 1) := by decide +kernel
theorem dX12_goesOn_0 : decode prog_13_method_15_code 0 = .ok (.aload_n 0, 1) := by decide +kernel
theorem dX12_goesOn_1 : decode prog_13_method_15_code 1 = .ok (.getfield 113, 3) := by decide +kernel
theorem dX12_goesOn_4 : decode prog_13_method_15_code 4 = .ok (.iconst 5, 1) := by decide +kernel
theorem dX12_goesOn_5 : decode prog_13_method_15_code 5 = .ok (.if_icmp .ne 4, 3) := by decide +kernel
theorem dX12_goesOn_8 : decode prog_13_method_15_code 8 = .ok (.return_, 1) := by decide +kernel
theorem dX12_goesOn_9 : decode prog_13_method_15_code 9 = .ok (.aload_n 0, 1) := by decide +kernel
theorem dX12_goesOn_10 : decode prog_13_method_15_code 10 = .ok (.aload_n 0, 1) := by decide +kernel
theorem dX12_goesOn_11 : decode prog_13_method_15_code 11 = .ok (.getfield 116, 3) := by decide +kernel
theorem dX12_goesOn_14 : decode prog_13_method_15_code 14 = .ok (.invokevirtual 119, 3) := by decide +kernel
theorem dX12_goesOn_17 : decode prog_13_method_15_code 17 = .ok (.bipush 32, 2) := by decide +kernel
theorem dX12_goesOn_19 : decode prog_13_method_15_code 19 = .ok (.if_icmp .ne 16, 3) := by decide +kernel
theorem dX12_goesOn_22 : decode prog_13_method_15_code 22 = .ok (.aload_n 0, 1) := by decide +kernel
theorem dX12_goesOn_23 : decode prog_13_method_15_code 23 = .ok (.dup, 1) := by decide +kernel
theorem dX12_goesOn_24 : decode prog_13_method_15_code 24 = .ok (.getfield 116, 3) := by decide +kernel
theorem dX12_goesOn_27 : decode prog_13_method_15_code 27 = .ok (.iconst 1, 1) := by decide +kernel
theorem dX12_goesOn_28 : decode prog_13_method_15_code 28 = .ok (.iadd, 1) := by decide +kernel
theorem dX12_goesOn_29 : decode prog_13_method_15_code 29 = .ok (.putfield 116, 3) := by decide +kernel
theorem dX12_goesOn_32 : decode prog_13_method_15_code 32 = .ok (.goto (-23), 3) := by decide +kernel
theorem dX12_goesOn_35 : decode prog_13_method_15_code 35 = .ok (.aload_n 0, 1) := by decide +kernel
theorem dX12_goesOn_36 : decode prog_13_method_15_code 36 = .ok (.aload_n 0, 1) := by decide +kernel
theorem dX12_goesOn_37 : decode prog_13_method_15_code 37 = .ok (.getfield 116, 3) := by decide +kernel
theorem dX12_goesOn_40 : decode prog_13_method_15_code 40 = .ok (.putfield 122, 3) := by decide +kernel
theorem dX12_goesOn_43 : decode prog_13_method_15_code 43 = .ok (.aload_n 0, 1) := by decide +kernel
theorem dX12_goesOn_44 : decode prog_13_method_15_code 44 = .ok (.iconst 0, 1) := by decide +kernel
theorem dX12_goesOn_45 : decode prog_13_method_15_code 45 = .ok (.putfield 113, 3) := by decide +kernel
theorem dX12_goesOn_48 : decode prog_13_method_15_code 48 = .ok (.aload_n 0, 1) := by decide +kernel
theorem dX12_goesOn_49 : decode prog_13_method_15_code 49 = .ok (.aload_n 0, 1) := by decide +kernel
theorem dX12_goesOn_50 : decode prog_13_method_15_code 50 = .ok (.getfield 116, 3) := by decide +kernel
theorem dX12_goesOn_53 : decode prog_13_method_15_code 53 = .ok (.invokevirtual 119, 3) := by decide +kernel
theorem dX12_goesOn_56 : decode prog_13_method_15_code 56 = .ok (.istore_n 1, 1) := by decide +kernel
theorem dX12_goesOn_57 : decode prog_13_method_15_code 57 = .ok (.iconst 0, 1) := by decide +kernel
theorem dX12_goesOn_58 : decode prog_13_method_15_code 58 = .ok (.istore_n 2, 1) := by decide +kernel
theorem dX12_goesOn_59 : decode prog_13_method_15_code 59 = .ok (.iload_n 1, 1) := by decide +kernel
theorem dX12_goesOn_60 : decode prog_13_method_15_code 60 = .ok (.iconst (-1), 1) := by decide +kernel
theorem dX12_goesOn_61 : decode prog_13_method_15_code 61 = .ok (.if_icmp .ne 11, 3) := by decide +kernel
theorem dX12_goesOn_64 : decode prog_13_method_15_code 64 = .ok (.aload_n 0, 1) := by decide +kernel
theorem dX12_goesOn_65 : decode prog_13_method_15_code 65 = .ok (.iconst 1, 1) := by decide +kernel
theorem dX12_goesOn_66 : decode prog_13_method_15_code 66 = .ok (.putfield 113, 3) := by decide +kernel
theorem dX12_goesOn_69 : decode prog_13_method_15_code 69 = .ok (.goto 196, 3) := by decide +kernel
theorem dX12_goesOn_72 : decode prog_13_method_15_code 72 = .ok (.iload_n 1, 1) := by decide +kernel
theorem dX12_goesOn_73 : decode prog_13_method_15_code 73 = .ok (.invokestatic 125, 3) := by decide +kernel
theorem dX12_goesOn_76 : decode prog_13_method_15_code 76 = .ok (.ifCond .eq 85, 3) := by decide +kernel
theorem dX12_goesOn_79 : decode prog_13_method_15_code 79 = .ok (.aload_n 0, 1) := by decide +kernel
theorem dX12_goesOn_80 : decode prog_13_method_15_code 80 = .ok (.lconst 0, 1) := by decide +kernel
theorem dX12_goesOn_81 : decode prog_13_method_15_code 81 = .ok (.putfield 129, 3) := by decide +kernel
theorem dX12_goesOn_84 : decode prog_13_method_15_code 84 = .ok (.aload_n 0, 1) := by decide +kernel
theorem dX12_goesOn_85 : decode prog_13_method_15_code 85 = .ok (.aload_n 0, 1) := by decide +kernel
theorem dX12_goesOn_86 : decode prog_13_method_15_code 86 = .ok (.getfield 116, 3) := by decide +kernel
theorem dX12_goesOn_89 : decode prog_13_method_15_code 89 = .ok (.invokevirtual 119, 3) := by decide +kernel
theorem dX12_goesOn_92 : decode prog_13_method_15_code 92 = .ok (.invokestatic 125, 3) := by decide +kernel
theorem dX12_goesOn_95 : decode prog_13_method_15_code 95 = .ok (.ifCond .eq 52, 3) := by decide +kernel
theorem dX12_goesOn_98 : decode prog_13_method_15_code 98 = .ok (.iload_n 2, 1) := by decide +kernel
theorem dX12_goesOn_99 : decode prog_13_method_15_code 99 = .ok (.bipush 8, 2) := by decide +kernel
theorem dX12_goesOn_101 : decode prog_13_method_15_code 101 = .ok (.if_icmp .ge 30, 3) := by decide +kernel
theorem dX12_goesOn_104 : decode prog_13_method_15_code 104 = .ok (.aload_n 0, 1) := by decide +kernel
theorem dX12_goesOn_105 : decode prog_13_method_15_code 105 = .ok (.ldc2_w 107, 3) := by decide +kernel
theorem dX12_goesOn_108 : decode prog_13_method_15_code 108 = .ok (.aload_n 0, 1) := by decide +kernel
theorem dX12_goesOn_109 : decode prog_13_method_15_code 109 = .ok (.getfield 129, 3) := by decide +kernel
theorem dX12_goesOn_112 : decode prog_13_method_15_code 112 = .ok (.lmul, 1) := by decide +kernel
theorem dX12_goesOn_113 : decode prog_13_method_15_code 113 = .ok (.aload_n 0, 1) := by decide +kernel
theorem dX12_goesOn_114 : decode prog_13_method_15_code 114 = .ok (.aload_n 0, 1) := by decide +kernel
theorem dX12_goesOn_115 : decode prog_13_method_15_code 115 = .ok (.getfield 116, 3) := by decide +kernel
theorem dX12_goesOn_118 : decode prog_13_method_15_code 118 = .ok (.invokevirtual 119, 3) := by decide +kernel
theorem dX12_goesOn_121 : decode prog_13_method_15_code 121 = .ok (.bipush 97, 2) := by decide +kernel
theorem dX12_goesOn_123 : decode prog_13_method_15_code 123 = .ok (.isub, 1) := by decide +kernel
theorem dX12_goesOn_124 : decode prog_13_method_15_code 124 = .ok (.iconst 1, 1) := by decide +kernel
theorem dX12_goesOn_125 : decode prog_13_method_15_code 125 = .ok (.iadd, 1) := by decide +kernel
theorem dX12_goesOn_126 : decode prog_13_method_15_code 126 = .ok (.i2l, 1) := by decide +kernel
theorem dX12_goesOn_127 : decode prog_13_method_15_code 127 = .ok (.ladd, 1) := by decide +kernel
theorem dX12_goesOn_128 : decode prog_13_method_15_code 128 = .ok (.putfield 129, 3) := by decide +kernel
theorem dX12_goesOn_131 : decode prog_13_method_15_code 131 = .ok (.iinc 2 1, 3) := by decide +kernel
theorem dX12_goesOn_134 : decode prog_13_method_15_code 134 = .ok (.aload_n 0, 1) := by decide +kernel
theorem dX12_goesOn_135 : decode prog_13_method_15_code 135 = .ok (.dup, 1) := by decide +kernel
theorem dX12_goesOn_136 : decode prog_13_method_15_code 136 = .ok (.getfield 116, 3) := by decide +kernel
theorem dX12_goesOn_139 : decode prog_13_method_15_code 139 = .ok (.iconst 1, 1) := by decide +kernel
theorem dX12_goesOn_140 : decode prog_13_method_15_code 140 = .ok (.iadd, 1) := by decide +kernel
theorem dX12_goesOn_141 : decode prog_13_method_15_code 141 = .ok (.putfield 116, 3) := by decide +kernel
theorem dX12_goesOn_144 : decode prog_13_method_15_code 144 = .ok (.goto (-60), 3) := by decide +kernel
theorem dX12_goesOn_147 : decode prog_13_method_15_code 147 = .ok (.iload_n 2, 1) := by decide +kernel
theorem dX12_goesOn_148 : decode prog_13_method_15_code 148 = .ok (.bipush 8, 2) := by decide +kernel
theorem dX12_goesOn_150 : decode prog_13_method_15_code 150 = .ok (.if_icmp .gt 115, 3) := by decide +kernel
theorem dX12_goesOn_153 : decode prog_13_method_15_code 153 = .ok (.aload_n 0, 1) := by decide +kernel
theorem dX12_goesOn_154 : decode prog_13_method_15_code 154 = .ok (.iconst 2, 1) := by decide +kernel
theorem dX12_goesOn_155 : decode prog_13_method_15_code 155 = .ok (.putfield 113, 3) := by decide +kernel
theorem dX12_goesOn_158 : decode prog_13_method_15_code 158 = .ok (.goto 107, 3) := by decide +kernel
theorem dX12_goesOn_161 : decode prog_13_method_15_code 161 = .ok (.iload_n 1, 1) := by decide +kernel
theorem dX12_goesOn_162 : decode prog_13_method_15_code 162 = .ok (.invokestatic 133, 3) := by decide +kernel
theorem dX12_goesOn_165 : decode prog_13_method_15_code 165 = .ok (.ifCond .eq 79, 3) := by decide +kernel
theorem dX12_goesOn_168 : decode prog_13_method_15_code 168 = .ok (.aload_n 0, 1) := by decide +kernel
theorem dX12_goesOn_169 : decode prog_13_method_15_code 169 = .ok (.iconst 0, 1) := by decide +kernel
theorem dX12_goesOn_170 : decode prog_13_method_15_code 170 = .ok (.putfield 136, 3) := by decide +kernel
theorem dX12_goesOn_173 : decode prog_13_method_15_code 173 = .ok (.aload_n 0, 1) := by decide +kernel
theorem dX12_goesOn_174 : decode prog_13_method_15_code 174 = .ok (.aload_n 0, 1) := by decide +kernel
theorem dX12_goesOn_175 : decode prog_13_method_15_code 175 = .ok (.getfield 116, 3) := by decide +kernel
theorem dX12_goesOn_178 : decode prog_13_method_15_code 178 = .ok (.invokevirtual 119, 3) := by decide +kernel
theorem dX12_goesOn_181 : decode prog_13_method_15_code 181 = .ok (.invokestatic 133, 3) := by decide +kernel
theorem dX12_goesOn_184 : decode prog_13_method_15_code 184 = .ok (.ifCond .eq 47, 3) := by decide +kernel
theorem dX12_goesOn_187 : decode prog_13_method_15_code 187 = .ok (.iload_n 2, 1) := by decide +kernel
theorem dX12_goesOn_188 : decode prog_13_method_15_code 188 = .ok (.iconst 3, 1) := by decide +kernel
theorem dX12_goesOn_189 : decode prog_13_method_15_code 189 = .ok (.if_icmp .ge 26, 3) := by decide +kernel
theorem dX12_goesOn_192 : decode prog_13_method_15_code 192 = .ok (.aload_n 0, 1) := by decide +kernel
theorem dX12_goesOn_193 : decode prog_13_method_15_code 193 = .ok (.bipush 10, 2) := by decide +kernel
theorem dX12_goesOn_195 : decode prog_13_method_15_code 195 = .ok (.aload_n 0, 1) := by decide +kernel
theorem dX12_goesOn_196 : decode prog_13_method_15_code 196 = .ok (.getfield 136, 3) := by decide +kernel
theorem dX12_goesOn_199 : decode prog_13_method_15_code 199 = .ok (.imul, 1) := by decide +kernel
theorem dX12_goesOn_200 : decode prog_13_method_15_code 200 = .ok (.aload_n 0, 1) := by decide +kernel
theorem dX12_goesOn_201 : decode prog_13_method_15_code 201 = .ok (.aload_n 0, 1) := by decide +kernel
theorem dX12_goesOn_202 : decode prog_13_method_15_code 202 = .ok (.getfield 116, 3) := by decide +kernel
theorem dX12_goesOn_205 : decode prog_13_method_15_code 205 = .ok (.invokevirtual 119, 3) := by decide +kernel
theorem dX12_goesOn_208 : decode prog_13_method_15_code 208 = .ok (.iadd, 1) := by decide +kernel
theorem dX12_goesOn_209 : decode prog_13_method_15_code 209 = .ok (.bipush 48, 2) := by decide +kernel
theorem dX12_goesOn_211 : decode prog_13_method_15_code 211 = .ok (.isub, 1) := by decide +kernel
theorem dX12_goesOn_212 : decode prog_13_method_15_code 212 = .ok (.putfield 136, 3) := by decide +kernel
theorem dX12_goesOn_215 : decode prog_13_method_15_code 215 = .ok (.iinc 2 1, 3) := by decide +kernel
theorem dX12_goesOn_218 : decode prog_13_method_15_code 218 = .ok (.aload_n 0, 1) := by decide +kernel
theorem dX12_goesOn_219 : decode prog_13_method_15_code 219 = .ok (.dup, 1) := by decide +kernel
theorem dX12_goesOn_220 : decode prog_13_method_15_code 220 = .ok (.getfield 116, 3) := by decide +kernel
theorem dX12_goesOn_223 : decode prog_13_method_15_code 223 = .ok (.iconst 1, 1) := by decide +kernel
theorem dX12_goesOn_224 : decode prog_13_method_15_code 224 = .ok (.iadd, 1) := by decide +kernel
theorem dX12_goesOn_225 : decode prog_13_method_15_code 225 = .ok (.putfield 116, 3) := by decide +kernel
theorem dX12_goesOn_228 : decode prog_13_method_15_code 228 = .ok (.goto (-55), 3) := by decide +kernel
theorem dX12_goesOn_231 : decode prog_13_method_15_code 231 = .ok (.iload_n 2, 1) := by decide +kernel
theorem dX12_goesOn_232 : decode prog_13_method_15_code 232 = .ok (.iconst 3, 1) := by decide +kernel
theorem dX12_goesOn_233 : decode prog_13_method_15_code 233 = .ok (.if_icmp .gt 32, 3) := by decide +kernel
theorem dX12_goesOn_236 : decode prog_13_method_15_code 236 = .ok (.aload_n 0, 1) := by decide +kernel
theorem dX12_goesOn_237 : decode prog_13_method_15_code 237 = .ok (.iconst 3, 1) := by decide +kernel
theorem dX12_goesOn_238 : decode prog_13_method_15_code 238 = .ok (.putfield 113, 3) := by decide +kernel
theorem dX12_goesOn_241 : decode prog_13_method_15_code 241 = .ok (.goto 24, 3) := by decide +kernel
theorem dX12_goesOn_244 : decode prog_13_method_15_code 244 = .ok (.iload_n 1, 1) := by decide +kernel
theorem dX12_goesOn_245 : decode prog_13_method_15_code 245 = .ok (.bipush 59, 2) := by decide +kernel
theorem dX12_goesOn_247 : decode prog_13_method_15_code 247 = .ok (.if_icmp .ne 18, 3) := by decide +kernel
theorem dX12_goesOn_250 : decode prog_13_method_15_code 250 = .ok (.aload_n 0, 1) := by decide +kernel
theorem dX12_goesOn_251 : decode prog_13_method_15_code 251 = .ok (.iconst 4, 1) := by decide +kernel
theorem dX12_goesOn_252 : decode prog_13_method_15_code 252 = .ok (.putfield 113, 3) := by decide +kernel
theorem dX12_goesOn_255 : decode prog_13_method_15_code 255 = .ok (.aload_n 0, 1) := by decide +kernel
theorem dX12_goesOn_256 : decode prog_13_method_15_code 256 = .ok (.dup, 1) := by decide +kernel
theorem dX12_goesOn_257 : decode prog_13_method_15_code 257 = .ok (.getfield 116, 3) := by decide +kernel
theorem dX12_goesOn_260 : decode prog_13_method_15_code 260 = .ok (.iconst 1, 1) := by decide +kernel
theorem dX12_goesOn_261 : decode prog_13_method_15_code 261 = .ok (.iadd, 1) := by decide +kernel
theorem dX12_goesOn_262 : decode prog_13_method_15_code 262 = .ok (.putfield 116, 3) := by decide +kernel
theorem dX12_goesOn_265 : decode prog_13_method_15_code 265 = .ok (.return_, 1) := by decide +kernel
theorem dX12_flaw_0 : decode prog_13_method_16_code 0 = .ok (.aload_n 0, 1) := by decide +kernel
theorem dX12_flaw_1 : decode prog_13_method_16_code 1 = .ok (.getfield 113, 3) := by decide +kernel
theorem dX12_flaw_4 : decode prog_13_method_16_code 4 = .ok (.iconst 5, 1) := by decide +kernel
theorem dX12_flaw_5 : decode prog_13_method_16_code 5 = .ok (.if_icmp .ne 4, 3) := by decide +kernel
theorem dX12_flaw_8 : decode prog_13_method_16_code 8 = .ok (.return_, 1) := by decide +kernel
theorem dX12_flaw_9 : decode prog_13_method_16_code 9 = .ok (.aload_n 0, 1) := by decide +kernel
theorem dX12_flaw_10 : decode prog_13_method_16_code 10 = .ok (.iload_n 1, 1) := by decide +kernel
theorem dX12_flaw_11 : decode prog_13_method_16_code 11 = .ok (.putfield 139, 3) := by decide +kernel
theorem dX12_flaw_14 : decode prog_13_method_16_code 14 = .ok (.aload_n 0, 1) := by decide +kernel
theorem dX12_flaw_15 : decode prog_13_method_16_code 15 = .ok (.aload_n 0, 1) := by decide +kernel
theorem dX12_flaw_16 : decode prog_13_method_16_code 16 = .ok (.getfield 122, 3) := by decide +kernel
theorem dX12_flaw_19 : decode prog_13_method_16_code 19 = .ok (.putfield 142, 3) := by decide +kernel
theorem dX12_flaw_22 : decode prog_13_method_16_code 22 = .ok (.aload_n 0, 1) := by decide +kernel
theorem dX12_flaw_23 : decode prog_13_method_16_code 23 = .ok (.iconst 5, 1) := by decide +kernel
theorem dX12_flaw_24 : decode prog_13_method_16_code 24 = .ok (.putfield 113, 3) := by decide +kernel
theorem dX12_flaw_27 : decode prog_13_method_16_code 27 = .ok (.return_, 1) := by decide +kernel
theorem dX12_isWord_0 : decode prog_13_method_17_code 0 = .ok (.aload_n 0, 1) := by decide +kernel
theorem dX12_isWord_1 : decode prog_13_method_17_code 1 = .ok (.getfield 113, 3) := by decide +kernel
theorem dX12_isWord_4 : decode prog_13_method_17_code 4 = .ok (.iconst 2, 1) := by decide +kernel
theorem dX12_isWord_5 : decode prog_13_method_17_code 5 = .ok (.if_icmp .ne 19, 3) := by decide +kernel
theorem dX12_isWord_8 : decode prog_13_method_17_code 8 = .ok (.aload_n 0, 1) := by decide +kernel
theorem dX12_isWord_9 : decode prog_13_method_17_code 9 = .ok (.getfield 129, 3) := by decide +kernel
theorem dX12_isWord_12 : decode prog_13_method_17_code 12 = .ok (.aload_n 1, 1) := by decide +kernel
theorem dX12_isWord_13 : decode prog_13_method_17_code 13 = .ok (.invokestatic 145, 3) := by decide +kernel
theorem dX12_isWord_16 : decode prog_13_method_17_code 16 = .ok (.lcmp, 1) := by decide +kernel
theorem dX12_isWord_17 : decode prog_13_method_17_code 17 = .ok (.ifCond .ne 7, 3) := by decide +kernel
theorem dX12_isWord_20 : decode prog_13_method_17_code 20 = .ok (.iconst 1, 1) := by decide +kernel
theorem dX12_isWord_21 : decode prog_13_method_17_code 21 = .ok (.goto 4, 3) := by decide +kernel
theorem dX12_isWord_24 : decode prog_13_method_17_code 24 = .ok (.iconst 0, 1) := by decide +kernel
theorem dX12_isWord_25 : decode prog_13_method_17_code 25 = .ok (.ireturn, 1) := by decide +kernel
theorem dX12_eatsSemicolon_0 : decode prog_13_method_18_code 0 = .ok (.aload_n 0, 1) := by decide +kernel
theorem dX12_eatsSemicolon_1 : decode prog_13_method_18_code 1 = .ok (.getfield 113, 3) := by decide +kernel
theorem dX12_eatsSemicolon_4 : decode prog_13_method_18_code 4 = .ok (.iconst 4, 1) := by decide +kernel
theorem dX12_eatsSemicolon_5 : decode prog_13_method_18_code 5 = .ok (.if_icmp .ne 7, 3) := by decide +kernel
theorem dX12_eatsSemicolon_8 : decode prog_13_method_18_code 8 = .ok (.iconst 1, 1) := by decide +kernel
theorem dX12_eatsSemicolon_9 : decode prog_13_method_18_code 9 = .ok (.goto 4, 3) := by decide +kernel
theorem dX12_eatsSemicolon_12 : decode prog_13_method_18_code 12 = .ok (.iconst 0, 1) := by decide +kernel
theorem dX12_eatsSemicolon_13 : decode prog_13_method_18_code 13 = .ok (.istore_n 1, 1) := by decide +kernel
theorem dX12_eatsSemicolon_14 : decode prog_13_method_18_code 14 = .ok (.iload_n 1, 1) := by decide +kernel
theorem dX12_eatsSemicolon_15 : decode prog_13_method_18_code 15 = .ok (.ifCond .eq 7, 3) := by decide +kernel
theorem dX12_eatsSemicolon_18 : decode prog_13_method_18_code 18 = .ok (.aload_n 0, 1) := by decide +kernel
theorem dX12_eatsSemicolon_19 : decode prog_13_method_18_code 19 = .ok (.invokevirtual 149, 3) := by decide +kernel
theorem dX12_eatsSemicolon_22 : decode prog_13_method_18_code 22 = .ok (.iload_n 1, 1) := by decide +kernel
theorem dX12_eatsSemicolon_23 : decode prog_13_method_18_code 23 = .ok (.ireturn, 1) := by decide +kernel
theorem dX12_needs_0 : decode prog_13_method_19_code 0 = .ok (.aload_n 0, 1) := by decide +kernel
theorem dX12_needs_1 : decode prog_13_method_19_code 1 = .ok (.aload_n 1, 1) := by decide +kernel
theorem dX12_needs_2 : decode prog_13_method_19_code 2 = .ok (.invokevirtual 152, 3) := by decide +kernel
theorem dX12_needs_5 : decode prog_13_method_19_code 5 = .ok (.ifCond .ne 8, 3) := by decide +kernel
theorem dX12_needs_8 : decode prog_13_method_19_code 8 = .ok (.aload_n 0, 1) := by decide +kernel
theorem dX12_needs_9 : decode prog_13_method_19_code 9 = .ok (.iconst 1, 1) := by decide +kernel
theorem dX12_needs_10 : decode prog_13_method_19_code 10 = .ok (.invokevirtual 156, 3) := by decide +kernel
theorem dX12_needs_13 : decode prog_13_method_19_code 13 = .ok (.aload_n 0, 1) := by decide +kernel
theorem dX12_needs_14 : decode prog_13_method_19_code 14 = .ok (.invokevirtual 149, 3) := by decide +kernel
theorem dX12_needs_17 : decode prog_13_method_19_code 17 = .ok (.return_, 1) := by decide +kernel
theorem dX12_readWhole_0 : decode prog_13_method_20_code 0 = .ok (.aload_n 0, 1) := by decide +kernel
theorem dX12_readWhole_1 : decode prog_13_method_20_code 1 = .ok (.getfield 113, 3) := by decide +kernel
theorem dX12_readWhole_4 : decode prog_13_method_20_code 4 = .ok (.iconst 3, 1) := by decide +kernel
theorem dX12_readWhole_5 : decode prog_13_method_20_code 5 = .ok (.if_icmp .eq 11, 3) := by decide +kernel
theorem dX12_readWhole_8 : decode prog_13_method_20_code 8 = .ok (.aload_n 0, 1) := by decide +kernel
theorem dX12_readWhole_9 : decode prog_13_method_20_code 9 = .ok (.iconst 1, 1) := by decide +kernel
theorem dX12_readWhole_10 : decode prog_13_method_20_code 10 = .ok (.invokevirtual 156, 3) := by decide +kernel
theorem dX12_readWhole_13 : decode prog_13_method_20_code 13 = .ok (.goto 20, 3) := by decide +kernel
theorem dX12_readWhole_16 : decode prog_13_method_20_code 16 = .ok (.aload_n 0, 1) := by decide +kernel
theorem dX12_readWhole_17 : decode prog_13_method_20_code 17 = .ok (.getfield 136, 3) := by decide +kernel
theorem dX12_readWhole_20 : decode prog_13_method_20_code 20 = .ok (.iload_n 1, 1) := by decide +kernel
theorem dX12_readWhole_21 : decode prog_13_method_20_code 21 = .ok (.iload_n 2, 1) := by decide +kernel
theorem dX12_readWhole_22 : decode prog_13_method_20_code 22 = .ok (.invokestatic 160, 3) := by decide +kernel
theorem dX12_readWhole_25 : decode prog_13_method_20_code 25 = .ok (.ifCond .ne 8, 3) := by decide +kernel
theorem dX12_readWhole_28 : decode prog_13_method_20_code 28 = .ok (.aload_n 0, 1) := by decide +kernel
theorem dX12_readWhole_29 : decode prog_13_method_20_code 29 = .ok (.iconst 4, 1) := by decide +kernel
theorem dX12_readWhole_30 : decode prog_13_method_20_code 30 = .ok (.invokevirtual 156, 3) := by decide +kernel
theorem dX12_readWhole_33 : decode prog_13_method_20_code 33 = .ok (.aload_n 0, 1) := by decide +kernel
theorem dX12_readWhole_34 : decode prog_13_method_20_code 34 = .ok (.getfield 113, 3) := by decide +kernel
theorem dX12_readWhole_37 : decode prog_13_method_20_code 37 = .ok (.iconst 5, 1) := by decide +kernel
theorem dX12_readWhole_38 : decode prog_13_method_20_code 38 = .ok (.if_icmp .ne 7, 3) := by decide +kernel
theorem dX12_readWhole_41 : decode prog_13_method_20_code 41 = .ok (.iload_n 1, 1) := by decide +kernel
theorem dX12_readWhole_42 : decode prog_13_method_20_code 42 = .ok (.goto 7, 3) := by decide +kernel
theorem dX12_readWhole_45 : decode prog_13_method_20_code 45 = .ok (.aload_n 0, 1) := by decide +kernel
theorem dX12_readWhole_46 : decode prog_13_method_20_code 46 = .ok (.getfield 136, 3) := by decide +kernel
theorem dX12_readWhole_49 : decode prog_13_method_20_code 49 = .ok (.istore_n 3, 1) := by decide +kernel
theorem dX12_readWhole_50 : decode prog_13_method_20_code 50 = .ok (.aload_n 0, 1) := by decide +kernel
theorem dX12_readWhole_51 : decode prog_13_method_20_code 51 = .ok (.invokevirtual 149, 3) := by decide +kernel
theorem dX12_readWhole_54 : decode prog_13_method_20_code 54 = .ok (.iload_n 3, 1) := by decide +kernel
theorem dX12_readWhole_55 : decode prog_13_method_20_code 55 = .ok (.ireturn, 1) := by decide +kernel
theorem dX12_readPart_0 : decode prog_13_method_21_code 0 = .ok (.aload_n 0, 1) := by decide +kernel
theorem dX12_readPart_1 : decode prog_13_method_21_code 1 = .ok (.aload_n 1, 1) := by decide +kernel
theorem dX12_readPart_2 : decode prog_13_method_21_code 2 = .ok (.invokevirtual 164, 3) := by decide +kernel
theorem dX12_readPart_5 : decode prog_13_method_21_code 5 = .ok (.aload_n 0, 1) := by decide +kernel
theorem dX12_readPart_6 : decode prog_13_method_21_code 6 = .ok (.iload_n 2, 1) := by decide +kernel
theorem dX12_readPart_7 : decode prog_13_method_21_code 7 = .ok (.iload_n 3, 1) := by decide +kernel
theorem dX12_readPart_8 : decode prog_13_method_21_code 8 = .ok (.invokevirtual 168, 3) := by decide +kernel
theorem dX12_readPart_11 : decode prog_13_method_21_code 11 = .ok (.ireturn, 1) := by decide +kernel
theorem dX12_readYear_0 : decode prog_13_method_22_code 0 = .ok (.aload_n 0, 1) := by decide +kernel
theorem dX12_readYear_1 : decode prog_13_method_22_code 1 = .ok (.iload_n 1, 1) := by decide +kernel
theorem dX12_readYear_2 : decode prog_13_method_22_code 2 = .ok (.aload_n 0, 1) := by decide +kernel
theorem dX12_readYear_3 : decode prog_13_method_22_code 3 = .ok (.getfield 172, 3) := by decide +kernel
theorem dX12_readYear_6 : decode prog_13_method_22_code 6 = .ok (.getfield 176, 3) := by decide +kernel
theorem dX12_readYear_9 : decode prog_13_method_22_code 9 = .ok (.iconst 1, 1) := by decide +kernel
theorem dX12_readYear_10 : decode prog_13_method_22_code 10 = .ok (.isub, 1) := by decide +kernel
theorem dX12_readYear_11 : decode prog_13_method_22_code 11 = .ok (.invokevirtual 168, 3) := by decide +kernel
theorem dX12_readYear_14 : decode prog_13_method_22_code 14 = .ok (.ireturn, 1) := by decide +kernel
theorem dX12_isName_0 : decode prog_13_method_23_code 0 = .ok (.aload_n 0, 1) := by decide +kernel
theorem dX12_isName_1 : decode prog_13_method_23_code 1 = .ok (.getfield 113, 3) := by decide +kernel
theorem dX12_isName_4 : decode prog_13_method_23_code 4 = .ok (.iconst 2, 1) := by decide +kernel
theorem dX12_isName_5 : decode prog_13_method_23_code 5 = .ok (.if_icmp .ne 48, 3) := by decide +kernel
theorem dX12_isName_8 : decode prog_13_method_23_code 8 = .ok (.aload_n 0, 1) := by decide +kernel
theorem dX12_isName_9 : decode prog_13_method_23_code 9 = .ok (.ldc 181, 2) := by decide +kernel
theorem dX12_isName_11 : decode prog_13_method_23_code 11 = .ok (.invokevirtual 152, 3) := by decide +kernel
theorem dX12_isName_14 : decode prog_13_method_23_code 14 = .ok (.ifCond .ne 39, 3) := by decide +kernel
theorem dX12_isName_17 : decode prog_13_method_23_code 17 = .ok (.aload_n 0, 1) := by decide +kernel
theorem dX12_isName_18 : decode prog_13_method_23_code 18 = .ok (.ldc 183, 2) := by decide +kernel
theorem dX12_isName_20 : decode prog_13_method_23_code 20 = .ok (.invokevirtual 152, 3) := by decide +kernel
theorem dX12_isName_23 : decode prog_13_method_23_code 23 = .ok (.ifCond .ne 30, 3) := by decide +kernel
theorem dX12_isName_26 : decode prog_13_method_23_code 26 = .ok (.aload_n 0, 1) := by decide +kernel
theorem dX12_isName_27 : decode prog_13_method_23_code 27 = .ok (.ldc 185, 2) := by decide +kernel
theorem dX12_isName_29 : decode prog_13_method_23_code 29 = .ok (.invokevirtual 152, 3) := by decide +kernel
theorem dX12_isName_32 : decode prog_13_method_23_code 32 = .ok (.ifCond .ne 21, 3) := by decide +kernel
theorem dX12_isName_35 : decode prog_13_method_23_code 35 = .ok (.aload_n 0, 1) := by decide +kernel
theorem dX12_isName_36 : decode prog_13_method_23_code 36 = .ok (.ldc 187, 2) := by decide +kernel
theorem dX12_isName_38 : decode prog_13_method_23_code 38 = .ok (.invokevirtual 152, 3) := by decide +kernel
theorem dX12_isName_41 : decode prog_13_method_23_code 41 = .ok (.ifCond .ne 12, 3) := by decide +kernel
theorem dX12_isName_44 : decode prog_13_method_23_code 44 = .ok (.aload_n 0, 1) := by decide +kernel
theorem dX12_isName_45 : decode prog_13_method_23_code 45 = .ok (.ldc 189, 2) := by decide +kernel
theorem dX12_isName_47 : decode prog_13_method_23_code 47 = .ok (.invokevirtual 152, 3) := by decide +kernel
theorem dX12_isName_50 : decode prog_13_method_23_code 50 = .ok (.ifCond .eq 5, 3) := by decide +kernel
theorem dX12_isName_53 : decode prog_13_method_23_code 53 = .ok (.iconst 0, 1) := by decide +kernel
theorem dX12_isName_54 : decode prog_13_method_23_code 54 = .ok (.ireturn, 1) := by decide +kernel
theorem dX12_isName_55 : decode prog_13_method_23_code 55 = .ok (.aload_n 0, 1) := by decide +kernel
theorem dX12_isName_56 : decode prog_13_method_23_code 56 = .ok (.ldc 191, 2) := by decide +kernel
theorem dX12_isName_58 : decode prog_13_method_23_code 58 = .ok (.invokevirtual 152, 3) := by decide +kernel
theorem dX12_isName_61 : decode prog_13_method_23_code 61 = .ok (.ifCond .ne 34, 3) := by decide +kernel
theorem dX12_isName_64 : decode prog_13_method_23_code 64 = .ok (.aload_n 0, 1) := by decide +kernel
theorem dX12_isName_65 : decode prog_13_method_23_code 65 = .ok (.ldc 193, 2) := by decide +kernel
theorem dX12_isName_67 : decode prog_13_method_23_code 67 = .ok (.invokevirtual 152, 3) := by decide +kernel
theorem dX12_isName_70 : decode prog_13_method_23_code 70 = .ok (.ifCond .ne 25, 3) := by decide +kernel
theorem dX12_isName_73 : decode prog_13_method_23_code 73 = .ok (.aload_n 0, 1) := by decide +kernel
theorem dX12_isName_74 : decode prog_13_method_23_code 74 = .ok (.ldc 195, 2) := by decide +kernel
theorem dX12_isName_76 : decode prog_13_method_23_code 76 = .ok (.invokevirtual 152, 3) := by decide +kernel
theorem dX12_isName_79 : decode prog_13_method_23_code 79 = .ok (.ifCond .ne 16, 3) := by decide +kernel
theorem dX12_isName_82 : decode prog_13_method_23_code 82 = .ok (.aload_n 0, 1) := by decide +kernel
theorem dX12_isName_83 : decode prog_13_method_23_code 83 = .ok (.ldc 197, 2) := by decide +kernel
theorem dX12_isName_85 : decode prog_13_method_23_code 85 = .ok (.invokevirtual 152, 3) := by decide +kernel
theorem dX12_isName_88 : decode prog_13_method_23_code 88 = .ok (.ifCond .ne 7, 3) := by decide +kernel
theorem dX12_isName_91 : decode prog_13_method_23_code 91 = .ok (.iconst 1, 1) := by decide +kernel
theorem dX12_isName_92 : decode prog_13_method_23_code 92 = .ok (.goto 4, 3) := by decide +kernel
theorem dX12_isName_95 : decode prog_13_method_23_code 95 = .ok (.iconst 0, 1) := by decide +kernel
theorem dX12_isName_96 : decode prog_13_method_23_code 96 = .ok (.ireturn, 1) := by decide +kernel
theorem dX12_begins_0 : decode prog_13_method_24_code 0 = .ok (.iload_n 1, 1) := by decide +kernel
theorem dX12_begins_1 : decode prog_13_method_24_code 1 = .ok (.iload_n 2, 1) := by decide +kernel
theorem dX12_begins_2 : decode prog_13_method_24_code 2 = .ok (.if_icmp .ne 8, 3) := by decide +kernel
theorem dX12_begins_5 : decode prog_13_method_24_code 5 = .ok (.aload_n 0, 1) := by decide +kernel
theorem dX12_begins_6 : decode prog_13_method_24_code 6 = .ok (.iconst 5, 1) := by decide +kernel
theorem dX12_begins_7 : decode prog_13_method_24_code 7 = .ok (.invokevirtual 156, 3) := by decide +kernel
theorem dX12_begins_10 : decode prog_13_method_24_code 10 = .ok (.aload_n 0, 1) := by decide +kernel
theorem dX12_begins_11 : decode prog_13_method_24_code 11 = .ok (.getfield 172, 3) := by decide +kernel
theorem dX12_begins_14 : decode prog_13_method_24_code 14 = .ok (.getfield 176, 3) := by decide +kernel
theorem dX12_begins_17 : decode prog_13_method_24_code 17 = .ok (.ifCond .ne 9, 3) := by decide +kernel
theorem dX12_begins_20 : decode prog_13_method_24_code 20 = .ok (.aload_n 0, 1) := by decide +kernel
theorem dX12_begins_21 : decode prog_13_method_24_code 21 = .ok (.bipush 6, 2) := by decide +kernel
theorem dX12_begins_23 : decode prog_13_method_24_code 23 = .ok (.invokevirtual 156, 3) := by decide +kernel
theorem dX12_begins_26 : decode prog_13_method_24_code 26 = .ok (.aload_n 0, 1) := by decide +kernel
theorem dX12_begins_27 : decode prog_13_method_24_code 27 = .ok (.invokevirtual 149, 3) := by decide +kernel
theorem dX12_begins_30 : decode prog_13_method_24_code 30 = .ok (.return_, 1) := by decide +kernel
theorem dX12_readFresh_0 : decode prog_13_method_25_code 0 = .ok (.aload_n 0, 1) := by decide +kernel
theorem dX12_readFresh_1 : decode prog_13_method_25_code 1 = .ok (.invokevirtual 199, 3) := by decide +kernel
theorem dX12_readFresh_4 : decode prog_13_method_25_code 4 = .ok (.ifCond .ne 8, 3) := by decide +kernel
theorem dX12_readFresh_7 : decode prog_13_method_25_code 7 = .ok (.aload_n 0, 1) := by decide +kernel
theorem dX12_readFresh_8 : decode prog_13_method_25_code 8 = .ok (.iconst 1, 1) := by decide +kernel
theorem dX12_readFresh_9 : decode prog_13_method_25_code 9 = .ok (.invokevirtual 156, 3) := by decide +kernel
theorem dX12_readFresh_12 : decode prog_13_method_25_code 12 = .ok (.aload_n 0, 1) := by decide +kernel
theorem dX12_readFresh_13 : decode prog_13_method_25_code 13 = .ok (.getfield 172, 3) := by decide +kernel
theorem dX12_readFresh_16 : decode prog_13_method_25_code 16 = .ok (.aload_n 0, 1) := by decide +kernel
theorem dX12_readFresh_17 : decode prog_13_method_25_code 17 = .ok (.getfield 129, 3) := by decide +kernel
theorem dX12_readFresh_20 : decode prog_13_method_25_code 20 = .ok (.invokevirtual 203, 3) := by decide +kernel
theorem dX12_readFresh_23 : decode prog_13_method_25_code 23 = .ok (.iconst (-1), 1) := by decide +kernel
theorem dX12_readFresh_24 : decode prog_13_method_25_code 24 = .ok (.if_icmp .eq 8, 3) := by decide +kernel
theorem dX12_readFresh_27 : decode prog_13_method_25_code 27 = .ok (.aload_n 0, 1) := by decide +kernel
theorem dX12_readFresh_28 : decode prog_13_method_25_code 28 = .ok (.iconst 3, 1) := by decide +kernel
theorem dX12_readFresh_29 : decode prog_13_method_25_code 29 = .ok (.invokevirtual 156, 3) := by decide +kernel
theorem dX12_readFresh_32 : decode prog_13_method_25_code 32 = .ok (.aload_n 0, 1) := by decide +kernel
theorem dX12_readFresh_33 : decode prog_13_method_25_code 33 = .ok (.getfield 129, 3) := by decide +kernel
theorem dX12_readFresh_36 : decode prog_13_method_25_code 36 = .ok (.lstore_n 1, 1) := by decide +kernel
theorem dX12_readFresh_37 : decode prog_13_method_25_code 37 = .ok (.aload_n 0, 1) := by decide +kernel
theorem dX12_readFresh_38 : decode prog_13_method_25_code 38 = .ok (.invokevirtual 149, 3) := by decide +kernel
theorem dX12_readFresh_41 : decode prog_13_method_25_code 41 = .ok (.lload_n 1, 1) := by decide +kernel
theorem dX12_readFresh_42 : decode prog_13_method_25_code 42 = .ok (.lreturn, 1) := by decide +kernel
theorem dX12_names_0 : decode prog_13_method_26_code 0 = .ok (.aload_n 0, 1) := by decide +kernel
theorem dX12_names_1 : decode prog_13_method_26_code 1 = .ok (.getfield 172, 3) := by decide +kernel
theorem dX12_names_4 : decode prog_13_method_26_code 4 = .ok (.getfield 207, 3) := by decide +kernel
theorem dX12_names_7 : decode prog_13_method_26_code 7 = .ok (.aload_n 0, 1) := by decide +kernel
theorem dX12_names_8 : decode prog_13_method_26_code 8 = .ok (.getfield 172, 3) := by decide +kernel
theorem dX12_names_11 : decode prog_13_method_26_code 11 = .ok (.getfield 211, 3) := by decide +kernel
theorem dX12_names_14 : decode prog_13_method_26_code 14 = .ok (.lload_n 1, 1) := by decide +kernel
theorem dX12_names_15 : decode prog_13_method_26_code 15 = .ok (.lastore, 1) := by decide +kernel
theorem dX12_names_16 : decode prog_13_method_26_code 16 = .ok (.aload_n 0, 1) := by decide +kernel
theorem dX12_names_17 : decode prog_13_method_26_code 17 = .ok (.getfield 172, 3) := by decide +kernel
theorem dX12_names_20 : decode prog_13_method_26_code 20 = .ok (.getfield 214, 3) := by decide +kernel
theorem dX12_names_23 : decode prog_13_method_26_code 23 = .ok (.aload_n 0, 1) := by decide +kernel
theorem dX12_names_24 : decode prog_13_method_26_code 24 = .ok (.getfield 172, 3) := by decide +kernel
theorem dX12_names_27 : decode prog_13_method_26_code 27 = .ok (.getfield 211, 3) := by decide +kernel
theorem dX12_names_30 : decode prog_13_method_26_code 30 = .ok (.iload_n 3, 1) := by decide +kernel
theorem dX12_names_31 : decode prog_13_method_26_code 31 = .ok (.bastore, 1) := by decide +kernel
theorem dX12_names_32 : decode prog_13_method_26_code 32 = .ok (.aload_n 0, 1) := by decide +kernel
theorem dX12_names_33 : decode prog_13_method_26_code 33 = .ok (.getfield 172, 3) := by decide +kernel
theorem dX12_names_36 : decode prog_13_method_26_code 36 = .ok (.getfield 217, 3) := by decide +kernel
theorem dX12_names_39 : decode prog_13_method_26_code 39 = .ok (.aload_n 0, 1) := by decide +kernel
theorem dX12_names_40 : decode prog_13_method_26_code 40 = .ok (.getfield 172, 3) := by decide +kernel
theorem dX12_names_43 : decode prog_13_method_26_code 43 = .ok (.getfield 211, 3) := by decide +kernel
theorem dX12_names_46 : decode prog_13_method_26_code 46 = .ok (.iload 4, 2) := by decide +kernel
theorem dX12_names_48 : decode prog_13_method_26_code 48 = .ok (.iastore, 1) := by decide +kernel
theorem dX12_names_49 : decode prog_13_method_26_code 49 = .ok (.aload_n 0, 1) := by decide +kernel
theorem dX12_names_50 : decode prog_13_method_26_code 50 = .ok (.getfield 172, 3) := by decide +kernel
theorem dX12_names_53 : decode prog_13_method_26_code 53 = .ok (.dup, 1) := by decide +kernel
theorem dX12_names_54 : decode prog_13_method_26_code 54 = .ok (.getfield 211, 3) := by decide +kernel
theorem dX12_names_57 : decode prog_13_method_26_code 57 = .ok (.iconst 1, 1) := by decide +kernel
theorem dX12_names_58 : decode prog_13_method_26_code 58 = .ok (.iadd, 1) := by decide +kernel
theorem dX12_names_59 : decode prog_13_method_26_code 59 = .ok (.putfield 211, 3) := by decide +kernel
theorem dX12_names_62 : decode prog_13_method_26_code 62 = .ok (.return_, 1) := by decide +kernel
theorem dX12_known_0 : decode prog_13_method_27_code 0 = .ok (.aload_n 0, 1) := by decide +kernel
theorem dX12_known_1 : decode prog_13_method_27_code 1 = .ok (.invokevirtual 199, 3) := by decide +kernel
theorem dX12_known_4 : decode prog_13_method_27_code 4 = .ok (.ifCond .ne 8, 3) := by decide +kernel
theorem dX12_known_7 : decode prog_13_method_27_code 7 = .ok (.aload_n 0, 1) := by decide +kernel
theorem dX12_known_8 : decode prog_13_method_27_code 8 = .ok (.iconst 1, 1) := by decide +kernel
theorem dX12_known_9 : decode prog_13_method_27_code 9 = .ok (.invokevirtual 156, 3) := by decide +kernel
theorem dX12_known_12 : decode prog_13_method_27_code 12 = .ok (.aload_n 0, 1) := by decide +kernel
theorem dX12_known_13 : decode prog_13_method_27_code 13 = .ok (.getfield 172, 3) := by decide +kernel
theorem dX12_known_16 : decode prog_13_method_27_code 16 = .ok (.aload_n 0, 1) := by decide +kernel
theorem dX12_known_17 : decode prog_13_method_27_code 17 = .ok (.getfield 129, 3) := by decide +kernel
theorem dX12_known_20 : decode prog_13_method_27_code 20 = .ok (.invokevirtual 203, 3) := by decide +kernel
theorem dX12_known_23 : decode prog_13_method_27_code 23 = .ok (.istore_n 2, 1) := by decide +kernel
theorem dX12_known_24 : decode prog_13_method_27_code 24 = .ok (.iload_n 2, 1) := by decide +kernel
theorem dX12_known_25 : decode prog_13_method_27_code 25 = .ok (.iconst (-1), 1) := by decide +kernel
theorem dX12_known_26 : decode prog_13_method_27_code 26 = .ok (.if_icmp .eq 16, 3) := by decide +kernel
theorem dX12_known_29 : decode prog_13_method_27_code 29 = .ok (.aload_n 0, 1) := by decide +kernel
theorem dX12_known_30 : decode prog_13_method_27_code 30 = .ok (.getfield 172, 3) := by decide +kernel
theorem dX12_known_33 : decode prog_13_method_27_code 33 = .ok (.getfield 214, 3) := by decide +kernel
theorem dX12_known_36 : decode prog_13_method_27_code 36 = .ok (.iload_n 2, 1) := by decide +kernel
theorem dX12_known_37 : decode prog_13_method_27_code 37 = .ok (.baload, 1) := by decide +kernel
theorem dX12_known_38 : decode prog_13_method_27_code 38 = .ok (.iload_n 1, 1) := by decide +kernel
theorem dX12_known_39 : decode prog_13_method_27_code 39 = .ok (.if_icmp .eq 8, 3) := by decide +kernel
theorem dX12_known_42 : decode prog_13_method_27_code 42 = .ok (.aload_n 0, 1) := by decide +kernel
theorem dX12_known_43 : decode prog_13_method_27_code 43 = .ok (.iconst 2, 1) := by decide +kernel
theorem dX12_known_44 : decode prog_13_method_27_code 44 = .ok (.invokevirtual 156, 3) := by decide +kernel
theorem dX12_known_47 : decode prog_13_method_27_code 47 = .ok (.aload_n 0, 1) := by decide +kernel
theorem dX12_known_48 : decode prog_13_method_27_code 48 = .ok (.getfield 113, 3) := by decide +kernel
theorem dX12_known_51 : decode prog_13_method_27_code 51 = .ok (.iconst 5, 1) := by decide +kernel
theorem dX12_known_52 : decode prog_13_method_27_code 52 = .ok (.if_icmp .ne 7, 3) := by decide +kernel
theorem dX12_known_55 : decode prog_13_method_27_code 55 = .ok (.iconst 0, 1) := by decide +kernel
theorem dX12_known_56 : decode prog_13_method_27_code 56 = .ok (.goto 12, 3) := by decide +kernel
theorem dX12_known_59 : decode prog_13_method_27_code 59 = .ok (.aload_n 0, 1) := by decide +kernel
theorem dX12_known_60 : decode prog_13_method_27_code 60 = .ok (.getfield 172, 3) := by decide +kernel
theorem dX12_known_63 : decode prog_13_method_27_code 63 = .ok (.getfield 217, 3) := by decide +kernel
theorem dX12_known_66 : decode prog_13_method_27_code 66 = .ok (.iload_n 2, 1) := by decide +kernel
theorem dX12_known_67 : decode prog_13_method_27_code 67 = .ok (.iaload, 1) := by decide +kernel
theorem dX12_known_68 : decode prog_13_method_27_code 68 = .ok (.ireturn, 1) := by decide +kernel
theorem dX12_readPerson_0 : decode prog_13_method_28_code 0 = .ok (.aload_n 0, 1) := by decide +kernel
theorem dX12_readPerson_1 : decode prog_13_method_28_code 1 = .ok (.iconst 0, 1) := by decide +kernel
theorem dX12_readPerson_2 : decode prog_13_method_28_code 2 = .ok (.invokevirtual 220, 3) := by decide +kernel
theorem dX12_readPerson_5 : decode prog_13_method_28_code 5 = .ok (.istore_n 1, 1) := by decide +kernel
theorem dX12_readPerson_6 : decode prog_13_method_28_code 6 = .ok (.aload_n 0, 1) := by decide +kernel
theorem dX12_readPerson_7 : decode prog_13_method_28_code 7 = .ok (.invokevirtual 149, 3) := by decide +kernel
theorem dX12_readPerson_10 : decode prog_13_method_28_code 10 = .ok (.iload_n 1, 1) := by decide +kernel
theorem dX12_readPerson_11 : decode prog_13_method_28_code 11 = .ok (.ireturn, 1) := by decide +kernel
theorem dX12_readAll_0 : decode prog_13_method_29_code 0 = .ok (.iconst 1, 1) := by decide +kernel
theorem dX12_readAll_1 : decode prog_13_method_29_code 1 = .ok (.istore_n 1, 1) := by decide +kernel
theorem dX12_readAll_2 : decode prog_13_method_29_code 2 = .ok (.iload_n 1, 1) := by decide +kernel
theorem dX12_readAll_3 : decode prog_13_method_29_code 3 = .ok (.ifCond .eq 15, 3) := by decide +kernel
theorem dX12_readAll_6 : decode prog_13_method_29_code 6 = .ok (.aload_n 0, 1) := by decide +kernel
theorem dX12_readAll_7 : decode prog_13_method_29_code 7 = .ok (.invokevirtual 224, 3) := by decide +kernel
theorem dX12_readAll_10 : decode prog_13_method_29_code 10 = .ok (.aload_n 0, 1) := by decide +kernel
theorem dX12_readAll_11 : decode prog_13_method_29_code 11 = .ok (.invokevirtual 227, 3) := by decide +kernel
theorem dX12_readAll_14 : decode prog_13_method_29_code 14 = .ok (.istore_n 1, 1) := by decide +kernel
theorem dX12_readAll_15 : decode prog_13_method_29_code 15 = .ok (.goto (-13), 3) := by decide +kernel
theorem dX12_readAll_18 : decode prog_13_method_29_code 18 = .ok (.aload_n 0, 1) := by decide +kernel
theorem dX12_readAll_19 : decode prog_13_method_29_code 19 = .ok (.getfield 113, 3) := by decide +kernel
theorem dX12_readAll_22 : decode prog_13_method_29_code 22 = .ok (.iconst 1, 1) := by decide +kernel
theorem dX12_readAll_23 : decode prog_13_method_29_code 23 = .ok (.if_icmp .eq 8, 3) := by decide +kernel
theorem dX12_readAll_26 : decode prog_13_method_29_code 26 = .ok (.aload_n 0, 1) := by decide +kernel
theorem dX12_readAll_27 : decode prog_13_method_29_code 27 = .ok (.iconst 1, 1) := by decide +kernel
theorem dX12_readAll_28 : decode prog_13_method_29_code 28 = .ok (.invokevirtual 156, 3) := by decide +kernel
theorem dX12_readAll_31 : decode prog_13_method_29_code 31 = .ok (.aload_n 0, 1) := by decide +kernel
theorem dX12_readAll_32 : decode prog_13_method_29_code 32 = .ok (.getfield 172, 3) := by decide +kernel
theorem dX12_readAll_35 : decode prog_13_method_29_code 35 = .ok (.getfield 230, 3) := by decide +kernel
theorem dX12_readAll_38 : decode prog_13_method_29_code 38 = .ok (.ifCond .ne 9, 3) := by decide +kernel
theorem dX12_readAll_41 : decode prog_13_method_29_code 41 = .ok (.aload_n 0, 1) := by decide +kernel
theorem dX12_readAll_42 : decode prog_13_method_29_code 42 = .ok (.bipush 6, 2) := by decide +kernel
theorem dX12_readAll_44 : decode prog_13_method_29_code 44 = .ok (.invokevirtual 156, 3) := by decide +kernel
theorem dX12_readAll_47 : decode prog_13_method_29_code 47 = .ok (.return_, 1) := by decide +kernel
theorem dX12_readLine_0 : decode prog_13_method_30_code 0 = .ok (.aload_n 0, 1) := by decide +kernel
theorem dX12_readLine_1 : decode prog_13_method_30_code 1 = .ok (.ldc 181, 2) := by decide +kernel
theorem dX12_readLine_3 : decode prog_13_method_30_code 3 = .ok (.invokevirtual 152, 3) := by decide +kernel
theorem dX12_readLine_6 : decode prog_13_method_30_code 6 = .ok (.ifCond .eq 10, 3) := by decide +kernel
theorem dX12_readLine_9 : decode prog_13_method_30_code 9 = .ok (.aload_n 0, 1) := by decide +kernel
theorem dX12_readLine_10 : decode prog_13_method_30_code 10 = .ok (.invokevirtual 233, 3) := by decide +kernel
theorem dX12_readLine_13 : decode prog_13_method_30_code 13 = .ok (.goto 138, 3) := by decide +kernel
theorem dX12_readLine_16 : decode prog_13_method_30_code 16 = .ok (.aload_n 0, 1) := by decide +kernel
theorem dX12_readLine_17 : decode prog_13_method_30_code 17 = .ok (.ldc 183, 2) := by decide +kernel
theorem dX12_readLine_19 : decode prog_13_method_30_code 19 = .ok (.invokevirtual 152, 3) := by decide +kernel
theorem dX12_readLine_22 : decode prog_13_method_30_code 22 = .ok (.ifCond .eq 10, 3) := by decide +kernel
theorem dX12_readLine_25 : decode prog_13_method_30_code 25 = .ok (.aload_n 0, 1) := by decide +kernel
theorem dX12_readLine_26 : decode prog_13_method_30_code 26 = .ok (.invokevirtual 236, 3) := by decide +kernel
theorem dX12_readLine_29 : decode prog_13_method_30_code 29 = .ok (.goto 122, 3) := by decide +kernel
theorem dX12_readLine_32 : decode prog_13_method_30_code 32 = .ok (.aload_n 0, 1) := by decide +kernel
theorem dX12_readLine_33 : decode prog_13_method_30_code 33 = .ok (.ldc 185, 2) := by decide +kernel
theorem dX12_readLine_35 : decode prog_13_method_30_code 35 = .ok (.invokevirtual 152, 3) := by decide +kernel
theorem dX12_readLine_38 : decode prog_13_method_30_code 38 = .ok (.ifCond .eq 10, 3) := by decide +kernel
theorem dX12_readLine_41 : decode prog_13_method_30_code 41 = .ok (.aload_n 0, 1) := by decide +kernel
theorem dX12_readLine_42 : decode prog_13_method_30_code 42 = .ok (.invokevirtual 239, 3) := by decide +kernel
theorem dX12_readLine_45 : decode prog_13_method_30_code 45 = .ok (.goto 106, 3) := by decide +kernel
theorem dX12_readLine_48 : decode prog_13_method_30_code 48 = .ok (.aload_n 0, 1) := by decide +kernel
theorem dX12_readLine_49 : decode prog_13_method_30_code 49 = .ok (.ldc 187, 2) := by decide +kernel
theorem dX12_readLine_51 : decode prog_13_method_30_code 51 = .ok (.invokevirtual 152, 3) := by decide +kernel
theorem dX12_readLine_54 : decode prog_13_method_30_code 54 = .ok (.ifCond .eq 10, 3) := by decide +kernel
theorem dX12_readLine_57 : decode prog_13_method_30_code 57 = .ok (.aload_n 0, 1) := by decide +kernel
theorem dX12_readLine_58 : decode prog_13_method_30_code 58 = .ok (.invokevirtual 242, 3) := by decide +kernel
theorem dX12_readLine_61 : decode prog_13_method_30_code 61 = .ok (.goto 90, 3) := by decide +kernel
theorem dX12_readLine_64 : decode prog_13_method_30_code 64 = .ok (.aload_n 0, 1) := by decide +kernel
theorem dX12_readLine_65 : decode prog_13_method_30_code 65 = .ok (.ldc 189, 2) := by decide +kernel
theorem dX12_readLine_67 : decode prog_13_method_30_code 67 = .ok (.invokevirtual 152, 3) := by decide +kernel
theorem dX12_readLine_70 : decode prog_13_method_30_code 70 = .ok (.ifCond .eq 10, 3) := by decide +kernel
theorem dX12_readLine_73 : decode prog_13_method_30_code 73 = .ok (.aload_n 0, 1) := by decide +kernel
theorem dX12_readLine_74 : decode prog_13_method_30_code 74 = .ok (.invokevirtual 245, 3) := by decide +kernel
theorem dX12_readLine_77 : decode prog_13_method_30_code 77 = .ok (.goto 74, 3) := by decide +kernel
theorem dX12_readLine_80 : decode prog_13_method_30_code 80 = .ok (.aload_n 0, 1) := by decide +kernel
theorem dX12_readLine_81 : decode prog_13_method_30_code 81 = .ok (.ldc 191, 2) := by decide +kernel
theorem dX12_readLine_83 : decode prog_13_method_30_code 83 = .ok (.invokevirtual 152, 3) := by decide +kernel
theorem dX12_readLine_86 : decode prog_13_method_30_code 86 = .ok (.ifCond .eq 10, 3) := by decide +kernel
theorem dX12_readLine_89 : decode prog_13_method_30_code 89 = .ok (.aload_n 0, 1) := by decide +kernel
theorem dX12_readLine_90 : decode prog_13_method_30_code 90 = .ok (.invokevirtual 248, 3) := by decide +kernel
theorem dX12_readLine_93 : decode prog_13_method_30_code 93 = .ok (.goto 58, 3) := by decide +kernel
theorem dX12_readLine_96 : decode prog_13_method_30_code 96 = .ok (.aload_n 0, 1) := by decide +kernel
theorem dX12_readLine_97 : decode prog_13_method_30_code 97 = .ok (.ldc 193, 2) := by decide +kernel
theorem dX12_readLine_99 : decode prog_13_method_30_code 99 = .ok (.invokevirtual 152, 3) := by decide +kernel
theorem dX12_readLine_102 : decode prog_13_method_30_code 102 = .ok (.ifCond .eq 10, 3) := by decide +kernel
theorem dX12_readLine_105 : decode prog_13_method_30_code 105 = .ok (.aload_n 0, 1) := by decide +kernel
theorem dX12_readLine_106 : decode prog_13_method_30_code 106 = .ok (.invokevirtual 251, 3) := by decide +kernel
theorem dX12_readLine_109 : decode prog_13_method_30_code 109 = .ok (.goto 42, 3) := by decide +kernel
theorem dX12_readLine_112 : decode prog_13_method_30_code 112 = .ok (.aload_n 0, 1) := by decide +kernel
theorem dX12_readLine_113 : decode prog_13_method_30_code 113 = .ok (.ldc 195, 2) := by decide +kernel
theorem dX12_readLine_115 : decode prog_13_method_30_code 115 = .ok (.invokevirtual 152, 3) := by decide +kernel
theorem dX12_readLine_118 : decode prog_13_method_30_code 118 = .ok (.ifCond .eq 11, 3) := by decide +kernel
theorem dX12_readLine_121 : decode prog_13_method_30_code 121 = .ok (.aload_n 0, 1) := by decide +kernel
theorem dX12_readLine_122 : decode prog_13_method_30_code 122 = .ok (.iconst 1, 1) := by decide +kernel
theorem dX12_readLine_123 : decode prog_13_method_30_code 123 = .ok (.invokevirtual 254, 3) := by decide +kernel
theorem dX12_readLine_126 : decode prog_13_method_30_code 126 = .ok (.goto 25, 3) := by decide +kernel
theorem dX12_readLine_129 : decode prog_13_method_30_code 129 = .ok (.aload_n 0, 1) := by decide +kernel
theorem dX12_readLine_130 : decode prog_13_method_30_code 130 = .ok (.ldc 197, 2) := by decide +kernel
theorem dX12_readLine_132 : decode prog_13_method_30_code 132 = .ok (.invokevirtual 152, 3) := by decide +kernel
theorem dX12_readLine_135 : decode prog_13_method_30_code 135 = .ok (.ifCond .eq 11, 3) := by decide +kernel
theorem dX12_readLine_138 : decode prog_13_method_30_code 138 = .ok (.aload_n 0, 1) := by decide +kernel
theorem dX12_readLine_139 : decode prog_13_method_30_code 139 = .ok (.iconst 0, 1) := by decide +kernel
theorem dX12_readLine_140 : decode prog_13_method_30_code 140 = .ok (.invokevirtual 254, 3) := by decide +kernel
theorem dX12_readLine_143 : decode prog_13_method_30_code 143 = .ok (.goto 8, 3) := by decide +kernel
theorem dX12_readLine_146 : decode prog_13_method_30_code 146 = .ok (.aload_n 0, 1) := by decide +kernel
theorem dX12_readLine_147 : decode prog_13_method_30_code 147 = .ok (.iconst 1, 1) := by decide +kernel
theorem dX12_readLine_148 : decode prog_13_method_30_code 148 = .ok (.invokevirtual 156, 3) := by decide +kernel
theorem dX12_readLine_151 : decode prog_13_method_30_code 151 = .ok (.return_, 1) := by decide +kernel
theorem dX12_readFamily_0 : decode prog_13_method_31_code 0 = .ok (.aload_n 0, 1) := by decide +kernel
theorem dX12_readFamily_1 : decode prog_13_method_31_code 1 = .ok (.getfield 172, 3) := by decide +kernel
theorem dX12_readFamily_4 : decode prog_13_method_31_code 4 = .ok (.getfield 176, 3) := by decide +kernel
theorem dX12_readFamily_7 : decode prog_13_method_31_code 7 = .ok (.ifCond .le 8, 3) := by decide +kernel
theorem dX12_readFamily_10 : decode prog_13_method_31_code 10 = .ok (.aload_n 0, 1) := by decide +kernel
theorem dX12_readFamily_11 : decode prog_13_method_31_code 11 = .ok (.iconst 3, 1) := by decide +kernel
theorem dX12_readFamily_12 : decode prog_13_method_31_code 12 = .ok (.invokevirtual 156, 3) := by decide +kernel
theorem dX12_readFamily_15 : decode prog_13_method_31_code 15 = .ok (.aload_n 0, 1) := by decide +kernel
theorem dX12_readFamily_16 : decode prog_13_method_31_code 16 = .ok (.invokevirtual 149, 3) := by decide +kernel
theorem dX12_readFamily_19 : decode prog_13_method_31_code 19 = .ok (.aload_n 0, 1) := by decide +kernel
theorem dX12_readFamily_20 : decode prog_13_method_31_code 20 = .ok (.ldc_w 258, 3) := by decide +kernel
theorem dX12_readFamily_23 : decode prog_13_method_31_code 23 = .ok (.iconst 4, 1) := by decide +kernel
theorem dX12_readFamily_24 : decode prog_13_method_31_code 24 = .ok (.bipush 24, 2) := by decide +kernel
theorem dX12_readFamily_26 : decode prog_13_method_31_code 26 = .ok (.invokevirtual 259, 3) := by decide +kernel
theorem dX12_readFamily_29 : decode prog_13_method_31_code 29 = .ok (.istore_n 1, 1) := by decide +kernel
theorem dX12_readFamily_30 : decode prog_13_method_31_code 30 = .ok (.aload_n 0, 1) := by decide +kernel
theorem dX12_readFamily_31 : decode prog_13_method_31_code 31 = .ok (.ldc_w 263, 3) := by decide +kernel
theorem dX12_readFamily_34 : decode prog_13_method_31_code 34 = .ok (.invokevirtual 164, 3) := by decide +kernel
theorem dX12_readFamily_37 : decode prog_13_method_31_code 37 = .ok (.aload_n 0, 1) := by decide +kernel
theorem dX12_readFamily_38 : decode prog_13_method_31_code 38 = .ok (.ldc_w 265, 3) := by decide +kernel
theorem dX12_readFamily_41 : decode prog_13_method_31_code 41 = .ok (.invokevirtual 152, 3) := by decide +kernel
theorem dX12_readFamily_44 : decode prog_13_method_31_code 44 = .ok (.ifCond .eq 7, 3) := by decide +kernel
theorem dX12_readFamily_47 : decode prog_13_method_31_code 47 = .ok (.iconst 0, 1) := by decide +kernel
theorem dX12_readFamily_48 : decode prog_13_method_31_code 48 = .ok (.goto 60, 3) := by decide +kernel
theorem dX12_readFamily_51 : decode prog_13_method_31_code 51 = .ok (.aload_n 0, 1) := by decide +kernel
theorem dX12_readFamily_52 : decode prog_13_method_31_code 52 = .ok (.ldc_w 267, 3) := by decide +kernel
theorem dX12_readFamily_55 : decode prog_13_method_31_code 55 = .ok (.invokevirtual 152, 3) := by decide +kernel
theorem dX12_readFamily_58 : decode prog_13_method_31_code 58 = .ok (.ifCond .eq 7, 3) := by decide +kernel
theorem dX12_readFamily_61 : decode prog_13_method_31_code 61 = .ok (.iconst 1, 1) := by decide +kernel
theorem dX12_readFamily_62 : decode prog_13_method_31_code 62 = .ok (.goto 46, 3) := by decide +kernel
theorem dX12_readFamily_65 : decode prog_13_method_31_code 65 = .ok (.aload_n 0, 1) := by decide +kernel
theorem dX12_readFamily_66 : decode prog_13_method_31_code 66 = .ok (.ldc_w 269, 3) := by decide +kernel
theorem dX12_readFamily_69 : decode prog_13_method_31_code 69 = .ok (.invokevirtual 152, 3) := by decide +kernel
theorem dX12_readFamily_72 : decode prog_13_method_31_code 72 = .ok (.ifCond .eq 7, 3) := by decide +kernel
theorem dX12_readFamily_75 : decode prog_13_method_31_code 75 = .ok (.iconst 2, 1) := by decide +kernel
theorem dX12_readFamily_76 : decode prog_13_method_31_code 76 = .ok (.goto 32, 3) := by decide +kernel
theorem dX12_readFamily_79 : decode prog_13_method_31_code 79 = .ok (.aload_n 0, 1) := by decide +kernel
theorem dX12_readFamily_80 : decode prog_13_method_31_code 80 = .ok (.ldc_w 271, 3) := by decide +kernel
theorem dX12_readFamily_83 : decode prog_13_method_31_code 83 = .ok (.invokevirtual 152, 3) := by decide +kernel
theorem dX12_readFamily_86 : decode prog_13_method_31_code 86 = .ok (.ifCond .eq 7, 3) := by decide +kernel
theorem dX12_readFamily_89 : decode prog_13_method_31_code 89 = .ok (.iconst 3, 1) := by decide +kernel
theorem dX12_readFamily_90 : decode prog_13_method_31_code 90 = .ok (.goto 18, 3) := by decide +kernel
theorem dX12_readFamily_93 : decode prog_13_method_31_code 93 = .ok (.aload_n 0, 1) := by decide +kernel
theorem dX12_readFamily_94 : decode prog_13_method_31_code 94 = .ok (.ldc_w 273, 3) := by decide +kernel
theorem dX12_readFamily_97 : decode prog_13_method_31_code 97 = .ok (.invokevirtual 152, 3) := by decide +kernel
theorem dX12_readFamily_100 : decode prog_13_method_31_code 100 = .ok (.ifCond .eq 7, 3) := by decide +kernel
theorem dX12_readFamily_103 : decode prog_13_method_31_code 103 = .ok (.iconst 4, 1) := by decide +kernel
theorem dX12_readFamily_104 : decode prog_13_method_31_code 104 = .ok (.goto 4, 3) := by decide +kernel
theorem dX12_readFamily_107 : decode prog_13_method_31_code 107 = .ok (.iconst (-1), 1) := by decide +kernel
theorem dX12_readFamily_108 : decode prog_13_method_31_code 108 = .ok (.istore_n 2, 1) := by decide +kernel
theorem dX12_readFamily_109 : decode prog_13_method_31_code 109 = .ok (.iload_n 2, 1) := by decide +kernel
theorem dX12_readFamily_110 : decode prog_13_method_31_code 110 = .ok (.iconst (-1), 1) := by decide +kernel
theorem dX12_readFamily_111 : decode prog_13_method_31_code 111 = .ok (.if_icmp .ne 8, 3) := by decide +kernel
theorem dX12_readFamily_114 : decode prog_13_method_31_code 114 = .ok (.aload_n 0, 1) := by decide +kernel
theorem dX12_readFamily_115 : decode prog_13_method_31_code 115 = .ok (.iconst 1, 1) := by decide +kernel
theorem dX12_readFamily_116 : decode prog_13_method_31_code 116 = .ok (.invokevirtual 156, 3) := by decide +kernel
theorem dX12_readFamily_119 : decode prog_13_method_31_code 119 = .ok (.aload_n 0, 1) := by decide +kernel
theorem dX12_readFamily_120 : decode prog_13_method_31_code 120 = .ok (.invokevirtual 149, 3) := by decide +kernel
theorem dX12_readFamily_123 : decode prog_13_method_31_code 123 = .ok (.aload_n 0, 1) := by decide +kernel
theorem dX12_readFamily_124 : decode prog_13_method_31_code 124 = .ok (.ldc_w 275, 3) := by decide +kernel
theorem dX12_readFamily_127 : decode prog_13_method_31_code 127 = .ok (.iconst 0, 1) := by decide +kernel
theorem dX12_readFamily_128 : decode prog_13_method_31_code 128 = .ok (.bipush 99, 2) := by decide +kernel
theorem dX12_readFamily_130 : decode prog_13_method_31_code 130 = .ok (.invokevirtual 259, 3) := by decide +kernel
theorem dX12_readFamily_133 : decode prog_13_method_31_code 133 = .ok (.istore_n 3, 1) := by decide +kernel
theorem dX12_readFamily_134 : decode prog_13_method_31_code 134 = .ok (.aload_n 0, 1) := by decide +kernel
theorem dX12_readFamily_135 : decode prog_13_method_31_code 135 = .ok (.getfield 113, 3) := by decide +kernel
theorem dX12_readFamily_138 : decode prog_13_method_31_code 138 = .ok (.iconst 5, 1) := by decide +kernel
theorem dX12_readFamily_139 : decode prog_13_method_31_code 139 = .ok (.if_icmp .ne 4, 3) := by decide +kernel
theorem dX12_readFamily_142 : decode prog_13_method_31_code 142 = .ok (.return_, 1) := by decide +kernel
theorem dX12_readFamily_143 : decode prog_13_method_31_code 143 = .ok (.aload_n 0, 1) := by decide +kernel
theorem dX12_readFamily_144 : decode prog_13_method_31_code 144 = .ok (.getfield 172, 3) := by decide +kernel
theorem dX12_readFamily_147 : decode prog_13_method_31_code 147 = .ok (.iload_n 1, 1) := by decide +kernel
theorem dX12_readFamily_148 : decode prog_13_method_31_code 148 = .ok (.putfield 176, 3) := by decide +kernel
theorem dX12_readFamily_151 : decode prog_13_method_31_code 151 = .ok (.aload_n 0, 1) := by decide +kernel
theorem dX12_readFamily_152 : decode prog_13_method_31_code 152 = .ok (.getfield 172, 3) := by decide +kernel
theorem dX12_readFamily_155 : decode prog_13_method_31_code 155 = .ok (.iload_n 2, 1) := by decide +kernel
theorem dX12_readFamily_156 : decode prog_13_method_31_code 156 = .ok (.putfield 277, 3) := by decide +kernel
theorem dX12_readFamily_159 : decode prog_13_method_31_code 159 = .ok (.aload_n 0, 1) := by decide +kernel
theorem dX12_readFamily_160 : decode prog_13_method_31_code 160 = .ok (.getfield 172, 3) := by decide +kernel
theorem dX12_readFamily_163 : decode prog_13_method_31_code 163 = .ok (.iload_n 3, 1) := by decide +kernel
theorem dX12_readFamily_164 : decode prog_13_method_31_code 164 = .ok (.putfield 279, 3) := by decide +kernel
theorem dX12_readFamily_167 : decode prog_13_method_31_code 167 = .ok (.return_, 1) := by decide +kernel
theorem dX12_readKind_0 : decode prog_13_method_32_code 0 = .ok (.aload_n 0, 1) := by decide +kernel
theorem dX12_readKind_1 : decode prog_13_method_32_code 1 = .ok (.ldc_w 281, 3) := by decide +kernel
theorem dX12_readKind_4 : decode prog_13_method_32_code 4 = .ok (.invokevirtual 152, 3) := by decide +kernel
theorem dX12_readKind_7 : decode prog_13_method_32_code 7 = .ok (.ifCond .eq 7, 3) := by decide +kernel
theorem dX12_readKind_10 : decode prog_13_method_32_code 10 = .ok (.iconst 0, 1) := by decide +kernel
theorem dX12_readKind_11 : decode prog_13_method_32_code 11 = .ok (.goto 60, 3) := by decide +kernel
theorem dX12_readKind_14 : decode prog_13_method_32_code 14 = .ok (.aload_n 0, 1) := by decide +kernel
theorem dX12_readKind_15 : decode prog_13_method_32_code 15 = .ok (.ldc_w 283, 3) := by decide +kernel
theorem dX12_readKind_18 : decode prog_13_method_32_code 18 = .ok (.invokevirtual 152, 3) := by decide +kernel
theorem dX12_readKind_21 : decode prog_13_method_32_code 21 = .ok (.ifCond .eq 7, 3) := by decide +kernel
theorem dX12_readKind_24 : decode prog_13_method_32_code 24 = .ok (.iconst 1, 1) := by decide +kernel
theorem dX12_readKind_25 : decode prog_13_method_32_code 25 = .ok (.goto 46, 3) := by decide +kernel
theorem dX12_readKind_28 : decode prog_13_method_32_code 28 = .ok (.aload_n 0, 1) := by decide +kernel
theorem dX12_readKind_29 : decode prog_13_method_32_code 29 = .ok (.ldc_w 285, 3) := by decide +kernel
theorem dX12_readKind_32 : decode prog_13_method_32_code 32 = .ok (.invokevirtual 152, 3) := by decide +kernel
theorem dX12_readKind_35 : decode prog_13_method_32_code 35 = .ok (.ifCond .eq 7, 3) := by decide +kernel
theorem dX12_readKind_38 : decode prog_13_method_32_code 38 = .ok (.iconst 2, 1) := by decide +kernel
theorem dX12_readKind_39 : decode prog_13_method_32_code 39 = .ok (.goto 32, 3) := by decide +kernel
theorem dX12_readKind_42 : decode prog_13_method_32_code 42 = .ok (.aload_n 0, 1) := by decide +kernel
theorem dX12_readKind_43 : decode prog_13_method_32_code 43 = .ok (.ldc_w 287, 3) := by decide +kernel
theorem dX12_readKind_46 : decode prog_13_method_32_code 46 = .ok (.invokevirtual 152, 3) := by decide +kernel
theorem dX12_readKind_49 : decode prog_13_method_32_code 49 = .ok (.ifCond .eq 7, 3) := by decide +kernel
theorem dX12_readKind_52 : decode prog_13_method_32_code 52 = .ok (.iconst 3, 1) := by decide +kernel
theorem dX12_readKind_53 : decode prog_13_method_32_code 53 = .ok (.goto 18, 3) := by decide +kernel
theorem dX12_readKind_56 : decode prog_13_method_32_code 56 = .ok (.aload_n 0, 1) := by decide +kernel
theorem dX12_readKind_57 : decode prog_13_method_32_code 57 = .ok (.ldc_w 289, 3) := by decide +kernel
theorem dX12_readKind_60 : decode prog_13_method_32_code 60 = .ok (.invokevirtual 152, 3) := by decide +kernel
theorem dX12_readKind_63 : decode prog_13_method_32_code 63 = .ok (.ifCond .eq 7, 3) := by decide +kernel
theorem dX12_readKind_66 : decode prog_13_method_32_code 66 = .ok (.iconst 4, 1) := by decide +kernel
theorem dX12_readKind_67 : decode prog_13_method_32_code 67 = .ok (.goto 4, 3) := by decide +kernel
theorem dX12_readKind_70 : decode prog_13_method_32_code 70 = .ok (.iconst (-1), 1) := by decide +kernel
theorem dX12_readKind_71 : decode prog_13_method_32_code 71 = .ok (.istore_n 1, 1) := by decide +kernel
theorem dX12_readKind_72 : decode prog_13_method_32_code 72 = .ok (.iload_n 1, 1) := by decide +kernel
theorem dX12_readKind_73 : decode prog_13_method_32_code 73 = .ok (.iconst (-1), 1) := by decide +kernel
theorem dX12_readKind_74 : decode prog_13_method_32_code 74 = .ok (.if_icmp .ne 8, 3) := by decide +kernel
theorem dX12_readKind_77 : decode prog_13_method_32_code 77 = .ok (.aload_n 0, 1) := by decide +kernel
theorem dX12_readKind_78 : decode prog_13_method_32_code 78 = .ok (.iconst 1, 1) := by decide +kernel
theorem dX12_readKind_79 : decode prog_13_method_32_code 79 = .ok (.invokevirtual 156, 3) := by decide +kernel
theorem dX12_readKind_82 : decode prog_13_method_32_code 82 = .ok (.aload_n 0, 1) := by decide +kernel
theorem dX12_readKind_83 : decode prog_13_method_32_code 83 = .ok (.invokevirtual 149, 3) := by decide +kernel
theorem dX12_readKind_86 : decode prog_13_method_32_code 86 = .ok (.iload_n 1, 1) := by decide +kernel
theorem dX12_readKind_87 : decode prog_13_method_32_code 87 = .ok (.ireturn, 1) := by decide +kernel
