/-! ===== decode rows, by wip/whole/gen09.py ===== -/
theorem dX12_fitsNow_0 : decode prog_13_method_105_code 0 = .ok (.iconst 0, 1) := by decide +kernel
theorem dX12_fitsNow_1 : decode prog_13_method_105_code 1 = .ok (.istore_n 1, 1) := by decide +kernel
theorem dX12_fitsNow_2 : decode prog_13_method_105_code 2 = .ok (.iload_n 1, 1) := by decide +kernel
theorem dX12_fitsNow_3 : decode prog_13_method_105_code 3 = .ok (.aload_n 0, 1) := by decide +kernel
theorem dX12_fitsNow_4 : decode prog_13_method_105_code 4 = .ok (.getfield 409, 3) := by decide +kernel
theorem dX12_fitsNow_7 : decode prog_13_method_105_code 7 = .ok (.getfield 390, 3) := by decide +kernel
theorem dX12_fitsNow_10 : decode prog_13_method_105_code 10 = .ok (.if_icmp .ge 54, 3) := by decide +kernel
theorem dX12_fitsNow_13 : decode prog_13_method_105_code 13 = .ok (.aload_n 0, 1) := by decide +kernel
theorem dX12_fitsNow_14 : decode prog_13_method_105_code 14 = .ok (.getfield 27, 3) := by decide +kernel
theorem dX12_fitsNow_17 : decode prog_13_method_105_code 17 = .ok (.aload_n 0, 1) := by decide +kernel
theorem dX12_fitsNow_18 : decode prog_13_method_105_code 18 = .ok (.getfield 409, 3) := by decide +kernel
theorem dX12_fitsNow_21 : decode prog_13_method_105_code 21 = .ok (.getfield 393, 3) := by decide +kernel
theorem dX12_fitsNow_24 : decode prog_13_method_105_code 24 = .ok (.iload_n 1, 1) := by decide +kernel
theorem dX12_fitsNow_25 : decode prog_13_method_105_code 25 = .ok (.iaload, 1) := by decide +kernel
theorem dX12_fitsNow_26 : decode prog_13_method_105_code 26 = .ok (.iaload, 1) := by decide +kernel
theorem dX12_fitsNow_27 : decode prog_13_method_105_code 27 = .ok (.aload_n 0, 1) := by decide +kernel
theorem dX12_fitsNow_28 : decode prog_13_method_105_code 28 = .ok (.getfield 409, 3) := by decide +kernel
theorem dX12_fitsNow_31 : decode prog_13_method_105_code 31 = .ok (.getfield 396, 3) := by decide +kernel
theorem dX12_fitsNow_34 : decode prog_13_method_105_code 34 = .ok (.iload_n 1, 1) := by decide +kernel
theorem dX12_fitsNow_35 : decode prog_13_method_105_code 35 = .ok (.iaload, 1) := by decide +kernel
theorem dX12_fitsNow_36 : decode prog_13_method_105_code 36 = .ok (.if_icmp .ne 7, 3) := by decide +kernel
theorem dX12_fitsNow_39 : decode prog_13_method_105_code 39 = .ok (.iconst 1, 1) := by decide +kernel
theorem dX12_fitsNow_40 : decode prog_13_method_105_code 40 = .ok (.goto 4, 3) := by decide +kernel
theorem dX12_fitsNow_43 : decode prog_13_method_105_code 43 = .ok (.iconst 0, 1) := by decide +kernel
theorem dX12_fitsNow_44 : decode prog_13_method_105_code 44 = .ok (.aload_n 0, 1) := by decide +kernel
theorem dX12_fitsNow_45 : decode prog_13_method_105_code 45 = .ok (.getfield 409, 3) := by decide +kernel
theorem dX12_fitsNow_48 : decode prog_13_method_105_code 48 = .ok (.getfield 399, 3) := by decide +kernel
theorem dX12_fitsNow_51 : decode prog_13_method_105_code 51 = .ok (.iload_n 1, 1) := by decide +kernel
theorem dX12_fitsNow_52 : decode prog_13_method_105_code 52 = .ok (.baload, 1) := by decide +kernel
theorem dX12_fitsNow_53 : decode prog_13_method_105_code 53 = .ok (.if_icmp .eq 5, 3) := by decide +kernel
theorem dX12_fitsNow_56 : decode prog_13_method_105_code 56 = .ok (.iconst 0, 1) := by decide +kernel
theorem dX12_fitsNow_57 : decode prog_13_method_105_code 57 = .ok (.ireturn, 1) := by decide +kernel
theorem dX12_fitsNow_58 : decode prog_13_method_105_code 58 = .ok (.iinc 1 1, 3) := by decide +kernel
theorem dX12_fitsNow_61 : decode prog_13_method_105_code 61 = .ok (.goto (-59), 3) := by decide +kernel
theorem dX12_fitsNow_64 : decode prog_13_method_105_code 64 = .ok (.iconst 1, 1) := by decide +kernel
theorem dX12_fitsNow_65 : decode prog_13_method_105_code 65 = .ok (.ireturn, 1) := by decide +kernel
theorem dX12_fits_0 : decode prog_13_method_106_code 0 = .ok (.aload_n 0, 1) := by decide +kernel
theorem dX12_fits_1 : decode prog_13_method_106_code 1 = .ok (.iconst 0, 1) := by decide +kernel
theorem dX12_fits_2 : decode prog_13_method_106_code 2 = .ok (.putfield 85, 3) := by decide +kernel
theorem dX12_fits_5 : decode prog_13_method_106_code 5 = .ok (.aload_n 0, 1) := by decide +kernel
theorem dX12_fits_6 : decode prog_13_method_106_code 6 = .ok (.getfield 409, 3) := by decide +kernel
theorem dX12_fits_9 : decode prog_13_method_106_code 9 = .ok (.ifnonnull 9, 3) := by decide +kernel
theorem dX12_fits_12 : decode prog_13_method_106_code 12 = .ok (.aload_n 0, 1) := by decide +kernel
theorem dX12_fits_13 : decode prog_13_method_106_code 13 = .ok (.iconst 1, 1) := by decide +kernel
theorem dX12_fits_14 : decode prog_13_method_106_code 14 = .ok (.invokevirtual 91, 3) := by decide +kernel
theorem dX12_fits_17 : decode prog_13_method_106_code 17 = .ok (.ireturn, 1) := by decide +kernel
theorem dX12_fits_18 : decode prog_13_method_106_code 18 = .ok (.iconst 0, 1) := by decide +kernel
theorem dX12_fits_19 : decode prog_13_method_106_code 19 = .ok (.istore_n 1, 1) := by decide +kernel
theorem dX12_fits_20 : decode prog_13_method_106_code 20 = .ok (.iconst 0, 1) := by decide +kernel
theorem dX12_fits_21 : decode prog_13_method_106_code 21 = .ok (.istore_n 2, 1) := by decide +kernel
theorem dX12_fits_22 : decode prog_13_method_106_code 22 = .ok (.iload_n 2, 1) := by decide +kernel
theorem dX12_fits_23 : decode prog_13_method_106_code 23 = .ok (.iconst 5, 1) := by decide +kernel
theorem dX12_fits_24 : decode prog_13_method_106_code 24 = .ok (.if_icmp .ge 37, 3) := by decide +kernel
theorem dX12_fits_27 : decode prog_13_method_106_code 27 = .ok (.aload_n 0, 1) := by decide +kernel
theorem dX12_fits_28 : decode prog_13_method_106_code 28 = .ok (.iload_n 2, 1) := by decide +kernel
theorem dX12_fits_29 : decode prog_13_method_106_code 29 = .ok (.aload_n 0, 1) := by decide +kernel
theorem dX12_fits_30 : decode prog_13_method_106_code 30 = .ok (.getfield 17, 3) := by decide +kernel
theorem dX12_fits_33 : decode prog_13_method_106_code 33 = .ok (.iconst 1, 1) := by decide +kernel
theorem dX12_fits_34 : decode prog_13_method_106_code 34 = .ok (.iaload, 1) := by decide +kernel
theorem dX12_fits_35 : decode prog_13_method_106_code 35 = .ok (.invokevirtual 417, 3) := by decide +kernel
theorem dX12_fits_38 : decode prog_13_method_106_code 38 = .ok (.iload_n 1, 1) := by decide +kernel
theorem dX12_fits_39 : decode prog_13_method_106_code 39 = .ok (.aload_n 0, 1) := by decide +kernel
theorem dX12_fits_40 : decode prog_13_method_106_code 40 = .ok (.invokevirtual 568, 3) := by decide +kernel
theorem dX12_fits_43 : decode prog_13_method_106_code 43 = .ok (.ifCond .eq 9, 3) := by decide +kernel
theorem dX12_fits_46 : decode prog_13_method_106_code 46 = .ok (.iconst 1, 1) := by decide +kernel
theorem dX12_fits_47 : decode prog_13_method_106_code 47 = .ok (.iload_n 2, 1) := by decide +kernel
theorem dX12_fits_48 : decode prog_13_method_106_code 48 = .ok (.ishl, 1) := by decide +kernel
theorem dX12_fits_49 : decode prog_13_method_106_code 49 = .ok (.goto 4, 3) := by decide +kernel
theorem dX12_fits_52 : decode prog_13_method_106_code 52 = .ok (.iconst 0, 1) := by decide +kernel
theorem dX12_fits_53 : decode prog_13_method_106_code 53 = .ok (.ior, 1) := by decide +kernel
theorem dX12_fits_54 : decode prog_13_method_106_code 54 = .ok (.istore_n 1, 1) := by decide +kernel
theorem dX12_fits_55 : decode prog_13_method_106_code 55 = .ok (.iinc 2 1, 3) := by decide +kernel
theorem dX12_fits_58 : decode prog_13_method_106_code 58 = .ok (.goto (-36), 3) := by decide +kernel
theorem dX12_fits_61 : decode prog_13_method_106_code 61 = .ok (.aload_n 0, 1) := by decide +kernel
theorem dX12_fits_62 : decode prog_13_method_106_code 62 = .ok (.iload_n 1, 1) := by decide +kernel
theorem dX12_fits_63 : decode prog_13_method_106_code 63 = .ok (.invokevirtual 95, 3) := by decide +kernel
theorem dX12_fits_66 : decode prog_13_method_106_code 66 = .ok (.ireturn, 1) := by decide +kernel
theorem dX12_fitting_0 : decode prog_13_method_107_code 0 = .ok (.iconst 0, 1) := by decide +kernel
theorem dX12_fitting_1 : decode prog_13_method_107_code 1 = .ok (.istore_n 2, 1) := by decide +kernel
theorem dX12_fitting_2 : decode prog_13_method_107_code 2 = .ok (.aload_n 0, 1) := by decide +kernel
theorem dX12_fitting_3 : decode prog_13_method_107_code 3 = .ok (.bipush (-2), 2) := by decide +kernel
theorem dX12_fitting_5 : decode prog_13_method_107_code 5 = .ok (.putfield 571, 3) := by decide +kernel
theorem dX12_fitting_8 : decode prog_13_method_107_code 8 = .ok (.iconst 0, 1) := by decide +kernel
theorem dX12_fitting_9 : decode prog_13_method_107_code 9 = .ok (.istore_n 3, 1) := by decide +kernel
theorem dX12_fitting_10 : decode prog_13_method_107_code 10 = .ok (.iload_n 3, 1) := by decide +kernel
theorem dX12_fitting_11 : decode prog_13_method_107_code 11 = .ok (.iload_n 1, 1) := by decide +kernel
theorem dX12_fitting_12 : decode prog_13_method_107_code 12 = .ok (.if_icmp .ge 42, 3) := by decide +kernel
theorem dX12_fitting_15 : decode prog_13_method_107_code 15 = .ok (.aload_n 0, 1) := by decide +kernel
theorem dX12_fitting_16 : decode prog_13_method_107_code 16 = .ok (.iconst 3, 1) := by decide +kernel
theorem dX12_fitting_17 : decode prog_13_method_107_code 17 = .ok (.iload_n 3, 1) := by decide +kernel
theorem dX12_fitting_18 : decode prog_13_method_107_code 18 = .ok (.invokevirtual 417, 3) := by decide +kernel
theorem dX12_fitting_21 : decode prog_13_method_107_code 21 = .ok (.aload_n 0, 1) := by decide +kernel
theorem dX12_fitting_22 : decode prog_13_method_107_code 22 = .ok (.invokevirtual 568, 3) := by decide +kernel
theorem dX12_fitting_25 : decode prog_13_method_107_code 25 = .ok (.ifCond .ne 6, 3) := by decide +kernel
theorem dX12_fitting_28 : decode prog_13_method_107_code 28 = .ok (.goto 20, 3) := by decide +kernel
theorem dX12_fitting_31 : decode prog_13_method_107_code 31 = .ok (.aload_n 0, 1) := by decide +kernel
theorem dX12_fitting_32 : decode prog_13_method_107_code 32 = .ok (.getfield 571, 3) := by decide +kernel
theorem dX12_fitting_35 : decode prog_13_method_107_code 35 = .ok (.bipush (-2), 2) := by decide +kernel
theorem dX12_fitting_37 : decode prog_13_method_107_code 37 = .ok (.if_icmp .ne 8, 3) := by decide +kernel
theorem dX12_fitting_40 : decode prog_13_method_107_code 40 = .ok (.aload_n 0, 1) := by decide +kernel
theorem dX12_fitting_41 : decode prog_13_method_107_code 41 = .ok (.iload_n 3, 1) := by decide +kernel
theorem dX12_fitting_42 : decode prog_13_method_107_code 42 = .ok (.putfield 571, 3) := by decide +kernel
theorem dX12_fitting_45 : decode prog_13_method_107_code 45 = .ok (.iinc 2 1, 3) := by decide +kernel
theorem dX12_fitting_48 : decode prog_13_method_107_code 48 = .ok (.iinc 3 1, 3) := by decide +kernel
theorem dX12_fitting_51 : decode prog_13_method_107_code 51 = .ok (.goto (-41), 3) := by decide +kernel
theorem dX12_fitting_54 : decode prog_13_method_107_code 54 = .ok (.iload_n 2, 1) := by decide +kernel
theorem dX12_fitting_55 : decode prog_13_method_107_code 55 = .ok (.ireturn, 1) := by decide +kernel
theorem dX12_refusesMany_0 : decode prog_13_method_108_code 0 = .ok (.aload_n 0, 1) := by decide +kernel
theorem dX12_refusesMany_1 : decode prog_13_method_108_code 1 = .ok (.getfield 409, 3) := by decide +kernel
theorem dX12_refusesMany_4 : decode prog_13_method_108_code 4 = .ok (.ifnonnull 7, 3) := by decide +kernel
theorem dX12_refusesMany_7 : decode prog_13_method_108_code 7 = .ok (.iconst 1, 1) := by decide +kernel
theorem dX12_refusesMany_8 : decode prog_13_method_108_code 8 = .ok (.goto 19, 3) := by decide +kernel
theorem dX12_refusesMany_11 : decode prog_13_method_108_code 11 = .ok (.iload_n 1, 1) := by decide +kernel
theorem dX12_refusesMany_12 : decode prog_13_method_108_code 12 = .ok (.iconst 1, 1) := by decide +kernel
theorem dX12_refusesMany_13 : decode prog_13_method_108_code 13 = .ok (.sipush 200, 3) := by decide +kernel
theorem dX12_refusesMany_16 : decode prog_13_method_108_code 16 = .ok (.invokestatic 160, 3) := by decide +kernel
theorem dX12_refusesMany_19 : decode prog_13_method_108_code 19 = .ok (.ifCond .eq 7, 3) := by decide +kernel
theorem dX12_refusesMany_22 : decode prog_13_method_108_code 22 = .ok (.iconst 0, 1) := by decide +kernel
theorem dX12_refusesMany_23 : decode prog_13_method_108_code 23 = .ok (.goto 4, 3) := by decide +kernel
theorem dX12_refusesMany_26 : decode prog_13_method_108_code 26 = .ok (.iconst 2, 1) := by decide +kernel
theorem dX12_refusesMany_27 : decode prog_13_method_108_code 27 = .ok (.ireturn, 1) := by decide +kernel
theorem dX12_seeds_0 : decode prog_13_method_109_code 0 = .ok (.aload_n 0, 1) := by decide +kernel
theorem dX12_seeds_1 : decode prog_13_method_109_code 1 = .ok (.iconst 0, 1) := by decide +kernel
theorem dX12_seeds_2 : decode prog_13_method_109_code 2 = .ok (.putfield 85, 3) := by decide +kernel
theorem dX12_seeds_5 : decode prog_13_method_109_code 5 = .ok (.aload_n 0, 1) := by decide +kernel
theorem dX12_seeds_6 : decode prog_13_method_109_code 6 = .ok (.iload_n 1, 1) := by decide +kernel
theorem dX12_seeds_7 : decode prog_13_method_109_code 7 = .ok (.invokevirtual 574, 3) := by decide +kernel
theorem dX12_seeds_10 : decode prog_13_method_109_code 10 = .ok (.istore_n 2, 1) := by decide +kernel
theorem dX12_seeds_11 : decode prog_13_method_109_code 11 = .ok (.iload_n 2, 1) := by decide +kernel
theorem dX12_seeds_12 : decode prog_13_method_109_code 12 = .ok (.ifCond .le 11, 3) := by decide +kernel
theorem dX12_seeds_15 : decode prog_13_method_109_code 15 = .ok (.aload_n 0, 1) := by decide +kernel
theorem dX12_seeds_16 : decode prog_13_method_109_code 16 = .ok (.iload_n 2, 1) := by decide +kernel
theorem dX12_seeds_17 : decode prog_13_method_109_code 17 = .ok (.invokevirtual 91, 3) := by decide +kernel
theorem dX12_seeds_20 : decode prog_13_method_109_code 20 = .ok (.goto 12, 3) := by decide +kernel
theorem dX12_seeds_23 : decode prog_13_method_109_code 23 = .ok (.aload_n 0, 1) := by decide +kernel
theorem dX12_seeds_24 : decode prog_13_method_109_code 24 = .ok (.aload_n 0, 1) := by decide +kernel
theorem dX12_seeds_25 : decode prog_13_method_109_code 25 = .ok (.iload_n 1, 1) := by decide +kernel
theorem dX12_seeds_26 : decode prog_13_method_109_code 26 = .ok (.invokevirtual 577, 3) := by decide +kernel
theorem dX12_seeds_29 : decode prog_13_method_109_code 29 = .ok (.invokevirtual 95, 3) := by decide +kernel
theorem dX12_seeds_32 : decode prog_13_method_109_code 32 = .ok (.ireturn, 1) := by decide +kernel
theorem dX12_firstSeed_0 : decode prog_13_method_110_code 0 = .ok (.aload_n 0, 1) := by decide +kernel
theorem dX12_firstSeed_1 : decode prog_13_method_110_code 1 = .ok (.iconst 0, 1) := by decide +kernel
theorem dX12_firstSeed_2 : decode prog_13_method_110_code 2 = .ok (.putfield 85, 3) := by decide +kernel
theorem dX12_firstSeed_5 : decode prog_13_method_110_code 5 = .ok (.aload_n 0, 1) := by decide +kernel
theorem dX12_firstSeed_6 : decode prog_13_method_110_code 6 = .ok (.iload_n 1, 1) := by decide +kernel
theorem dX12_firstSeed_7 : decode prog_13_method_110_code 7 = .ok (.invokevirtual 574, 3) := by decide +kernel
theorem dX12_firstSeed_10 : decode prog_13_method_110_code 10 = .ok (.istore_n 2, 1) := by decide +kernel
theorem dX12_firstSeed_11 : decode prog_13_method_110_code 11 = .ok (.iload_n 2, 1) := by decide +kernel
theorem dX12_firstSeed_12 : decode prog_13_method_110_code 12 = .ok (.ifCond .le 9, 3) := by decide +kernel
theorem dX12_firstSeed_15 : decode prog_13_method_110_code 15 = .ok (.aload_n 0, 1) := by decide +kernel
theorem dX12_firstSeed_16 : decode prog_13_method_110_code 16 = .ok (.iload_n 2, 1) := by decide +kernel
theorem dX12_firstSeed_17 : decode prog_13_method_110_code 17 = .ok (.invokevirtual 91, 3) := by decide +kernel
theorem dX12_firstSeed_20 : decode prog_13_method_110_code 20 = .ok (.ireturn, 1) := by decide +kernel
theorem dX12_firstSeed_21 : decode prog_13_method_110_code 21 = .ok (.aload_n 0, 1) := by decide +kernel
theorem dX12_firstSeed_22 : decode prog_13_method_110_code 22 = .ok (.iload_n 1, 1) := by decide +kernel
theorem dX12_firstSeed_23 : decode prog_13_method_110_code 23 = .ok (.invokevirtual 577, 3) := by decide +kernel
theorem dX12_firstSeed_26 : decode prog_13_method_110_code 26 = .ok (.pop, 1) := by decide +kernel
theorem dX12_firstSeed_27 : decode prog_13_method_110_code 27 = .ok (.aload_n 0, 1) := by decide +kernel
theorem dX12_firstSeed_28 : decode prog_13_method_110_code 28 = .ok (.aload_n 0, 1) := by decide +kernel
theorem dX12_firstSeed_29 : decode prog_13_method_110_code 29 = .ok (.getfield 571, 3) := by decide +kernel
theorem dX12_firstSeed_32 : decode prog_13_method_110_code 32 = .ok (.invokevirtual 95, 3) := by decide +kernel
theorem dX12_firstSeed_35 : decode prog_13_method_110_code 35 = .ok (.ireturn, 1) := by decide +kernel
theorem dX12_weight_0 : decode prog_13_method_111_code 0 = .ok (.iconst 0, 1) := by decide +kernel
theorem dX12_weight_1 : decode prog_13_method_111_code 1 = .ok (.istore_n 2, 1) := by decide +kernel
theorem dX12_weight_2 : decode prog_13_method_111_code 2 = .ok (.iconst 0, 1) := by decide +kernel
theorem dX12_weight_3 : decode prog_13_method_111_code 3 = .ok (.istore_n 3, 1) := by decide +kernel
theorem dX12_weight_4 : decode prog_13_method_111_code 4 = .ok (.iload_n 3, 1) := by decide +kernel
theorem dX12_weight_5 : decode prog_13_method_111_code 5 = .ok (.aload_n 0, 1) := by decide +kernel
theorem dX12_weight_6 : decode prog_13_method_111_code 6 = .ok (.getfield 409, 3) := by decide +kernel
theorem dX12_weight_9 : decode prog_13_method_111_code 9 = .ok (.getfield 230, 3) := by decide +kernel
theorem dX12_weight_12 : decode prog_13_method_111_code 12 = .ok (.if_icmp .ge 33, 3) := by decide +kernel
theorem dX12_weight_15 : decode prog_13_method_111_code 15 = .ok (.iload_n 2, 1) := by decide +kernel
theorem dX12_weight_16 : decode prog_13_method_111_code 16 = .ok (.iload_n 1, 1) := by decide +kernel
theorem dX12_weight_17 : decode prog_13_method_111_code 17 = .ok (.iload_n 3, 1) := by decide +kernel
theorem dX12_weight_18 : decode prog_13_method_111_code 18 = .ok (.invokestatic 386, 3) := by decide +kernel
theorem dX12_weight_21 : decode prog_13_method_111_code 21 = .ok (.ifCond .eq 15, 3) := by decide +kernel
theorem dX12_weight_24 : decode prog_13_method_111_code 24 = .ok (.aload_n 0, 1) := by decide +kernel
theorem dX12_weight_25 : decode prog_13_method_111_code 25 = .ok (.getfield 409, 3) := by decide +kernel
theorem dX12_weight_28 : decode prog_13_method_111_code 28 = .ok (.getfield 331, 3) := by decide +kernel
theorem dX12_weight_31 : decode prog_13_method_111_code 31 = .ok (.iload_n 3, 1) := by decide +kernel
theorem dX12_weight_32 : decode prog_13_method_111_code 32 = .ok (.iaload, 1) := by decide +kernel
theorem dX12_weight_33 : decode prog_13_method_111_code 33 = .ok (.goto 4, 3) := by decide +kernel
theorem dX12_weight_36 : decode prog_13_method_111_code 36 = .ok (.iconst 0, 1) := by decide +kernel
theorem dX12_weight_37 : decode prog_13_method_111_code 37 = .ok (.iadd, 1) := by decide +kernel
theorem dX12_weight_38 : decode prog_13_method_111_code 38 = .ok (.istore_n 2, 1) := by decide +kernel
theorem dX12_weight_39 : decode prog_13_method_111_code 39 = .ok (.iinc 3 1, 3) := by decide +kernel
theorem dX12_weight_42 : decode prog_13_method_111_code 42 = .ok (.goto (-38), 3) := by decide +kernel
theorem dX12_weight_45 : decode prog_13_method_111_code 45 = .ok (.iload_n 2, 1) := by decide +kernel
theorem dX12_weight_46 : decode prog_13_method_111_code 46 = .ok (.ireturn, 1) := by decide +kernel
theorem dX12_power_0 : decode prog_13_method_112_code 0 = .ok (.aload_n 0, 1) := by decide +kernel
theorem dX12_power_1 : decode prog_13_method_112_code 1 = .ok (.iconst 0, 1) := by decide +kernel
theorem dX12_power_2 : decode prog_13_method_112_code 2 = .ok (.putfield 85, 3) := by decide +kernel
theorem dX12_power_5 : decode prog_13_method_112_code 5 = .ok (.aload_n 0, 1) := by decide +kernel
theorem dX12_power_6 : decode prog_13_method_112_code 6 = .ok (.aload_n 0, 1) := by decide +kernel
theorem dX12_power_7 : decode prog_13_method_112_code 7 = .ok (.iload_n 1, 1) := by decide +kernel
theorem dX12_power_8 : decode prog_13_method_112_code 8 = .ok (.invokevirtual 513, 3) := by decide +kernel
theorem dX12_power_11 : decode prog_13_method_112_code 11 = .ok (.invokevirtual 523, 3) := by decide +kernel
theorem dX12_power_14 : decode prog_13_method_112_code 14 = .ok (.ifCond .ne 9, 3) := by decide +kernel
theorem dX12_power_17 : decode prog_13_method_112_code 17 = .ok (.aload_n 0, 1) := by decide +kernel
theorem dX12_power_18 : decode prog_13_method_112_code 18 = .ok (.iconst 1, 1) := by decide +kernel
theorem dX12_power_19 : decode prog_13_method_112_code 19 = .ok (.invokevirtual 91, 3) := by decide +kernel
theorem dX12_power_22 : decode prog_13_method_112_code 22 = .ok (.ireturn, 1) := by decide +kernel
theorem dX12_power_23 : decode prog_13_method_112_code 23 = .ok (.aload_n 0, 1) := by decide +kernel
theorem dX12_power_24 : decode prog_13_method_112_code 24 = .ok (.aload_n 0, 1) := by decide +kernel
theorem dX12_power_25 : decode prog_13_method_112_code 25 = .ok (.getfield 30, 3) := by decide +kernel
theorem dX12_power_28 : decode prog_13_method_112_code 28 = .ok (.iconst 0, 1) := by decide +kernel
theorem dX12_power_29 : decode prog_13_method_112_code 29 = .ok (.iaload, 1) := by decide +kernel
theorem dX12_power_30 : decode prog_13_method_112_code 30 = .ok (.invokevirtual 580, 3) := by decide +kernel
theorem dX12_power_33 : decode prog_13_method_112_code 33 = .ok (.istore_n 2, 1) := by decide +kernel
theorem dX12_power_34 : decode prog_13_method_112_code 34 = .ok (.iconst 0, 1) := by decide +kernel
theorem dX12_power_35 : decode prog_13_method_112_code 35 = .ok (.istore_n 3, 1) := by decide +kernel
theorem dX12_power_36 : decode prog_13_method_112_code 36 = .ok (.iconst 0, 1) := by decide +kernel
theorem dX12_power_37 : decode prog_13_method_112_code 37 = .ok (.istore 4, 2) := by decide +kernel
theorem dX12_power_39 : decode prog_13_method_112_code 39 = .ok (.iload 4, 2) := by decide +kernel
theorem dX12_power_41 : decode prog_13_method_112_code 41 = .ok (.iconst 1, 1) := by decide +kernel
theorem dX12_power_42 : decode prog_13_method_112_code 42 = .ok (.aload_n 0, 1) := by decide +kernel
theorem dX12_power_43 : decode prog_13_method_112_code 43 = .ok (.getfield 409, 3) := by decide +kernel
theorem dX12_power_46 : decode prog_13_method_112_code 46 = .ok (.getfield 230, 3) := by decide +kernel
theorem dX12_power_49 : decode prog_13_method_112_code 49 = .ok (.ishl, 1) := by decide +kernel
theorem dX12_power_50 : decode prog_13_method_112_code 50 = .ok (.if_icmp .ge 90, 3) := by decide +kernel
theorem dX12_power_53 : decode prog_13_method_112_code 53 = .ok (.iload 4, 2) := by decide +kernel
theorem dX12_power_55 : decode prog_13_method_112_code 55 = .ok (.aload_n 0, 1) := by decide +kernel
theorem dX12_power_56 : decode prog_13_method_112_code 56 = .ok (.getfield 30, 3) := by decide +kernel
theorem dX12_power_59 : decode prog_13_method_112_code 59 = .ok (.iconst 0, 1) := by decide +kernel
theorem dX12_power_60 : decode prog_13_method_112_code 60 = .ok (.iaload, 1) := by decide +kernel
theorem dX12_power_61 : decode prog_13_method_112_code 61 = .ok (.iconst (-1), 1) := by decide +kernel
theorem dX12_power_62 : decode prog_13_method_112_code 62 = .ok (.ixor, 1) := by decide +kernel
theorem dX12_power_63 : decode prog_13_method_112_code 63 = .ok (.iand, 1) := by decide +kernel
theorem dX12_power_64 : decode prog_13_method_112_code 64 = .ok (.ifCond .ne 70, 3) := by decide +kernel
theorem dX12_power_67 : decode prog_13_method_112_code 67 = .ok (.iload 4, 2) := by decide +kernel
theorem dX12_power_69 : decode prog_13_method_112_code 69 = .ok (.iload_n 1, 1) := by decide +kernel
theorem dX12_power_70 : decode prog_13_method_112_code 70 = .ok (.invokestatic 386, 3) := by decide +kernel
theorem dX12_power_73 : decode prog_13_method_112_code 73 = .ok (.ifCond .ne 61, 3) := by decide +kernel
theorem dX12_power_76 : decode prog_13_method_112_code 76 = .ok (.aload_n 0, 1) := by decide +kernel
theorem dX12_power_77 : decode prog_13_method_112_code 77 = .ok (.getfield 30, 3) := by decide +kernel
theorem dX12_power_80 : decode prog_13_method_112_code 80 = .ok (.iconst 0, 1) := by decide +kernel
theorem dX12_power_81 : decode prog_13_method_112_code 81 = .ok (.iaload, 1) := by decide +kernel
theorem dX12_power_82 : decode prog_13_method_112_code 82 = .ok (.iload_n 1, 1) := by decide +kernel
theorem dX12_power_83 : decode prog_13_method_112_code 83 = .ok (.invokestatic 386, 3) := by decide +kernel
theorem dX12_power_86 : decode prog_13_method_112_code 86 = .ok (.ifCond .ne 6, 3) := by decide +kernel
theorem dX12_power_89 : decode prog_13_method_112_code 89 = .ok (.goto 45, 3) := by decide +kernel
theorem dX12_power_92 : decode prog_13_method_112_code 92 = .ok (.iload_n 3, 1) := by decide +kernel
theorem dX12_power_93 : decode prog_13_method_112_code 93 = .ok (.iconst 2, 1) := by decide +kernel
theorem dX12_power_94 : decode prog_13_method_112_code 94 = .ok (.aload_n 0, 1) := by decide +kernel
theorem dX12_power_95 : decode prog_13_method_112_code 95 = .ok (.iload 4, 2) := by decide +kernel
theorem dX12_power_97 : decode prog_13_method_112_code 97 = .ok (.invokevirtual 580, 3) := by decide +kernel
theorem dX12_power_100 : decode prog_13_method_112_code 100 = .ok (.imul, 1) := by decide +kernel
theorem dX12_power_101 : decode prog_13_method_112_code 101 = .ok (.iload_n 2, 1) := by decide +kernel
theorem dX12_power_102 : decode prog_13_method_112_code 102 = .ok (.if_icmp .gt 29, 3) := by decide +kernel
theorem dX12_power_105 : decode prog_13_method_112_code 105 = .ok (.iconst 2, 1) := by decide +kernel
theorem dX12_power_106 : decode prog_13_method_112_code 106 = .ok (.aload_n 0, 1) := by decide +kernel
theorem dX12_power_107 : decode prog_13_method_112_code 107 = .ok (.iload 4, 2) := by decide +kernel
theorem dX12_power_109 : decode prog_13_method_112_code 109 = .ok (.invokevirtual 580, 3) := by decide +kernel
theorem dX12_power_112 : decode prog_13_method_112_code 112 = .ok (.aload_n 0, 1) := by decide +kernel
theorem dX12_power_113 : decode prog_13_method_112_code 113 = .ok (.getfield 409, 3) := by decide +kernel
theorem dX12_power_116 : decode prog_13_method_112_code 116 = .ok (.getfield 331, 3) := by decide +kernel
theorem dX12_power_119 : decode prog_13_method_112_code 119 = .ok (.iload_n 1, 1) := by decide +kernel
theorem dX12_power_120 : decode prog_13_method_112_code 120 = .ok (.iaload, 1) := by decide +kernel
theorem dX12_power_121 : decode prog_13_method_112_code 121 = .ok (.iadd, 1) := by decide +kernel
theorem dX12_power_122 : decode prog_13_method_112_code 122 = .ok (.imul, 1) := by decide +kernel
theorem dX12_power_123 : decode prog_13_method_112_code 123 = .ok (.iload_n 2, 1) := by decide +kernel
theorem dX12_power_124 : decode prog_13_method_112_code 124 = .ok (.if_icmp .le 7, 3) := by decide +kernel
theorem dX12_power_127 : decode prog_13_method_112_code 127 = .ok (.iconst 1, 1) := by decide +kernel
theorem dX12_power_128 : decode prog_13_method_112_code 128 = .ok (.goto 4, 3) := by decide +kernel
theorem dX12_power_131 : decode prog_13_method_112_code 131 = .ok (.iconst 0, 1) := by decide +kernel
theorem dX12_power_132 : decode prog_13_method_112_code 132 = .ok (.iadd, 1) := by decide +kernel
theorem dX12_power_133 : decode prog_13_method_112_code 133 = .ok (.istore_n 3, 1) := by decide +kernel
theorem dX12_power_134 : decode prog_13_method_112_code 134 = .ok (.iinc 4 1, 3) := by decide +kernel
theorem dX12_power_137 : decode prog_13_method_112_code 137 = .ok (.goto (-98), 3) := by decide +kernel
theorem dX12_power_140 : decode prog_13_method_112_code 140 = .ok (.aload_n 0, 1) := by decide +kernel
theorem dX12_power_141 : decode prog_13_method_112_code 141 = .ok (.iload_n 3, 1) := by decide +kernel
theorem dX12_power_142 : decode prog_13_method_112_code 142 = .ok (.invokevirtual 95, 3) := by decide +kernel
theorem dX12_power_145 : decode prog_13_method_112_code 145 = .ok (.ireturn, 1) := by decide +kernel
theorem dX12_stands_0 : decode prog_13_method_113_code 0 = .ok (.aload_n 0, 1) := by decide +kernel
theorem dX12_stands_1 : decode prog_13_method_113_code 1 = .ok (.iconst 0, 1) := by decide +kernel
theorem dX12_stands_2 : decode prog_13_method_113_code 2 = .ok (.putfield 85, 3) := by decide +kernel
theorem dX12_stands_5 : decode prog_13_method_113_code 5 = .ok (.aload_n 0, 1) := by decide +kernel
theorem dX12_stands_6 : decode prog_13_method_113_code 6 = .ok (.getfield 409, 3) := by decide +kernel
theorem dX12_stands_9 : decode prog_13_method_113_code 9 = .ok (.ifnonnull 10, 3) := by decide +kernel
theorem dX12_stands_12 : decode prog_13_method_113_code 12 = .ok (.aload_n 0, 1) := by decide +kernel
theorem dX12_stands_13 : decode prog_13_method_113_code 13 = .ok (.iconst 1, 1) := by decide +kernel
theorem dX12_stands_14 : decode prog_13_method_113_code 14 = .ok (.invokevirtual 91, 3) := by decide +kernel
theorem dX12_stands_17 : decode prog_13_method_113_code 17 = .ok (.i2l, 1) := by decide +kernel
theorem dX12_stands_18 : decode prog_13_method_113_code 18 = .ok (.lreturn, 1) := by decide +kernel
theorem dX12_stands_19 : decode prog_13_method_113_code 19 = .ok (.iload_n 1, 1) := by decide +kernel
theorem dX12_stands_20 : decode prog_13_method_113_code 20 = .ok (.iconst 0, 1) := by decide +kernel
theorem dX12_stands_21 : decode prog_13_method_113_code 21 = .ok (.bipush 8, 2) := by decide +kernel
theorem dX12_stands_23 : decode prog_13_method_113_code 23 = .ok (.invokestatic 160, 3) := by decide +kernel
theorem dX12_stands_26 : decode prog_13_method_113_code 26 = .ok (.ifCond .eq 14, 3) := by decide +kernel
theorem dX12_stands_29 : decode prog_13_method_113_code 29 = .ok (.iload_n 1, 1) := by decide +kernel
theorem dX12_stands_30 : decode prog_13_method_113_code 30 = .ok (.aload_n 0, 1) := by decide +kernel
theorem dX12_stands_31 : decode prog_13_method_113_code 31 = .ok (.getfield 409, 3) := by decide +kernel
theorem dX12_stands_34 : decode prog_13_method_113_code 34 = .ok (.getfield 176, 3) := by decide +kernel
theorem dX12_stands_37 : decode prog_13_method_113_code 37 = .ok (.if_icmp .le 10, 3) := by decide +kernel
theorem dX12_stands_40 : decode prog_13_method_113_code 40 = .ok (.aload_n 0, 1) := by decide +kernel
theorem dX12_stands_41 : decode prog_13_method_113_code 41 = .ok (.iconst 2, 1) := by decide +kernel
theorem dX12_stands_42 : decode prog_13_method_113_code 42 = .ok (.invokevirtual 91, 3) := by decide +kernel
theorem dX12_stands_45 : decode prog_13_method_113_code 45 = .ok (.i2l, 1) := by decide +kernel
theorem dX12_stands_46 : decode prog_13_method_113_code 46 = .ok (.lreturn, 1) := by decide +kernel
theorem dX12_stands_47 : decode prog_13_method_113_code 47 = .ok (.aload_n 0, 1) := by decide +kernel
theorem dX12_stands_48 : decode prog_13_method_113_code 48 = .ok (.invokevirtual 510, 3) := by decide +kernel
theorem dX12_stands_51 : decode prog_13_method_113_code 51 = .ok (.lconst 1, 1) := by decide +kernel
theorem dX12_stands_52 : decode prog_13_method_113_code 52 = .ok (.lstore_n 3, 1) := by decide +kernel
theorem dX12_stands_53 : decode prog_13_method_113_code 53 = .ok (.lconst 1, 1) := by decide +kernel
theorem dX12_stands_54 : decode prog_13_method_113_code 54 = .ok (.lstore 5, 2) := by decide +kernel
theorem dX12_stands_56 : decode prog_13_method_113_code 56 = .ok (.iconst 0, 1) := by decide +kernel
theorem dX12_stands_57 : decode prog_13_method_113_code 57 = .ok (.istore 7, 2) := by decide +kernel
theorem dX12_stands_59 : decode prog_13_method_113_code 59 = .ok (.iload 7, 2) := by decide +kernel
theorem dX12_stands_61 : decode prog_13_method_113_code 61 = .ok (.iload_n 1, 1) := by decide +kernel
theorem dX12_stands_62 : decode prog_13_method_113_code 62 = .ok (.if_icmp .ge 55, 3) := by decide +kernel
theorem dX12_stands_65 : decode prog_13_method_113_code 65 = .ok (.aload_n 0, 1) := by decide +kernel
theorem dX12_stands_66 : decode prog_13_method_113_code 66 = .ok (.getfield 27, 3) := by decide +kernel
theorem dX12_stands_69 : decode prog_13_method_113_code 69 = .ok (.iload 7, 2) := by decide +kernel
theorem dX12_stands_71 : decode prog_13_method_113_code 71 = .ok (.iaload, 1) := by decide +kernel
theorem dX12_stands_72 : decode prog_13_method_113_code 72 = .ok (.bipush (-2), 2) := by decide +kernel
theorem dX12_stands_74 : decode prog_13_method_113_code 74 = .ok (.if_icmp .ne 6, 3) := by decide +kernel
theorem dX12_stands_77 : decode prog_13_method_113_code 77 = .ok (.goto 34, 3) := by decide +kernel
theorem dX12_stands_80 : decode prog_13_method_113_code 80 = .ok (.lload_n 3, 1) := by decide +kernel
theorem dX12_stands_81 : decode prog_13_method_113_code 81 = .ok (.ldc2_w 583, 3) := by decide +kernel
theorem dX12_stands_84 : decode prog_13_method_113_code 84 = .ok (.aload_n 0, 1) := by decide +kernel
theorem dX12_stands_85 : decode prog_13_method_113_code 85 = .ok (.getfield 409, 3) := by decide +kernel
theorem dX12_stands_88 : decode prog_13_method_113_code 88 = .ok (.getfield 333, 3) := by decide +kernel
theorem dX12_stands_91 : decode prog_13_method_113_code 91 = .ok (.aload_n 0, 1) := by decide +kernel
theorem dX12_stands_92 : decode prog_13_method_113_code 92 = .ok (.getfield 27, 3) := by decide +kernel
theorem dX12_stands_95 : decode prog_13_method_113_code 95 = .ok (.iload 7, 2) := by decide +kernel
theorem dX12_stands_97 : decode prog_13_method_113_code 97 = .ok (.iaload, 1) := by decide +kernel
theorem dX12_stands_98 : decode prog_13_method_113_code 98 = .ok (.iaload, 1) := by decide +kernel
theorem dX12_stands_99 : decode prog_13_method_113_code 99 = .ok (.i2l, 1) := by decide +kernel
theorem dX12_stands_100 : decode prog_13_method_113_code 100 = .ok (.lsub, 1) := by decide +kernel
theorem dX12_stands_101 : decode prog_13_method_113_code 101 = .ok (.lmul, 1) := by decide +kernel
theorem dX12_stands_102 : decode prog_13_method_113_code 102 = .ok (.lstore_n 3, 1) := by decide +kernel
theorem dX12_stands_103 : decode prog_13_method_113_code 103 = .ok (.lload 5, 2) := by decide +kernel
theorem dX12_stands_105 : decode prog_13_method_113_code 105 = .ok (.ldc2_w 583, 3) := by decide +kernel
theorem dX12_stands_108 : decode prog_13_method_113_code 108 = .ok (.lmul, 1) := by decide +kernel
theorem dX12_stands_109 : decode prog_13_method_113_code 109 = .ok (.lstore 5, 2) := by decide +kernel
theorem dX12_stands_111 : decode prog_13_method_113_code 111 = .ok (.iinc 7 1, 3) := by decide +kernel
theorem dX12_stands_114 : decode prog_13_method_113_code 114 = .ok (.goto (-55), 3) := by decide +kernel
theorem dX12_stands_117 : decode prog_13_method_113_code 117 = .ok (.lload_n 3, 1) := by decide +kernel
theorem dX12_stands_118 : decode prog_13_method_113_code 118 = .ok (.lstore 7, 2) := by decide +kernel
theorem dX12_stands_120 : decode prog_13_method_113_code 120 = .ok (.lload 5, 2) := by decide +kernel
theorem dX12_stands_122 : decode prog_13_method_113_code 122 = .ok (.lstore 9, 2) := by decide +kernel
theorem dX12_stands_124 : decode prog_13_method_113_code 124 = .ok (.lload 9, 2) := by decide +kernel
theorem dX12_stands_126 : decode prog_13_method_113_code 126 = .ok (.lconst 0, 1) := by decide +kernel
theorem dX12_stands_127 : decode prog_13_method_113_code 127 = .ok (.lcmp, 1) := by decide +kernel
theorem dX12_stands_128 : decode prog_13_method_113_code 128 = .ok (.ifCond .eq 21, 3) := by decide +kernel
theorem dX12_stands_131 : decode prog_13_method_113_code 131 = .ok (.lload 7, 2) := by decide +kernel
theorem dX12_stands_133 : decode prog_13_method_113_code 133 = .ok (.lload 9, 2) := by decide +kernel
theorem dX12_stands_135 : decode prog_13_method_113_code 135 = .ok (.lrem, 1) := by decide +kernel
theorem dX12_stands_136 : decode prog_13_method_113_code 136 = .ok (.lstore 11, 2) := by decide +kernel
theorem dX12_stands_138 : decode prog_13_method_113_code 138 = .ok (.lload 9, 2) := by decide +kernel
theorem dX12_stands_140 : decode prog_13_method_113_code 140 = .ok (.lstore 7, 2) := by decide +kernel
theorem dX12_stands_142 : decode prog_13_method_113_code 142 = .ok (.lload 11, 2) := by decide +kernel
theorem dX12_stands_144 : decode prog_13_method_113_code 144 = .ok (.lstore 9, 2) := by decide +kernel
theorem dX12_stands_146 : decode prog_13_method_113_code 146 = .ok (.goto (-22), 3) := by decide +kernel
theorem dX12_stands_149 : decode prog_13_method_113_code 149 = .ok (.aload_n 0, 1) := by decide +kernel
theorem dX12_stands_150 : decode prog_13_method_113_code 150 = .ok (.iconst 0, 1) := by decide +kernel
theorem dX12_stands_151 : decode prog_13_method_113_code 151 = .ok (.invokevirtual 95, 3) := by decide +kernel
theorem dX12_stands_154 : decode prog_13_method_113_code 154 = .ok (.pop, 1) := by decide +kernel
theorem dX12_stands_155 : decode prog_13_method_113_code 155 = .ok (.iload_n 2, 1) := by decide +kernel
theorem dX12_stands_156 : decode prog_13_method_113_code 156 = .ok (.ifCond .eq 11, 3) := by decide +kernel
theorem dX12_stands_159 : decode prog_13_method_113_code 159 = .ok (.lload 5, 2) := by decide +kernel
theorem dX12_stands_161 : decode prog_13_method_113_code 161 = .ok (.lload 7, 2) := by decide +kernel
theorem dX12_stands_163 : decode prog_13_method_113_code 163 = .ok (.ldiv, 1) := by decide +kernel
theorem dX12_stands_164 : decode prog_13_method_113_code 164 = .ok (.goto 7, 3) := by decide +kernel
theorem dX12_stands_167 : decode prog_13_method_113_code 167 = .ok (.lload_n 3, 1) := by decide +kernel
theorem dX12_stands_168 : decode prog_13_method_113_code 168 = .ok (.lload 7, 2) := by decide +kernel
theorem dX12_stands_170 : decode prog_13_method_113_code 170 = .ok (.ldiv, 1) := by decide +kernel
theorem dX12_stands_171 : decode prog_13_method_113_code 171 = .ok (.lreturn, 1) := by decide +kernel
theorem dX12_mean_0 : decode prog_13_method_114_code 0 = .ok (.aload_n 0, 1) := by decide +kernel
theorem dX12_mean_1 : decode prog_13_method_114_code 1 = .ok (.iconst 0, 1) := by decide +kernel
theorem dX12_mean_2 : decode prog_13_method_114_code 2 = .ok (.putfield 85, 3) := by decide +kernel
theorem dX12_mean_5 : decode prog_13_method_114_code 5 = .ok (.aload_n 0, 1) := by decide +kernel
theorem dX12_mean_6 : decode prog_13_method_114_code 6 = .ok (.iload_n 1, 1) := by decide +kernel
theorem dX12_mean_7 : decode prog_13_method_114_code 7 = .ok (.invokevirtual 513, 3) := by decide +kernel
theorem dX12_mean_10 : decode prog_13_method_114_code 10 = .ok (.ifCond .ne 9, 3) := by decide +kernel
theorem dX12_mean_13 : decode prog_13_method_114_code 13 = .ok (.aload_n 0, 1) := by decide +kernel
theorem dX12_mean_14 : decode prog_13_method_114_code 14 = .ok (.iconst 1, 1) := by decide +kernel
theorem dX12_mean_15 : decode prog_13_method_114_code 15 = .ok (.invokevirtual 91, 3) := by decide +kernel
theorem dX12_mean_18 : decode prog_13_method_114_code 18 = .ok (.ireturn, 1) := by decide +kernel
theorem dX12_mean_19 : decode prog_13_method_114_code 19 = .ok (.iload_n 2, 1) := by decide +kernel
theorem dX12_mean_20 : decode prog_13_method_114_code 20 = .ok (.iconst 0, 1) := by decide +kernel
theorem dX12_mean_21 : decode prog_13_method_114_code 21 = .ok (.ldc_w 585, 3) := by decide +kernel
theorem dX12_mean_24 : decode prog_13_method_114_code 24 = .ok (.invokestatic 160, 3) := by decide +kernel
theorem dX12_mean_27 : decode prog_13_method_114_code 27 = .ok (.ifCond .eq 13, 3) := by decide +kernel
theorem dX12_mean_30 : decode prog_13_method_114_code 30 = .ok (.iload_n 3, 1) := by decide +kernel
theorem dX12_mean_31 : decode prog_13_method_114_code 31 = .ok (.iconst 1, 1) := by decide +kernel
theorem dX12_mean_32 : decode prog_13_method_114_code 32 = .ok (.bipush 50, 2) := by decide +kernel
theorem dX12_mean_34 : decode prog_13_method_114_code 34 = .ok (.invokestatic 160, 3) := by decide +kernel
theorem dX12_mean_37 : decode prog_13_method_114_code 37 = .ok (.ifCond .ne 9, 3) := by decide +kernel
theorem dX12_mean_40 : decode prog_13_method_114_code 40 = .ok (.aload_n 0, 1) := by decide +kernel
theorem dX12_mean_41 : decode prog_13_method_114_code 41 = .ok (.iconst 2, 1) := by decide +kernel
theorem dX12_mean_42 : decode prog_13_method_114_code 42 = .ok (.invokevirtual 91, 3) := by decide +kernel
theorem dX12_mean_45 : decode prog_13_method_114_code 45 = .ok (.ireturn, 1) := by decide +kernel
theorem dX12_mean_46 : decode prog_13_method_114_code 46 = .ok (.iconst 0, 1) := by decide +kernel
theorem dX12_mean_47 : decode prog_13_method_114_code 47 = .ok (.istore 4, 2) := by decide +kernel
theorem dX12_mean_49 : decode prog_13_method_114_code 49 = .ok (.iconst 0, 1) := by decide +kernel
theorem dX12_mean_50 : decode prog_13_method_114_code 50 = .ok (.istore 5, 2) := by decide +kernel
theorem dX12_mean_52 : decode prog_13_method_114_code 52 = .ok (.iload 5, 2) := by decide +kernel
theorem dX12_mean_54 : decode prog_13_method_114_code 54 = .ok (.iload_n 3, 1) := by decide +kernel
theorem dX12_mean_55 : decode prog_13_method_114_code 55 = .ok (.if_icmp .ge 33, 3) := by decide +kernel
theorem dX12_mean_58 : decode prog_13_method_114_code 58 = .ok (.aload_n 0, 1) := by decide +kernel
theorem dX12_mean_59 : decode prog_13_method_114_code 59 = .ok (.iconst 3, 1) := by decide +kernel
theorem dX12_mean_60 : decode prog_13_method_114_code 60 = .ok (.iload_n 2, 1) := by decide +kernel
theorem dX12_mean_61 : decode prog_13_method_114_code 61 = .ok (.iload 5, 2) := by decide +kernel
theorem dX12_mean_63 : decode prog_13_method_114_code 63 = .ok (.iadd, 1) := by decide +kernel
theorem dX12_mean_64 : decode prog_13_method_114_code 64 = .ok (.ldc_w 586, 3) := by decide +kernel
theorem dX12_mean_67 : decode prog_13_method_114_code 67 = .ok (.irem, 1) := by decide +kernel
theorem dX12_mean_68 : decode prog_13_method_114_code 68 = .ok (.invokevirtual 417, 3) := by decide +kernel
theorem dX12_mean_71 : decode prog_13_method_114_code 71 = .ok (.iload 4, 2) := by decide +kernel
theorem dX12_mean_73 : decode prog_13_method_114_code 73 = .ok (.aload_n 0, 1) := by decide +kernel
theorem dX12_mean_74 : decode prog_13_method_114_code 74 = .ok (.getfield 58, 3) := by decide +kernel
theorem dX12_mean_77 : decode prog_13_method_114_code 77 = .ok (.iload_n 1, 1) := by decide +kernel
theorem dX12_mean_78 : decode prog_13_method_114_code 78 = .ok (.iaload, 1) := by decide +kernel
theorem dX12_mean_79 : decode prog_13_method_114_code 79 = .ok (.iadd, 1) := by decide +kernel
theorem dX12_mean_80 : decode prog_13_method_114_code 80 = .ok (.istore 4, 2) := by decide +kernel
theorem dX12_mean_82 : decode prog_13_method_114_code 82 = .ok (.iinc 5 1, 3) := by decide +kernel
theorem dX12_mean_85 : decode prog_13_method_114_code 85 = .ok (.goto (-33), 3) := by decide +kernel
theorem dX12_mean_88 : decode prog_13_method_114_code 88 = .ok (.aload_n 0, 1) := by decide +kernel
theorem dX12_mean_89 : decode prog_13_method_114_code 89 = .ok (.iload 4, 2) := by decide +kernel
theorem dX12_mean_91 : decode prog_13_method_114_code 91 = .ok (.invokevirtual 95, 3) := by decide +kernel
theorem dX12_mean_94 : decode prog_13_method_114_code 94 = .ok (.ireturn, 1) := by decide +kernel
theorem dX12_keepsAll_0 : decode prog_13_method_115_code 0 = .ok (.aload_n 0, 1) := by decide +kernel
theorem dX12_keepsAll_1 : decode prog_13_method_115_code 1 = .ok (.getfield 411, 3) := by decide +kernel
theorem dX12_keepsAll_4 : decode prog_13_method_115_code 4 = .ok (.bipush 12, 2) := by decide +kernel
theorem dX12_keepsAll_6 : decode prog_13_method_115_code 6 = .ok (.if_icmp .ne 43, 3) := by decide +kernel
theorem dX12_keepsAll_9 : decode prog_13_method_115_code 9 = .ok (.iconst 0, 1) := by decide +kernel
theorem dX12_keepsAll_10 : decode prog_13_method_115_code 10 = .ok (.istore_n 1, 1) := by decide +kernel
theorem dX12_keepsAll_11 : decode prog_13_method_115_code 11 = .ok (.iload_n 1, 1) := by decide +kernel
theorem dX12_keepsAll_12 : decode prog_13_method_115_code 12 = .ok (.sipush 495, 3) := by decide +kernel
theorem dX12_keepsAll_15 : decode prog_13_method_115_code 15 = .ok (.if_icmp .ge 24, 3) := by decide +kernel
theorem dX12_keepsAll_18 : decode prog_13_method_115_code 18 = .ok (.aload_n 0, 1) := by decide +kernel
theorem dX12_keepsAll_19 : decode prog_13_method_115_code 19 = .ok (.getfield 21, 3) := by decide +kernel
theorem dX12_keepsAll_22 : decode prog_13_method_115_code 22 = .ok (.iload_n 1, 1) := by decide +kernel
theorem dX12_keepsAll_23 : decode prog_13_method_115_code 23 = .ok (.aload_n 0, 1) := by decide +kernel
theorem dX12_keepsAll_24 : decode prog_13_method_115_code 24 = .ok (.getfield 21, 3) := by decide +kernel
theorem dX12_keepsAll_27 : decode prog_13_method_115_code 27 = .ok (.iload_n 1, 1) := by decide +kernel
theorem dX12_keepsAll_28 : decode prog_13_method_115_code 28 = .ok (.bipush 45, 2) := by decide +kernel
theorem dX12_keepsAll_30 : decode prog_13_method_115_code 30 = .ok (.iadd, 1) := by decide +kernel
theorem dX12_keepsAll_31 : decode prog_13_method_115_code 31 = .ok (.iaload, 1) := by decide +kernel
theorem dX12_keepsAll_32 : decode prog_13_method_115_code 32 = .ok (.iastore, 1) := by decide +kernel
theorem dX12_keepsAll_33 : decode prog_13_method_115_code 33 = .ok (.iinc 1 1, 3) := by decide +kernel
theorem dX12_keepsAll_36 : decode prog_13_method_115_code 36 = .ok (.goto (-25), 3) := by decide +kernel
theorem dX12_keepsAll_39 : decode prog_13_method_115_code 39 = .ok (.aload_n 0, 1) := by decide +kernel
theorem dX12_keepsAll_40 : decode prog_13_method_115_code 40 = .ok (.dup, 1) := by decide +kernel
theorem dX12_keepsAll_41 : decode prog_13_method_115_code 41 = .ok (.getfield 411, 3) := by decide +kernel
theorem dX12_keepsAll_44 : decode prog_13_method_115_code 44 = .ok (.iconst 1, 1) := by decide +kernel
theorem dX12_keepsAll_45 : decode prog_13_method_115_code 45 = .ok (.isub, 1) := by decide +kernel
theorem dX12_keepsAll_46 : decode prog_13_method_115_code 46 = .ok (.putfield 411, 3) := by decide +kernel
theorem dX12_keepsAll_49 : decode prog_13_method_115_code 49 = .ok (.iconst 0, 1) := by decide +kernel
theorem dX12_keepsAll_50 : decode prog_13_method_115_code 50 = .ok (.istore_n 1, 1) := by decide +kernel
theorem dX12_keepsAll_51 : decode prog_13_method_115_code 51 = .ok (.iload_n 1, 1) := by decide +kernel
theorem dX12_keepsAll_52 : decode prog_13_method_115_code 52 = .ok (.bipush 45, 2) := by decide +kernel
theorem dX12_keepsAll_54 : decode prog_13_method_115_code 54 = .ok (.if_icmp .ge 29, 3) := by decide +kernel
theorem dX12_keepsAll_57 : decode prog_13_method_115_code 57 = .ok (.aload_n 0, 1) := by decide +kernel
theorem dX12_keepsAll_58 : decode prog_13_method_115_code 58 = .ok (.getfield 21, 3) := by decide +kernel
theorem dX12_keepsAll_61 : decode prog_13_method_115_code 61 = .ok (.bipush 45, 2) := by decide +kernel
theorem dX12_keepsAll_63 : decode prog_13_method_115_code 63 = .ok (.aload_n 0, 1) := by decide +kernel
theorem dX12_keepsAll_64 : decode prog_13_method_115_code 64 = .ok (.getfield 411, 3) := by decide +kernel
theorem dX12_keepsAll_67 : decode prog_13_method_115_code 67 = .ok (.imul, 1) := by decide +kernel
theorem dX12_keepsAll_68 : decode prog_13_method_115_code 68 = .ok (.iload_n 1, 1) := by decide +kernel
theorem dX12_keepsAll_69 : decode prog_13_method_115_code 69 = .ok (.iadd, 1) := by decide +kernel
theorem dX12_keepsAll_70 : decode prog_13_method_115_code 70 = .ok (.aload_n 0, 1) := by decide +kernel
theorem dX12_keepsAll_71 : decode prog_13_method_115_code 71 = .ok (.getfield 17, 3) := by decide +kernel
theorem dX12_keepsAll_74 : decode prog_13_method_115_code 74 = .ok (.iload_n 1, 1) := by decide +kernel
theorem dX12_keepsAll_75 : decode prog_13_method_115_code 75 = .ok (.iaload, 1) := by decide +kernel
theorem dX12_keepsAll_76 : decode prog_13_method_115_code 76 = .ok (.iastore, 1) := by decide +kernel
theorem dX12_keepsAll_77 : decode prog_13_method_115_code 77 = .ok (.iinc 1 1, 3) := by decide +kernel
theorem dX12_keepsAll_80 : decode prog_13_method_115_code 80 = .ok (.goto (-29), 3) := by decide +kernel
theorem dX12_keepsAll_83 : decode prog_13_method_115_code 83 = .ok (.aload_n 0, 1) := by decide +kernel
theorem dX12_keepsAll_84 : decode prog_13_method_115_code 84 = .ok (.dup, 1) := by decide +kernel
theorem dX12_keepsAll_85 : decode prog_13_method_115_code 85 = .ok (.getfield 411, 3) := by decide +kernel
theorem dX12_keepsAll_88 : decode prog_13_method_115_code 88 = .ok (.iconst 1, 1) := by decide +kernel
theorem dX12_keepsAll_89 : decode prog_13_method_115_code 89 = .ok (.iadd, 1) := by decide +kernel
theorem dX12_keepsAll_90 : decode prog_13_method_115_code 90 = .ok (.putfield 411, 3) := by decide +kernel
theorem dX12_keepsAll_93 : decode prog_13_method_115_code 93 = .ok (.return_, 1) := by decide +kernel
theorem dX12_buy_0 : decode prog_13_method_116_code 0 = .ok (.aload_n 0, 1) := by decide +kernel
theorem dX12_buy_1 : decode prog_13_method_116_code 1 = .ok (.iconst 0, 1) := by decide +kernel
theorem dX12_buy_2 : decode prog_13_method_116_code 2 = .ok (.putfield 85, 3) := by decide +kernel
theorem dX12_buy_5 : decode prog_13_method_116_code 5 = .ok (.aload_n 0, 1) := by decide +kernel
theorem dX12_buy_6 : decode prog_13_method_116_code 6 = .ok (.iload_n 2, 1) := by decide +kernel
theorem dX12_buy_7 : decode prog_13_method_116_code 7 = .ok (.invokevirtual 513, 3) := by decide +kernel
theorem dX12_buy_10 : decode prog_13_method_116_code 10 = .ok (.ifCond .eq 16, 3) := by decide +kernel
theorem dX12_buy_13 : decode prog_13_method_116_code 13 = .ok (.aload_n 0, 1) := by decide +kernel
theorem dX12_buy_14 : decode prog_13_method_116_code 14 = .ok (.iload_n 3, 1) := by decide +kernel
theorem dX12_buy_15 : decode prog_13_method_116_code 15 = .ok (.invokevirtual 513, 3) := by decide +kernel
theorem dX12_buy_18 : decode prog_13_method_116_code 18 = .ok (.ifCond .eq 8, 3) := by decide +kernel
theorem dX12_buy_21 : decode prog_13_method_116_code 21 = .ok (.iload_n 2, 1) := by decide +kernel
theorem dX12_buy_22 : decode prog_13_method_116_code 22 = .ok (.iload_n 3, 1) := by decide +kernel
theorem dX12_buy_23 : decode prog_13_method_116_code 23 = .ok (.if_icmp .ne 9, 3) := by decide +kernel
theorem dX12_buy_26 : decode prog_13_method_116_code 26 = .ok (.aload_n 0, 1) := by decide +kernel
theorem dX12_buy_27 : decode prog_13_method_116_code 27 = .ok (.iconst 1, 1) := by decide +kernel
theorem dX12_buy_28 : decode prog_13_method_116_code 28 = .ok (.invokevirtual 587, 3) := by decide +kernel
theorem dX12_buy_31 : decode prog_13_method_116_code 31 = .ok (.ireturn, 1) := by decide +kernel
theorem dX12_buy_32 : decode prog_13_method_116_code 32 = .ok (.aload_n 0, 1) := by decide +kernel
theorem dX12_buy_33 : decode prog_13_method_116_code 33 = .ok (.iload_n 1, 1) := by decide +kernel
theorem dX12_buy_34 : decode prog_13_method_116_code 34 = .ok (.invokevirtual 507, 3) := by decide +kernel
theorem dX12_buy_37 : decode prog_13_method_116_code 37 = .ok (.ifCond .eq 14, 3) := by decide +kernel
theorem dX12_buy_40 : decode prog_13_method_116_code 40 = .ok (.iload 4, 2) := by decide +kernel
theorem dX12_buy_42 : decode prog_13_method_116_code 42 = .ok (.iconst 0, 1) := by decide +kernel
theorem dX12_buy_43 : decode prog_13_method_116_code 43 = .ok (.bipush 99, 2) := by decide +kernel
theorem dX12_buy_45 : decode prog_13_method_116_code 45 = .ok (.invokestatic 160, 3) := by decide +kernel
theorem dX12_buy_48 : decode prog_13_method_116_code 48 = .ok (.ifCond .ne 9, 3) := by decide +kernel
theorem dX12_buy_51 : decode prog_13_method_116_code 51 = .ok (.aload_n 0, 1) := by decide +kernel
theorem dX12_buy_52 : decode prog_13_method_116_code 52 = .ok (.iconst 2, 1) := by decide +kernel
theorem dX12_buy_53 : decode prog_13_method_116_code 53 = .ok (.invokevirtual 587, 3) := by decide +kernel
theorem dX12_buy_56 : decode prog_13_method_116_code 56 = .ok (.ireturn, 1) := by decide +kernel
theorem dX12_buy_57 : decode prog_13_method_116_code 57 = .ok (.aload_n 0, 1) := by decide +kernel
theorem dX12_buy_58 : decode prog_13_method_116_code 58 = .ok (.getfield 17, 3) := by decide +kernel
theorem dX12_buy_61 : decode prog_13_method_116_code 61 = .ok (.bipush 12, 2) := by decide +kernel
theorem dX12_buy_63 : decode prog_13_method_116_code 63 = .ok (.iaload, 1) := by decide +kernel
theorem dX12_buy_64 : decode prog_13_method_116_code 64 = .ok (.bipush 8, 2) := by decide +kernel
theorem dX12_buy_66 : decode prog_13_method_116_code 66 = .ok (.if_icmp .ne 9, 3) := by decide +kernel
theorem dX12_buy_69 : decode prog_13_method_116_code 69 = .ok (.aload_n 0, 1) := by decide +kernel
theorem dX12_buy_70 : decode prog_13_method_116_code 70 = .ok (.iconst 3, 1) := by decide +kernel
theorem dX12_buy_71 : decode prog_13_method_116_code 71 = .ok (.invokevirtual 587, 3) := by decide +kernel
theorem dX12_buy_74 : decode prog_13_method_116_code 74 = .ok (.ireturn, 1) := by decide +kernel
theorem dX12_buy_75 : decode prog_13_method_116_code 75 = .ok (.aload_n 0, 1) := by decide +kernel
theorem dX12_buy_76 : decode prog_13_method_116_code 76 = .ok (.invokevirtual 590, 3) := by decide +kernel
theorem dX12_buy_79 : decode prog_13_method_116_code 79 = .ok (.bipush 13, 2) := by decide +kernel
theorem dX12_buy_81 : decode prog_13_method_116_code 81 = .ok (.iconst 4, 1) := by decide +kernel
theorem dX12_buy_82 : decode prog_13_method_116_code 82 = .ok (.aload_n 0, 1) := by decide +kernel
theorem dX12_buy_83 : decode prog_13_method_116_code 83 = .ok (.getfield 17, 3) := by decide +kernel
theorem dX12_buy_86 : decode prog_13_method_116_code 86 = .ok (.bipush 12, 2) := by decide +kernel
theorem dX12_buy_88 : decode prog_13_method_116_code 88 = .ok (.iaload, 1) := by decide +kernel
theorem dX12_buy_89 : decode prog_13_method_116_code 89 = .ok (.imul, 1) := by decide +kernel
theorem dX12_buy_90 : decode prog_13_method_116_code 90 = .ok (.iadd, 1) := by decide +kernel
theorem dX12_buy_91 : decode prog_13_method_116_code 91 = .ok (.istore 5, 2) := by decide +kernel
theorem dX12_buy_93 : decode prog_13_method_116_code 93 = .ok (.aload_n 0, 1) := by decide +kernel
theorem dX12_buy_94 : decode prog_13_method_116_code 94 = .ok (.getfield 17, 3) := by decide +kernel
theorem dX12_buy_97 : decode prog_13_method_116_code 97 = .ok (.iload 5, 2) := by decide +kernel
theorem dX12_buy_99 : decode prog_13_method_116_code 99 = .ok (.iload_n 1, 1) := by decide +kernel
theorem dX12_buy_100 : decode prog_13_method_116_code 100 = .ok (.iastore, 1) := by decide +kernel
theorem dX12_buy_101 : decode prog_13_method_116_code 101 = .ok (.aload_n 0, 1) := by decide +kernel
theorem dX12_buy_102 : decode prog_13_method_116_code 102 = .ok (.getfield 17, 3) := by decide +kernel
theorem dX12_buy_105 : decode prog_13_method_116_code 105 = .ok (.iload 5, 2) := by decide +kernel
theorem dX12_buy_107 : decode prog_13_method_116_code 107 = .ok (.iconst 1, 1) := by decide +kernel
theorem dX12_buy_108 : decode prog_13_method_116_code 108 = .ok (.iadd, 1) := by decide +kernel
theorem dX12_buy_109 : decode prog_13_method_116_code 109 = .ok (.iload_n 2, 1) := by decide +kernel
theorem dX12_buy_110 : decode prog_13_method_116_code 110 = .ok (.iastore, 1) := by decide +kernel
theorem dX12_buy_111 : decode prog_13_method_116_code 111 = .ok (.aload_n 0, 1) := by decide +kernel
theorem dX12_buy_112 : decode prog_13_method_116_code 112 = .ok (.getfield 17, 3) := by decide +kernel
theorem dX12_buy_115 : decode prog_13_method_116_code 115 = .ok (.iload 5, 2) := by decide +kernel
theorem dX12_buy_117 : decode prog_13_method_116_code 117 = .ok (.iconst 2, 1) := by decide +kernel
theorem dX12_buy_118 : decode prog_13_method_116_code 118 = .ok (.iadd, 1) := by decide +kernel
theorem dX12_buy_119 : decode prog_13_method_116_code 119 = .ok (.iload_n 3, 1) := by decide +kernel
theorem dX12_buy_120 : decode prog_13_method_116_code 120 = .ok (.iastore, 1) := by decide +kernel
theorem dX12_buy_121 : decode prog_13_method_116_code 121 = .ok (.aload_n 0, 1) := by decide +kernel
theorem dX12_buy_122 : decode prog_13_method_116_code 122 = .ok (.getfield 17, 3) := by decide +kernel
theorem dX12_buy_125 : decode prog_13_method_116_code 125 = .ok (.iload 5, 2) := by decide +kernel
theorem dX12_buy_127 : decode prog_13_method_116_code 127 = .ok (.iconst 3, 1) := by decide +kernel
theorem dX12_buy_128 : decode prog_13_method_116_code 128 = .ok (.iadd, 1) := by decide +kernel
theorem dX12_buy_129 : decode prog_13_method_116_code 129 = .ok (.iload 4, 2) := by decide +kernel
theorem dX12_buy_131 : decode prog_13_method_116_code 131 = .ok (.iastore, 1) := by decide +kernel
theorem dX12_buy_132 : decode prog_13_method_116_code 132 = .ok (.aload_n 0, 1) := by decide +kernel
theorem dX12_buy_133 : decode prog_13_method_116_code 133 = .ok (.getfield 17, 3) := by decide +kernel
theorem dX12_buy_136 : decode prog_13_method_116_code 136 = .ok (.bipush 12, 2) := by decide +kernel
theorem dX12_buy_138 : decode prog_13_method_116_code 138 = .ok (.dup2, 1) := by decide +kernel
theorem dX12_buy_139 : decode prog_13_method_116_code 139 = .ok (.iaload, 1) := by decide +kernel
theorem dX12_buy_140 : decode prog_13_method_116_code 140 = .ok (.iconst 1, 1) := by decide +kernel
theorem dX12_buy_141 : decode prog_13_method_116_code 141 = .ok (.iadd, 1) := by decide +kernel
theorem dX12_buy_142 : decode prog_13_method_116_code 142 = .ok (.iastore, 1) := by decide +kernel
theorem dX12_buy_143 : decode prog_13_method_116_code 143 = .ok (.aload_n 0, 1) := by decide +kernel
theorem dX12_buy_144 : decode prog_13_method_116_code 144 = .ok (.invokevirtual 593, 3) := by decide +kernel
theorem dX12_buy_147 : decode prog_13_method_116_code 147 = .ok (.ireturn, 1) := by decide +kernel
theorem dX12_death_0 : decode prog_13_method_117_code 0 = .ok (.aload_n 0, 1) := by decide +kernel
theorem dX12_death_1 : decode prog_13_method_117_code 1 = .ok (.iconst 0, 1) := by decide +kernel
theorem dX12_death_2 : decode prog_13_method_117_code 2 = .ok (.putfield 85, 3) := by decide +kernel
theorem dX12_death_5 : decode prog_13_method_117_code 5 = .ok (.aload_n 0, 1) := by decide +kernel
theorem dX12_death_6 : decode prog_13_method_117_code 6 = .ok (.iload_n 1, 1) := by decide +kernel
theorem dX12_death_7 : decode prog_13_method_117_code 7 = .ok (.invokevirtual 513, 3) := by decide +kernel
theorem dX12_death_10 : decode prog_13_method_117_code 10 = .ok (.ifCond .ne 9, 3) := by decide +kernel
theorem dX12_death_13 : decode prog_13_method_117_code 13 = .ok (.aload_n 0, 1) := by decide +kernel
theorem dX12_death_14 : decode prog_13_method_117_code 14 = .ok (.iconst 1, 1) := by decide +kernel
theorem dX12_death_15 : decode prog_13_method_117_code 15 = .ok (.invokevirtual 587, 3) := by decide +kernel
theorem dX12_death_18 : decode prog_13_method_117_code 18 = .ok (.ireturn, 1) := by decide +kernel
theorem dX12_death_19 : decode prog_13_method_117_code 19 = .ok (.iload_n 2, 1) := by decide +kernel
theorem dX12_death_20 : decode prog_13_method_117_code 20 = .ok (.bipush (-2), 2) := by decide +kernel
theorem dX12_death_22 : decode prog_13_method_117_code 22 = .ok (.if_icmp .eq 17, 3) := by decide +kernel
theorem dX12_death_25 : decode prog_13_method_117_code 25 = .ok (.aload_n 0, 1) := by decide +kernel
theorem dX12_death_26 : decode prog_13_method_117_code 26 = .ok (.iload_n 2, 1) := by decide +kernel
theorem dX12_death_27 : decode prog_13_method_117_code 27 = .ok (.invokevirtual 507, 3) := by decide +kernel
theorem dX12_death_30 : decode prog_13_method_117_code 30 = .ok (.ifCond .ne 9, 3) := by decide +kernel
theorem dX12_death_33 : decode prog_13_method_117_code 33 = .ok (.aload_n 0, 1) := by decide +kernel
theorem dX12_death_34 : decode prog_13_method_117_code 34 = .ok (.iconst 2, 1) := by decide +kernel
theorem dX12_death_35 : decode prog_13_method_117_code 35 = .ok (.invokevirtual 587, 3) := by decide +kernel
theorem dX12_death_38 : decode prog_13_method_117_code 38 = .ok (.ireturn, 1) := by decide +kernel
theorem dX12_death_39 : decode prog_13_method_117_code 39 = .ok (.aload_n 0, 1) := by decide +kernel
theorem dX12_death_40 : decode prog_13_method_117_code 40 = .ok (.getfield 17, 3) := by decide +kernel
theorem dX12_death_43 : decode prog_13_method_117_code 43 = .ok (.iconst 2, 1) := by decide +kernel
theorem dX12_death_44 : decode prog_13_method_117_code 44 = .ok (.iload_n 1, 1) := by decide +kernel
theorem dX12_death_45 : decode prog_13_method_117_code 45 = .ok (.iadd, 1) := by decide +kernel
theorem dX12_death_46 : decode prog_13_method_117_code 46 = .ok (.iaload, 1) := by decide +kernel
theorem dX12_death_47 : decode prog_13_method_117_code 47 = .ok (.iload_n 2, 1) := by decide +kernel
theorem dX12_death_48 : decode prog_13_method_117_code 48 = .ok (.if_icmp .ne 9, 3) := by decide +kernel
theorem dX12_death_51 : decode prog_13_method_117_code 51 = .ok (.aload_n 0, 1) := by decide +kernel
theorem dX12_death_52 : decode prog_13_method_117_code 52 = .ok (.iconst 5, 1) := by decide +kernel
theorem dX12_death_53 : decode prog_13_method_117_code 53 = .ok (.invokevirtual 587, 3) := by decide +kernel
theorem dX12_death_56 : decode prog_13_method_117_code 56 = .ok (.ireturn, 1) := by decide +kernel
theorem dX12_death_57 : decode prog_13_method_117_code 57 = .ok (.aload_n 0, 1) := by decide +kernel
theorem dX12_death_58 : decode prog_13_method_117_code 58 = .ok (.invokevirtual 590, 3) := by decide +kernel
theorem dX12_death_61 : decode prog_13_method_117_code 61 = .ok (.aload_n 0, 1) := by decide +kernel
theorem dX12_death_62 : decode prog_13_method_117_code 62 = .ok (.getfield 17, 3) := by decide +kernel
theorem dX12_death_65 : decode prog_13_method_117_code 65 = .ok (.iconst 2, 1) := by decide +kernel
theorem dX12_death_66 : decode prog_13_method_117_code 66 = .ok (.iload_n 1, 1) := by decide +kernel
theorem dX12_death_67 : decode prog_13_method_117_code 67 = .ok (.iadd, 1) := by decide +kernel
theorem dX12_death_68 : decode prog_13_method_117_code 68 = .ok (.iload_n 2, 1) := by decide +kernel
theorem dX12_death_69 : decode prog_13_method_117_code 69 = .ok (.iastore, 1) := by decide +kernel
theorem dX12_death_70 : decode prog_13_method_117_code 70 = .ok (.aload_n 0, 1) := by decide +kernel
theorem dX12_death_71 : decode prog_13_method_117_code 71 = .ok (.invokevirtual 593, 3) := by decide +kernel
theorem dX12_death_74 : decode prog_13_method_117_code 74 = .ok (.ireturn, 1) := by decide +kernel
theorem dX12_law_0 : decode prog_13_method_118_code 0 = .ok (.aload_n 0, 1) := by decide +kernel
theorem dX12_law_1 : decode prog_13_method_118_code 1 = .ok (.iconst 0, 1) := by decide +kernel
theorem dX12_law_2 : decode prog_13_method_118_code 2 = .ok (.putfield 85, 3) := by decide +kernel
theorem dX12_law_5 : decode prog_13_method_118_code 5 = .ok (.aload_n 0, 1) := by decide +kernel
theorem dX12_law_6 : decode prog_13_method_118_code 6 = .ok (.getfield 409, 3) := by decide +kernel
theorem dX12_law_9 : decode prog_13_method_118_code 9 = .ok (.ifnull 12, 3) := by decide +kernel
theorem dX12_law_12 : decode prog_13_method_118_code 12 = .ok (.iload_n 1, 1) := by decide +kernel
theorem dX12_law_13 : decode prog_13_method_118_code 13 = .ok (.iconst 0, 1) := by decide +kernel
theorem dX12_law_14 : decode prog_13_method_118_code 14 = .ok (.iconst 4, 1) := by decide +kernel
theorem dX12_law_15 : decode prog_13_method_118_code 15 = .ok (.invokestatic 160, 3) := by decide +kernel
theorem dX12_law_18 : decode prog_13_method_118_code 18 = .ok (.ifCond .ne 9, 3) := by decide +kernel
theorem dX12_law_21 : decode prog_13_method_118_code 21 = .ok (.aload_n 0, 1) := by decide +kernel
theorem dX12_law_22 : decode prog_13_method_118_code 22 = .ok (.iconst 1, 1) := by decide +kernel
theorem dX12_law_23 : decode prog_13_method_118_code 23 = .ok (.invokevirtual 587, 3) := by decide +kernel
theorem dX12_law_26 : decode prog_13_method_118_code 26 = .ok (.ireturn, 1) := by decide +kernel
theorem dX12_law_27 : decode prog_13_method_118_code 27 = .ok (.aload_n 0, 1) := by decide +kernel
theorem dX12_law_28 : decode prog_13_method_118_code 28 = .ok (.getfield 17, 3) := by decide +kernel
theorem dX12_law_31 : decode prog_13_method_118_code 31 = .ok (.iconst 0, 1) := by decide +kernel
theorem dX12_law_32 : decode prog_13_method_118_code 32 = .ok (.iaload, 1) := by decide +kernel
theorem dX12_law_33 : decode prog_13_method_118_code 33 = .ok (.iload_n 1, 1) := by decide +kernel
theorem dX12_law_34 : decode prog_13_method_118_code 34 = .ok (.if_icmp .ne 9, 3) := by decide +kernel
theorem dX12_law_37 : decode prog_13_method_118_code 37 = .ok (.aload_n 0, 1) := by decide +kernel
theorem dX12_law_38 : decode prog_13_method_118_code 38 = .ok (.iconst 5, 1) := by decide +kernel
theorem dX12_law_39 : decode prog_13_method_118_code 39 = .ok (.invokevirtual 587, 3) := by decide +kernel
theorem dX12_law_42 : decode prog_13_method_118_code 42 = .ok (.ireturn, 1) := by decide +kernel
theorem dX12_law_43 : decode prog_13_method_118_code 43 = .ok (.aload_n 0, 1) := by decide +kernel
theorem dX12_law_44 : decode prog_13_method_118_code 44 = .ok (.invokevirtual 590, 3) := by decide +kernel
theorem dX12_law_47 : decode prog_13_method_118_code 47 = .ok (.aload_n 0, 1) := by decide +kernel
theorem dX12_law_48 : decode prog_13_method_118_code 48 = .ok (.getfield 17, 3) := by decide +kernel
theorem dX12_law_51 : decode prog_13_method_118_code 51 = .ok (.iconst 0, 1) := by decide +kernel
theorem dX12_law_52 : decode prog_13_method_118_code 52 = .ok (.iload_n 1, 1) := by decide +kernel
theorem dX12_law_53 : decode prog_13_method_118_code 53 = .ok (.iastore, 1) := by decide +kernel
theorem dX12_law_54 : decode prog_13_method_118_code 54 = .ok (.aload_n 0, 1) := by decide +kernel
theorem dX12_law_55 : decode prog_13_method_118_code 55 = .ok (.invokevirtual 593, 3) := by decide +kernel
theorem dX12_law_58 : decode prog_13_method_118_code 58 = .ok (.ireturn, 1) := by decide +kernel
theorem dX12_seed_0 : decode prog_13_method_119_code 0 = .ok (.aload_n 0, 1) := by decide +kernel
theorem dX12_seed_1 : decode prog_13_method_119_code 1 = .ok (.iconst 0, 1) := by decide +kernel
theorem dX12_seed_2 : decode prog_13_method_119_code 2 = .ok (.putfield 85, 3) := by decide +kernel
theorem dX12_seed_5 : decode prog_13_method_119_code 5 = .ok (.aload_n 0, 1) := by decide +kernel
theorem dX12_seed_6 : decode prog_13_method_119_code 6 = .ok (.getfield 409, 3) := by decide +kernel
theorem dX12_seed_9 : decode prog_13_method_119_code 9 = .ok (.ifnonnull 9, 3) := by decide +kernel
theorem dX12_seed_12 : decode prog_13_method_119_code 12 = .ok (.aload_n 0, 1) := by decide +kernel
theorem dX12_seed_13 : decode prog_13_method_119_code 13 = .ok (.iconst 1, 1) := by decide +kernel
theorem dX12_seed_14 : decode prog_13_method_119_code 14 = .ok (.invokevirtual 587, 3) := by decide +kernel
theorem dX12_seed_17 : decode prog_13_method_119_code 17 = .ok (.ireturn, 1) := by decide +kernel
theorem dX12_seed_18 : decode prog_13_method_119_code 18 = .ok (.iload_n 1, 1) := by decide +kernel
theorem dX12_seed_19 : decode prog_13_method_119_code 19 = .ok (.iconst 0, 1) := by decide +kernel
theorem dX12_seed_20 : decode prog_13_method_119_code 20 = .ok (.ldc_w 585, 3) := by decide +kernel
theorem dX12_seed_23 : decode prog_13_method_119_code 23 = .ok (.invokestatic 160, 3) := by decide +kernel
theorem dX12_seed_26 : decode prog_13_method_119_code 26 = .ok (.ifCond .ne 9, 3) := by decide +kernel
theorem dX12_seed_29 : decode prog_13_method_119_code 29 = .ok (.aload_n 0, 1) := by decide +kernel
theorem dX12_seed_30 : decode prog_13_method_119_code 30 = .ok (.iconst 2, 1) := by decide +kernel
theorem dX12_seed_31 : decode prog_13_method_119_code 31 = .ok (.invokevirtual 587, 3) := by decide +kernel
theorem dX12_seed_34 : decode prog_13_method_119_code 34 = .ok (.ireturn, 1) := by decide +kernel
theorem dX12_seed_35 : decode prog_13_method_119_code 35 = .ok (.aload_n 0, 1) := by decide +kernel
theorem dX12_seed_36 : decode prog_13_method_119_code 36 = .ok (.getfield 17, 3) := by decide +kernel
theorem dX12_seed_39 : decode prog_13_method_119_code 39 = .ok (.iconst 1, 1) := by decide +kernel
theorem dX12_seed_40 : decode prog_13_method_119_code 40 = .ok (.iload_n 1, 1) := by decide +kernel
theorem dX12_seed_41 : decode prog_13_method_119_code 41 = .ok (.iastore, 1) := by decide +kernel
theorem dX12_seed_42 : decode prog_13_method_119_code 42 = .ok (.aload_n 0, 1) := by decide +kernel
theorem dX12_seed_43 : decode prog_13_method_119_code 43 = .ok (.invokevirtual 593, 3) := by decide +kernel
theorem dX12_seed_46 : decode prog_13_method_119_code 46 = .ok (.ireturn, 1) := by decide +kernel
theorem dX12_undo_0 : decode prog_13_method_120_code 0 = .ok (.aload_n 0, 1) := by decide +kernel
theorem dX12_undo_1 : decode prog_13_method_120_code 1 = .ok (.iconst 0, 1) := by decide +kernel
theorem dX12_undo_2 : decode prog_13_method_120_code 2 = .ok (.putfield 85, 3) := by decide +kernel
theorem dX12_undo_5 : decode prog_13_method_120_code 5 = .ok (.aload_n 0, 1) := by decide +kernel
theorem dX12_undo_6 : decode prog_13_method_120_code 6 = .ok (.getfield 409, 3) := by decide +kernel
theorem dX12_undo_9 : decode prog_13_method_120_code 9 = .ok (.ifnull 10, 3) := by decide +kernel
theorem dX12_undo_12 : decode prog_13_method_120_code 12 = .ok (.aload_n 0, 1) := by decide +kernel
theorem dX12_undo_13 : decode prog_13_method_120_code 13 = .ok (.getfield 411, 3) := by decide +kernel
theorem dX12_undo_16 : decode prog_13_method_120_code 16 = .ok (.ifCond .ne 10, 3) := by decide +kernel
theorem dX12_undo_19 : decode prog_13_method_120_code 19 = .ok (.aload_n 0, 1) := by decide +kernel
theorem dX12_undo_20 : decode prog_13_method_120_code 20 = .ok (.bipush 6, 2) := by decide +kernel
theorem dX12_undo_22 : decode prog_13_method_120_code 22 = .ok (.invokevirtual 587, 3) := by decide +kernel
theorem dX12_undo_25 : decode prog_13_method_120_code 25 = .ok (.ireturn, 1) := by decide +kernel
theorem dX12_undo_26 : decode prog_13_method_120_code 26 = .ok (.aload_n 0, 1) := by decide +kernel
theorem dX12_undo_27 : decode prog_13_method_120_code 27 = .ok (.dup, 1) := by decide +kernel
theorem dX12_undo_28 : decode prog_13_method_120_code 28 = .ok (.getfield 411, 3) := by decide +kernel
theorem dX12_undo_31 : decode prog_13_method_120_code 31 = .ok (.iconst 1, 1) := by decide +kernel
theorem dX12_undo_32 : decode prog_13_method_120_code 32 = .ok (.isub, 1) := by decide +kernel
theorem dX12_undo_33 : decode prog_13_method_120_code 33 = .ok (.putfield 411, 3) := by decide +kernel
theorem dX12_undo_36 : decode prog_13_method_120_code 36 = .ok (.iconst 0, 1) := by decide +kernel
theorem dX12_undo_37 : decode prog_13_method_120_code 37 = .ok (.istore_n 1, 1) := by decide +kernel
theorem dX12_undo_38 : decode prog_13_method_120_code 38 = .ok (.iload_n 1, 1) := by decide +kernel
theorem dX12_undo_39 : decode prog_13_method_120_code 39 = .ok (.bipush 45, 2) := by decide +kernel
theorem dX12_undo_41 : decode prog_13_method_120_code 41 = .ok (.if_icmp .ge 29, 3) := by decide +kernel
theorem dX12_undo_44 : decode prog_13_method_120_code 44 = .ok (.aload_n 0, 1) := by decide +kernel
theorem dX12_undo_45 : decode prog_13_method_120_code 45 = .ok (.getfield 17, 3) := by decide +kernel
theorem dX12_undo_48 : decode prog_13_method_120_code 48 = .ok (.iload_n 1, 1) := by decide +kernel
theorem dX12_undo_49 : decode prog_13_method_120_code 49 = .ok (.aload_n 0, 1) := by decide +kernel
theorem dX12_undo_50 : decode prog_13_method_120_code 50 = .ok (.getfield 21, 3) := by decide +kernel
theorem dX12_undo_53 : decode prog_13_method_120_code 53 = .ok (.bipush 45, 2) := by decide +kernel
theorem dX12_undo_55 : decode prog_13_method_120_code 55 = .ok (.aload_n 0, 1) := by decide +kernel
theorem dX12_undo_56 : decode prog_13_method_120_code 56 = .ok (.getfield 411, 3) := by decide +kernel
theorem dX12_undo_59 : decode prog_13_method_120_code 59 = .ok (.imul, 1) := by decide +kernel
theorem dX12_undo_60 : decode prog_13_method_120_code 60 = .ok (.iload_n 1, 1) := by decide +kernel
theorem dX12_undo_61 : decode prog_13_method_120_code 61 = .ok (.iadd, 1) := by decide +kernel
theorem dX12_undo_62 : decode prog_13_method_120_code 62 = .ok (.iaload, 1) := by decide +kernel
theorem dX12_undo_63 : decode prog_13_method_120_code 63 = .ok (.iastore, 1) := by decide +kernel
theorem dX12_undo_64 : decode prog_13_method_120_code 64 = .ok (.iinc 1 1, 3) := by decide +kernel
theorem dX12_undo_67 : decode prog_13_method_120_code 67 = .ok (.goto (-29), 3) := by decide +kernel
theorem dX12_undo_70 : decode prog_13_method_120_code 70 = .ok (.aload_n 0, 1) := by decide +kernel
theorem dX12_undo_71 : decode prog_13_method_120_code 71 = .ok (.invokevirtual 593, 3) := by decide +kernel
theorem dX12_undo_74 : decode prog_13_method_120_code 74 = .ok (.ireturn, 1) := by decide +kernel
theorem dX12_mark_0 : decode prog_13_method_121_code 0 = .ok (.aload_n 0, 1) := by decide +kernel
theorem dX12_mark_1 : decode prog_13_method_121_code 1 = .ok (.iconst 0, 1) := by decide +kernel
theorem dX12_mark_2 : decode prog_13_method_121_code 2 = .ok (.putfield 85, 3) := by decide +kernel
theorem dX12_mark_5 : decode prog_13_method_121_code 5 = .ok (.aload_n 0, 1) := by decide +kernel
theorem dX12_mark_6 : decode prog_13_method_121_code 6 = .ok (.getfield 409, 3) := by decide +kernel
theorem dX12_mark_9 : decode prog_13_method_121_code 9 = .ok (.ifnonnull 9, 3) := by decide +kernel
theorem dX12_mark_12 : decode prog_13_method_121_code 12 = .ok (.aload_n 0, 1) := by decide +kernel
theorem dX12_mark_13 : decode prog_13_method_121_code 13 = .ok (.iconst 1, 1) := by decide +kernel
theorem dX12_mark_14 : decode prog_13_method_121_code 14 = .ok (.invokevirtual 91, 3) := by decide +kernel
theorem dX12_mark_17 : decode prog_13_method_121_code 17 = .ok (.ireturn, 1) := by decide +kernel
theorem dX12_mark_18 : decode prog_13_method_121_code 18 = .ok (.aload_n 0, 1) := by decide +kernel
theorem dX12_mark_19 : decode prog_13_method_121_code 19 = .ok (.getfield 414, 3) := by decide +kernel
theorem dX12_mark_22 : decode prog_13_method_121_code 22 = .ok (.iconst 3, 1) := by decide +kernel
theorem dX12_mark_23 : decode prog_13_method_121_code 23 = .ok (.if_icmp .ne 9, 3) := by decide +kernel
theorem dX12_mark_26 : decode prog_13_method_121_code 26 = .ok (.aload_n 0, 1) := by decide +kernel
theorem dX12_mark_27 : decode prog_13_method_121_code 27 = .ok (.iconst 3, 1) := by decide +kernel
theorem dX12_mark_28 : decode prog_13_method_121_code 28 = .ok (.invokevirtual 91, 3) := by decide +kernel
theorem dX12_mark_31 : decode prog_13_method_121_code 31 = .ok (.ireturn, 1) := by decide +kernel
theorem dX12_mark_32 : decode prog_13_method_121_code 32 = .ok (.iconst 0, 1) := by decide +kernel
theorem dX12_mark_33 : decode prog_13_method_121_code 33 = .ok (.istore_n 1, 1) := by decide +kernel
theorem dX12_mark_34 : decode prog_13_method_121_code 34 = .ok (.iload_n 1, 1) := by decide +kernel
theorem dX12_mark_35 : decode prog_13_method_121_code 35 = .ok (.bipush 45, 2) := by decide +kernel
theorem dX12_mark_37 : decode prog_13_method_121_code 37 = .ok (.if_icmp .ge 29, 3) := by decide +kernel
theorem dX12_mark_40 : decode prog_13_method_121_code 40 = .ok (.aload_n 0, 1) := by decide +kernel
theorem dX12_mark_41 : decode prog_13_method_121_code 41 = .ok (.getfield 24, 3) := by decide +kernel
theorem dX12_mark_44 : decode prog_13_method_121_code 44 = .ok (.bipush 45, 2) := by decide +kernel
theorem dX12_mark_46 : decode prog_13_method_121_code 46 = .ok (.aload_n 0, 1) := by decide +kernel
theorem dX12_mark_47 : decode prog_13_method_121_code 47 = .ok (.getfield 414, 3) := by decide +kernel
theorem dX12_mark_50 : decode prog_13_method_121_code 50 = .ok (.imul, 1) := by decide +kernel
theorem dX12_mark_51 : decode prog_13_method_121_code 51 = .ok (.iload_n 1, 1) := by decide +kernel
theorem dX12_mark_52 : decode prog_13_method_121_code 52 = .ok (.iadd, 1) := by decide +kernel
theorem dX12_mark_53 : decode prog_13_method_121_code 53 = .ok (.aload_n 0, 1) := by decide +kernel
theorem dX12_mark_54 : decode prog_13_method_121_code 54 = .ok (.getfield 17, 3) := by decide +kernel
theorem dX12_mark_57 : decode prog_13_method_121_code 57 = .ok (.iload_n 1, 1) := by decide +kernel
theorem dX12_mark_58 : decode prog_13_method_121_code 58 = .ok (.iaload, 1) := by decide +kernel
theorem dX12_mark_59 : decode prog_13_method_121_code 59 = .ok (.iastore, 1) := by decide +kernel
theorem dX12_mark_60 : decode prog_13_method_121_code 60 = .ok (.iinc 1 1, 3) := by decide +kernel
theorem dX12_mark_63 : decode prog_13_method_121_code 63 = .ok (.goto (-29), 3) := by decide +kernel
theorem dX12_mark_66 : decode prog_13_method_121_code 66 = .ok (.aload_n 0, 1) := by decide +kernel
theorem dX12_mark_67 : decode prog_13_method_121_code 67 = .ok (.dup, 1) := by decide +kernel
theorem dX12_mark_68 : decode prog_13_method_121_code 68 = .ok (.getfield 414, 3) := by decide +kernel
theorem dX12_mark_71 : decode prog_13_method_121_code 71 = .ok (.iconst 1, 1) := by decide +kernel
theorem dX12_mark_72 : decode prog_13_method_121_code 72 = .ok (.iadd, 1) := by decide +kernel
theorem dX12_mark_73 : decode prog_13_method_121_code 73 = .ok (.putfield 414, 3) := by decide +kernel
theorem dX12_mark_76 : decode prog_13_method_121_code 76 = .ok (.aload_n 0, 1) := by decide +kernel
theorem dX12_mark_77 : decode prog_13_method_121_code 77 = .ok (.aload_n 0, 1) := by decide +kernel
theorem dX12_mark_78 : decode prog_13_method_121_code 78 = .ok (.getfield 414, 3) := by decide +kernel
theorem dX12_mark_81 : decode prog_13_method_121_code 81 = .ok (.iconst 1, 1) := by decide +kernel
theorem dX12_mark_82 : decode prog_13_method_121_code 82 = .ok (.isub, 1) := by decide +kernel
theorem dX12_mark_83 : decode prog_13_method_121_code 83 = .ok (.invokevirtual 95, 3) := by decide +kernel
theorem dX12_mark_86 : decode prog_13_method_121_code 86 = .ok (.ireturn, 1) := by decide +kernel
theorem dX12_back_0 : decode prog_13_method_122_code 0 = .ok (.aload_n 0, 1) := by decide +kernel
theorem dX12_back_1 : decode prog_13_method_122_code 1 = .ok (.iconst 0, 1) := by decide +kernel
theorem dX12_back_2 : decode prog_13_method_122_code 2 = .ok (.putfield 85, 3) := by decide +kernel
theorem dX12_back_5 : decode prog_13_method_122_code 5 = .ok (.aload_n 0, 1) := by decide +kernel
theorem dX12_back_6 : decode prog_13_method_122_code 6 = .ok (.getfield 409, 3) := by decide +kernel
theorem dX12_back_9 : decode prog_13_method_122_code 9 = .ok (.ifnull 15, 3) := by decide +kernel
theorem dX12_back_12 : decode prog_13_method_122_code 12 = .ok (.iload_n 1, 1) := by decide +kernel
theorem dX12_back_13 : decode prog_13_method_122_code 13 = .ok (.ifCond .lt 11, 3) := by decide +kernel
theorem dX12_back_16 : decode prog_13_method_122_code 16 = .ok (.iload_n 1, 1) := by decide +kernel
theorem dX12_back_17 : decode prog_13_method_122_code 17 = .ok (.aload_n 0, 1) := by decide +kernel
theorem dX12_back_18 : decode prog_13_method_122_code 18 = .ok (.getfield 414, 3) := by decide +kernel
theorem dX12_back_21 : decode prog_13_method_122_code 21 = .ok (.if_icmp .lt 9, 3) := by decide +kernel
theorem dX12_back_24 : decode prog_13_method_122_code 24 = .ok (.aload_n 0, 1) := by decide +kernel
theorem dX12_back_25 : decode prog_13_method_122_code 25 = .ok (.iconst 1, 1) := by decide +kernel
theorem dX12_back_26 : decode prog_13_method_122_code 26 = .ok (.invokevirtual 587, 3) := by decide +kernel
theorem dX12_back_29 : decode prog_13_method_122_code 29 = .ok (.ireturn, 1) := by decide +kernel
theorem dX12_back_30 : decode prog_13_method_122_code 30 = .ok (.iconst 0, 1) := by decide +kernel
theorem dX12_back_31 : decode prog_13_method_122_code 31 = .ok (.istore_n 2, 1) := by decide +kernel
theorem dX12_back_32 : decode prog_13_method_122_code 32 = .ok (.iload_n 2, 1) := by decide +kernel
theorem dX12_back_33 : decode prog_13_method_122_code 33 = .ok (.bipush 45, 2) := by decide +kernel
theorem dX12_back_35 : decode prog_13_method_122_code 35 = .ok (.if_icmp .ge 26, 3) := by decide +kernel
theorem dX12_back_38 : decode prog_13_method_122_code 38 = .ok (.aload_n 0, 1) := by decide +kernel
theorem dX12_back_39 : decode prog_13_method_122_code 39 = .ok (.getfield 17, 3) := by decide +kernel
theorem dX12_back_42 : decode prog_13_method_122_code 42 = .ok (.iload_n 2, 1) := by decide +kernel
theorem dX12_back_43 : decode prog_13_method_122_code 43 = .ok (.aload_n 0, 1) := by decide +kernel
theorem dX12_back_44 : decode prog_13_method_122_code 44 = .ok (.getfield 24, 3) := by decide +kernel
theorem dX12_back_47 : decode prog_13_method_122_code 47 = .ok (.bipush 45, 2) := by decide +kernel
theorem dX12_back_49 : decode prog_13_method_122_code 49 = .ok (.iload_n 1, 1) := by decide +kernel
theorem dX12_back_50 : decode prog_13_method_122_code 50 = .ok (.imul, 1) := by decide +kernel
theorem dX12_back_51 : decode prog_13_method_122_code 51 = .ok (.iload_n 2, 1) := by decide +kernel
theorem dX12_back_52 : decode prog_13_method_122_code 52 = .ok (.iadd, 1) := by decide +kernel
theorem dX12_back_53 : decode prog_13_method_122_code 53 = .ok (.iaload, 1) := by decide +kernel
theorem dX12_back_54 : decode prog_13_method_122_code 54 = .ok (.iastore, 1) := by decide +kernel
theorem dX12_back_55 : decode prog_13_method_122_code 55 = .ok (.iinc 2 1, 3) := by decide +kernel
theorem dX12_back_58 : decode prog_13_method_122_code 58 = .ok (.goto (-26), 3) := by decide +kernel
theorem dX12_back_61 : decode prog_13_method_122_code 61 = .ok (.aload_n 0, 1) := by decide +kernel
theorem dX12_back_62 : decode prog_13_method_122_code 62 = .ok (.iconst 0, 1) := by decide +kernel
theorem dX12_back_63 : decode prog_13_method_122_code 63 = .ok (.putfield 411, 3) := by decide +kernel
theorem dX12_back_66 : decode prog_13_method_122_code 66 = .ok (.aload_n 0, 1) := by decide +kernel
theorem dX12_back_67 : decode prog_13_method_122_code 67 = .ok (.invokevirtual 593, 3) := by decide +kernel
theorem dX12_back_70 : decode prog_13_method_122_code 70 = .ok (.ireturn, 1) := by decide +kernel
theorem dX12_led_0 : decode prog_13_method_123_code 0 = .ok (.aload_n 0, 1) := by decide +kernel
theorem dX12_led_1 : decode prog_13_method_123_code 1 = .ok (.iconst 0, 1) := by decide +kernel
theorem dX12_led_2 : decode prog_13_method_123_code 2 = .ok (.putfield 85, 3) := by decide +kernel
theorem dX12_led_5 : decode prog_13_method_123_code 5 = .ok (.iconst 0, 1) := by decide +kernel
theorem dX12_led_6 : decode prog_13_method_123_code 6 = .ok (.istore_n 2, 1) := by decide +kernel
theorem dX12_led_7 : decode prog_13_method_123_code 7 = .ok (.aload_n 0, 1) := by decide +kernel
theorem dX12_led_8 : decode prog_13_method_123_code 8 = .ok (.getfield 409, 3) := by decide +kernel
theorem dX12_led_11 : decode prog_13_method_123_code 11 = .ok (.ifnull 7, 3) := by decide +kernel
theorem dX12_led_14 : decode prog_13_method_123_code 14 = .ok (.aload_n 0, 1) := by decide +kernel
theorem dX12_led_15 : decode prog_13_method_123_code 15 = .ok (.invokevirtual 510, 3) := by decide +kernel
theorem dX12_led_18 : decode prog_13_method_123_code 18 = .ok (.iconst 0, 1) := by decide +kernel
theorem dX12_led_19 : decode prog_13_method_123_code 19 = .ok (.istore_n 3, 1) := by decide +kernel
theorem dX12_led_20 : decode prog_13_method_123_code 20 = .ok (.aload_n 0, 1) := by decide +kernel
theorem dX12_led_21 : decode prog_13_method_123_code 21 = .ok (.getfield 409, 3) := by decide +kernel
theorem dX12_led_24 : decode prog_13_method_123_code 24 = .ok (.ifnull 66, 3) := by decide +kernel
theorem dX12_led_27 : decode prog_13_method_123_code 27 = .ok (.iload_n 3, 1) := by decide +kernel
theorem dX12_led_28 : decode prog_13_method_123_code 28 = .ok (.aload_n 0, 1) := by decide +kernel
theorem dX12_led_29 : decode prog_13_method_123_code 29 = .ok (.getfield 409, 3) := by decide +kernel
theorem dX12_led_32 : decode prog_13_method_123_code 32 = .ok (.getfield 176, 3) := by decide +kernel
theorem dX12_led_35 : decode prog_13_method_123_code 35 = .ok (.if_icmp .ge 55, 3) := by decide +kernel
theorem dX12_led_38 : decode prog_13_method_123_code 38 = .ok (.aload_n 0, 1) := by decide +kernel
theorem dX12_led_39 : decode prog_13_method_123_code 39 = .ok (.getfield 27, 3) := by decide +kernel
theorem dX12_led_42 : decode prog_13_method_123_code 42 = .ok (.iload_n 3, 1) := by decide +kernel
theorem dX12_led_43 : decode prog_13_method_123_code 43 = .ok (.iaload, 1) := by decide +kernel
theorem dX12_led_44 : decode prog_13_method_123_code 44 = .ok (.bipush (-2), 2) := by decide +kernel
theorem dX12_led_46 : decode prog_13_method_123_code 46 = .ok (.if_icmp .eq 38, 3) := by decide +kernel
theorem dX12_led_49 : decode prog_13_method_123_code 49 = .ok (.aload_n 0, 1) := by decide +kernel
theorem dX12_led_50 : decode prog_13_method_123_code 50 = .ok (.getfield 73, 3) := by decide +kernel
theorem dX12_led_53 : decode prog_13_method_123_code 53 = .ok (.aload_n 0, 1) := by decide +kernel
theorem dX12_led_54 : decode prog_13_method_123_code 54 = .ok (.getfield 27, 3) := by decide +kernel
theorem dX12_led_57 : decode prog_13_method_123_code 57 = .ok (.iload_n 3, 1) := by decide +kernel
theorem dX12_led_58 : decode prog_13_method_123_code 58 = .ok (.iaload, 1) := by decide +kernel
theorem dX12_led_59 : decode prog_13_method_123_code 59 = .ok (.iaload, 1) := by decide +kernel
theorem dX12_led_60 : decode prog_13_method_123_code 60 = .ok (.iload_n 3, 1) := by decide +kernel
theorem dX12_led_61 : decode prog_13_method_123_code 61 = .ok (.iconst 1, 1) := by decide +kernel
theorem dX12_led_62 : decode prog_13_method_123_code 62 = .ok (.iadd, 1) := by decide +kernel
theorem dX12_led_63 : decode prog_13_method_123_code 63 = .ok (.if_icmp .eq 6, 3) := by decide +kernel
theorem dX12_led_66 : decode prog_13_method_123_code 66 = .ok (.goto 18, 3) := by decide +kernel
theorem dX12_led_69 : decode prog_13_method_123_code 69 = .ok (.iload_n 2, 1) := by decide +kernel
theorem dX12_led_70 : decode prog_13_method_123_code 70 = .ok (.iload_n 1, 1) := by decide +kernel
theorem dX12_led_71 : decode prog_13_method_123_code 71 = .ok (.if_icmp .ne 10, 3) := by decide +kernel
theorem dX12_led_74 : decode prog_13_method_123_code 74 = .ok (.aload_n 0, 1) := by decide +kernel
theorem dX12_led_75 : decode prog_13_method_123_code 75 = .ok (.getfield 27, 3) := by decide +kernel
theorem dX12_led_78 : decode prog_13_method_123_code 78 = .ok (.iload_n 3, 1) := by decide +kernel
theorem dX12_led_79 : decode prog_13_method_123_code 79 = .ok (.iaload, 1) := by decide +kernel
theorem dX12_led_80 : decode prog_13_method_123_code 80 = .ok (.ireturn, 1) := by decide +kernel
theorem dX12_led_81 : decode prog_13_method_123_code 81 = .ok (.iinc 2 1, 3) := by decide +kernel
theorem dX12_led_84 : decode prog_13_method_123_code 84 = .ok (.iinc 3 1, 3) := by decide +kernel
theorem dX12_led_87 : decode prog_13_method_123_code 87 = .ok (.goto (-67), 3) := by decide +kernel
theorem dX12_led_90 : decode prog_13_method_123_code 90 = .ok (.aload_n 0, 1) := by decide +kernel
theorem dX12_led_91 : decode prog_13_method_123_code 91 = .ok (.iconst 1, 1) := by decide +kernel
theorem dX12_led_92 : decode prog_13_method_123_code 92 = .ok (.putfield 85, 3) := by decide +kernel
theorem dX12_led_95 : decode prog_13_method_123_code 95 = .ok (.iconst 0, 1) := by decide +kernel
theorem dX12_led_96 : decode prog_13_method_123_code 96 = .ok (.ireturn, 1) := by decide +kernel
theorem dX12_size_0 : decode prog_13_method_124_code 0 = .ok (.aload_n 0, 1) := by decide +kernel
theorem dX12_size_1 : decode prog_13_method_124_code 1 = .ok (.iconst 0, 1) := by decide +kernel
theorem dX12_size_2 : decode prog_13_method_124_code 2 = .ok (.putfield 85, 3) := by decide +kernel
theorem dX12_size_5 : decode prog_13_method_124_code 5 = .ok (.iload_n 1, 1) := by decide +kernel
theorem dX12_size_6 : decode prog_13_method_124_code 6 = .ok (.bipush 12, 2) := by decide +kernel
theorem dX12_size_8 : decode prog_13_method_124_code 8 = .ok (.if_icmp .ne 8, 3) := by decide +kernel
theorem dX12_size_11 : decode prog_13_method_124_code 11 = .ok (.aload_n 0, 1) := by decide +kernel
theorem dX12_size_12 : decode prog_13_method_124_code 12 = .ok (.getfield 402, 3) := by decide +kernel
theorem dX12_size_15 : decode prog_13_method_124_code 15 = .ok (.ireturn, 1) := by decide +kernel
theorem dX12_size_16 : decode prog_13_method_124_code 16 = .ok (.iload_n 1, 1) := by decide +kernel
theorem dX12_size_17 : decode prog_13_method_124_code 17 = .ok (.iconst 0, 1) := by decide +kernel
theorem dX12_size_18 : decode prog_13_method_124_code 18 = .ok (.bipush 11, 2) := by decide +kernel
theorem dX12_size_20 : decode prog_13_method_124_code 20 = .ok (.invokestatic 160, 3) := by decide +kernel
theorem dX12_size_23 : decode prog_13_method_124_code 23 = .ok (.ifCond .ne 5, 3) := by decide +kernel
theorem dX12_size_26 : decode prog_13_method_124_code 26 = .ok (.iconst (-1), 1) := by decide +kernel
theorem dX12_size_27 : decode prog_13_method_124_code 27 = .ok (.ireturn, 1) := by decide +kernel
theorem dX12_size_28 : decode prog_13_method_124_code 28 = .ok (.aload_n 0, 1) := by decide +kernel
theorem dX12_size_29 : decode prog_13_method_124_code 29 = .ok (.getfield 409, 3) := by decide +kernel
theorem dX12_size_32 : decode prog_13_method_124_code 32 = .ok (.ifnonnull 5, 3) := by decide +kernel
theorem dX12_size_35 : decode prog_13_method_124_code 35 = .ok (.iconst 0, 1) := by decide +kernel
theorem dX12_size_36 : decode prog_13_method_124_code 36 = .ok (.ireturn, 1) := by decide +kernel
theorem dX12_size_37 : decode prog_13_method_124_code 37 = .ok (.iload_n 1, 1) := by decide +kernel
theorem dX12_size_38 : decode prog_13_method_124_code 38 = .ok (.tableswitch 149 0 10 #[58, 66, 73, 81, 89, 97, 113, 121, 129, 137, 144], 58) := by decide +kernel
theorem dX12_size_96 : decode prog_13_method_124_code 96 = .ok (.aload_n 0, 1) := by decide +kernel
theorem dX12_size_97 : decode prog_13_method_124_code 97 = .ok (.getfield 409, 3) := by decide +kernel
theorem dX12_size_100 : decode prog_13_method_124_code 100 = .ok (.getfield 176, 3) := by decide +kernel
theorem dX12_size_103 : decode prog_13_method_124_code 103 = .ok (.ireturn, 1) := by decide +kernel
theorem dX12_size_104 : decode prog_13_method_124_code 104 = .ok (.aload_n 0, 1) := by decide +kernel
theorem dX12_size_105 : decode prog_13_method_124_code 105 = .ok (.getfield 17, 3) := by decide +kernel
theorem dX12_size_108 : decode prog_13_method_124_code 108 = .ok (.iconst 0, 1) := by decide +kernel
theorem dX12_size_109 : decode prog_13_method_124_code 109 = .ok (.iaload, 1) := by decide +kernel
theorem dX12_size_110 : decode prog_13_method_124_code 110 = .ok (.ireturn, 1) := by decide +kernel
theorem dX12_size_111 : decode prog_13_method_124_code 111 = .ok (.aload_n 0, 1) := by decide +kernel
theorem dX12_size_112 : decode prog_13_method_124_code 112 = .ok (.getfield 409, 3) := by decide +kernel
theorem dX12_size_115 : decode prog_13_method_124_code 115 = .ok (.getfield 279, 3) := by decide +kernel
theorem dX12_size_118 : decode prog_13_method_124_code 118 = .ok (.ireturn, 1) := by decide +kernel
theorem dX12_size_119 : decode prog_13_method_124_code 119 = .ok (.aload_n 0, 1) := by decide +kernel
theorem dX12_size_120 : decode prog_13_method_124_code 120 = .ok (.getfield 409, 3) := by decide +kernel
theorem dX12_size_123 : decode prog_13_method_124_code 123 = .ok (.getfield 230, 3) := by decide +kernel
theorem dX12_size_126 : decode prog_13_method_124_code 126 = .ok (.ireturn, 1) := by decide +kernel
theorem dX12_size_127 : decode prog_13_method_124_code 127 = .ok (.aload_n 0, 1) := by decide +kernel
theorem dX12_size_128 : decode prog_13_method_124_code 128 = .ok (.getfield 409, 3) := by decide +kernel
theorem dX12_size_131 : decode prog_13_method_124_code 131 = .ok (.getfield 337, 3) := by decide +kernel
theorem dX12_size_134 : decode prog_13_method_124_code 134 = .ok (.ireturn, 1) := by decide +kernel
theorem dX12_size_135 : decode prog_13_method_124_code 135 = .ok (.aload_n 0, 1) := by decide +kernel
theorem dX12_size_136 : decode prog_13_method_124_code 136 = .ok (.getfield 409, 3) := by decide +kernel
theorem dX12_size_139 : decode prog_13_method_124_code 139 = .ok (.getfield 359, 3) := by decide +kernel
theorem dX12_size_142 : decode prog_13_method_124_code 142 = .ok (.aload_n 0, 1) := by decide +kernel
theorem dX12_size_143 : decode prog_13_method_124_code 143 = .ok (.getfield 17, 3) := by decide +kernel
theorem dX12_size_146 : decode prog_13_method_124_code 146 = .ok (.bipush 12, 2) := by decide +kernel
theorem dX12_size_148 : decode prog_13_method_124_code 148 = .ok (.iaload, 1) := by decide +kernel
theorem dX12_size_149 : decode prog_13_method_124_code 149 = .ok (.iadd, 1) := by decide +kernel
theorem dX12_size_150 : decode prog_13_method_124_code 150 = .ok (.ireturn, 1) := by decide +kernel
theorem dX12_size_151 : decode prog_13_method_124_code 151 = .ok (.aload_n 0, 1) := by decide +kernel
theorem dX12_size_152 : decode prog_13_method_124_code 152 = .ok (.getfield 409, 3) := by decide +kernel
theorem dX12_size_155 : decode prog_13_method_124_code 155 = .ok (.getfield 375, 3) := by decide +kernel
theorem dX12_size_158 : decode prog_13_method_124_code 158 = .ok (.ireturn, 1) := by decide +kernel
theorem dX12_size_159 : decode prog_13_method_124_code 159 = .ok (.aload_n 0, 1) := by decide +kernel
theorem dX12_size_160 : decode prog_13_method_124_code 160 = .ok (.getfield 409, 3) := by decide +kernel
theorem dX12_size_163 : decode prog_13_method_124_code 163 = .ok (.getfield 381, 3) := by decide +kernel
theorem dX12_size_166 : decode prog_13_method_124_code 166 = .ok (.ireturn, 1) := by decide +kernel
theorem dX12_size_167 : decode prog_13_method_124_code 167 = .ok (.aload_n 0, 1) := by decide +kernel
theorem dX12_size_168 : decode prog_13_method_124_code 168 = .ok (.getfield 409, 3) := by decide +kernel
theorem dX12_size_171 : decode prog_13_method_124_code 171 = .ok (.getfield 390, 3) := by decide +kernel
theorem dX12_size_174 : decode prog_13_method_124_code 174 = .ok (.ireturn, 1) := by decide +kernel
theorem dX12_size_175 : decode prog_13_method_124_code 175 = .ok (.aload_n 0, 1) := by decide +kernel
theorem dX12_size_176 : decode prog_13_method_124_code 176 = .ok (.getfield 17, 3) := by decide +kernel
theorem dX12_size_179 : decode prog_13_method_124_code 179 = .ok (.iconst 1, 1) := by decide +kernel
theorem dX12_size_180 : decode prog_13_method_124_code 180 = .ok (.iaload, 1) := by decide +kernel
theorem dX12_size_181 : decode prog_13_method_124_code 181 = .ok (.ireturn, 1) := by decide +kernel
theorem dX12_size_182 : decode prog_13_method_124_code 182 = .ok (.aload_n 0, 1) := by decide +kernel
theorem dX12_size_183 : decode prog_13_method_124_code 183 = .ok (.getfield 411, 3) := by decide +kernel
theorem dX12_size_186 : decode prog_13_method_124_code 186 = .ok (.ireturn, 1) := by decide +kernel
theorem dX12_size_187 : decode prog_13_method_124_code 187 = .ok (.aload_n 0, 1) := by decide +kernel
theorem dX12_size_188 : decode prog_13_method_124_code 188 = .ok (.getfield 414, 3) := by decide +kernel
theorem dX12_size_191 : decode prog_13_method_124_code 191 = .ok (.ireturn, 1) := by decide +kernel
theorem dX12_trouble_0 : decode prog_13_method_125_code 0 = .ok (.aload_n 0, 1) := by decide +kernel
theorem dX12_trouble_1 : decode prog_13_method_125_code 1 = .ok (.iconst 0, 1) := by decide +kernel
theorem dX12_trouble_2 : decode prog_13_method_125_code 2 = .ok (.putfield 85, 3) := by decide +kernel
theorem dX12_trouble_5 : decode prog_13_method_125_code 5 = .ok (.aload_n 0, 1) := by decide +kernel
theorem dX12_trouble_6 : decode prog_13_method_125_code 6 = .ok (.getfield 88, 3) := by decide +kernel
theorem dX12_trouble_9 : decode prog_13_method_125_code 9 = .ok (.ireturn, 1) := by decide +kernel
theorem dJ0_length_8abf5_0 : decode prog_22_method_54_code 0 = .ok (.aload_n 0, 1) := by decide +kernel
theorem dJ0_length_8abf5_1 : decode prog_22_method_54_code 1 = .ok (.getfield 9, 3) := by decide +kernel
theorem dJ0_length_8abf5_4 : decode prog_22_method_54_code 4 = .ok (.arraylength, 1) := by decide +kernel
theorem dJ0_length_8abf5_5 : decode prog_22_method_54_code 5 = .ok (.aload_n 0, 1) := by decide +kernel
theorem dJ0_length_8abf5_6 : decode prog_22_method_54_code 6 = .ok (.invokevirtual 335, 3) := by decide +kernel
theorem dJ0_length_8abf5_9 : decode prog_22_method_54_code 9 = .ok (.ishr, 1) := by decide +kernel
theorem dJ0_length_8abf5_10 : decode prog_22_method_54_code 10 = .ok (.ireturn, 1) := by decide +kernel
theorem dJ0_charAt_5068e_0 : decode prog_22_method_56_code 0 = .ok (.aload_n 0, 1) := by decide +kernel
theorem dJ0_charAt_5068e_1 : decode prog_22_method_56_code 1 = .ok (.invokevirtual 492, 3) := by decide +kernel
theorem dJ0_charAt_5068e_4 : decode prog_22_method_56_code 4 = .ok (.ifCond .eq 12, 3) := by decide +kernel
theorem dJ0_charAt_5068e_7 : decode prog_22_method_56_code 7 = .ok (.aload_n 0, 1) := by decide +kernel
theorem dJ0_charAt_5068e_8 : decode prog_22_method_56_code 8 = .ok (.getfield 9, 3) := by decide +kernel
theorem dJ0_charAt_5068e_11 : decode prog_22_method_56_code 11 = .ok (.iload_n 1, 1) := by decide +kernel
theorem dJ0_charAt_5068e_12 : decode prog_22_method_56_code 12 = .ok (.invokestatic 495, 3) := by decide +kernel
theorem dJ0_charAt_5068e_15 : decode prog_22_method_56_code 15 = .ok (.ireturn, 1) := by decide +kernel
theorem dJ0_charAt_5068e_16 : decode prog_22_method_56_code 16 = .ok (.aload_n 0, 1) := by decide +kernel
theorem dJ0_charAt_5068e_17 : decode prog_22_method_56_code 17 = .ok (.getfield 9, 3) := by decide +kernel
theorem dJ0_charAt_5068e_20 : decode prog_22_method_56_code 20 = .ok (.iload_n 1, 1) := by decide +kernel
theorem dJ0_charAt_5068e_21 : decode prog_22_method_56_code 21 = .ok (.invokestatic 498, 3) := by decide +kernel
theorem dJ0_charAt_5068e_24 : decode prog_22_method_56_code 24 = .ok (.ireturn, 1) := by decide +kernel
theorem dJ0_coder_7d493_0 : decode prog_22_method_152_code 0 = .ok (.getstatic 38, 3) := by decide +kernel
theorem dJ0_coder_7d493_3 : decode prog_22_method_152_code 3 = .ok (.ifCond .eq 10, 3) := by decide +kernel
theorem dJ0_coder_7d493_6 : decode prog_22_method_152_code 6 = .ok (.aload_n 0, 1) := by decide +kernel
theorem dJ0_coder_7d493_7 : decode prog_22_method_152_code 7 = .ok (.getfield 15, 3) := by decide +kernel
theorem dJ0_coder_7d493_10 : decode prog_22_method_152_code 10 = .ok (.goto 4, 3) := by decide +kernel
theorem dJ0_coder_7d493_13 : decode prog_22_method_152_code 13 = .ok (.iconst 1, 1) := by decide +kernel
theorem dJ0_coder_7d493_14 : decode prog_22_method_152_code 14 = .ok (.ireturn, 1) := by decide +kernel
theorem dJ0_isLatin1_aae02_0 : decode prog_22_method_154_code 0 = .ok (.getstatic 38, 3) := by decide +kernel
theorem dJ0_isLatin1_aae02_3 : decode prog_22_method_154_code 3 = .ok (.ifCond .eq 14, 3) := by decide +kernel
theorem dJ0_isLatin1_aae02_6 : decode prog_22_method_154_code 6 = .ok (.aload_n 0, 1) := by decide +kernel
theorem dJ0_isLatin1_aae02_7 : decode prog_22_method_154_code 7 = .ok (.getfield 15, 3) := by decide +kernel
theorem dJ0_isLatin1_aae02_10 : decode prog_22_method_154_code 10 = .ok (.ifCond .ne 7, 3) := by decide +kernel
theorem dJ0_isLatin1_aae02_13 : decode prog_22_method_154_code 13 = .ok (.iconst 1, 1) := by decide +kernel
theorem dJ0_isLatin1_aae02_14 : decode prog_22_method_154_code 14 = .ok (.goto 4, 3) := by decide +kernel
theorem dJ0_isLatin1_aae02_17 : decode prog_22_method_154_code 17 = .ok (.iconst 0, 1) := by decide +kernel
theorem dJ0_isLatin1_aae02_18 : decode prog_22_method_154_code 18 = .ok (.ireturn, 1) := by decide +kernel
theorem dJ0_checkIndex_df160_0 : decode prog_22_method_155_code 0 = .ok (.iload_n 0, 1) := by decide +kernel
theorem dJ0_checkIndex_df160_1 : decode prog_22_method_155_code 1 = .ok (.iload_n 1, 1) := by decide +kernel
theorem dJ0_checkIndex_df160_2 : decode prog_22_method_155_code 2 = .ok (.getstatic 1053, 3) := by decide +kernel
theorem dJ0_checkIndex_df160_5 : decode prog_22_method_155_code 5 = .ok (.invokestatic 1059, 3) := by decide +kernel
theorem dJ0_checkIndex_df160_8 : decode prog_22_method_155_code 8 = .ok (.pop, 1) := by decide +kernel
theorem dJ0_checkIndex_df160_9 : decode prog_22_method_155_code 9 = .ok (.return_, 1) := by decide +kernel
theorem dJ1_charAt_3b067_0 : decode prog_23_method_2_code 0 = .ok (.iload_n 1, 1) := by decide +kernel
theorem dJ1_charAt_3b067_1 : decode prog_23_method_2_code 1 = .ok (.aload_n 0, 1) := by decide +kernel
theorem dJ1_charAt_3b067_2 : decode prog_23_method_2_code 2 = .ok (.arraylength, 1) := by decide +kernel
theorem dJ1_charAt_3b067_3 : decode prog_23_method_2_code 3 = .ok (.invokestatic 9, 3) := by decide +kernel
theorem dJ1_charAt_3b067_6 : decode prog_23_method_2_code 6 = .ok (.aload_n 0, 1) := by decide +kernel
theorem dJ1_charAt_3b067_7 : decode prog_23_method_2_code 7 = .ok (.iload_n 1, 1) := by decide +kernel
theorem dJ1_charAt_3b067_8 : decode prog_23_method_2_code 8 = .ok (.baload, 1) := by decide +kernel
theorem dJ1_charAt_3b067_9 : decode prog_23_method_2_code 9 = .ok (.sipush 255, 3) := by decide +kernel
theorem dJ1_charAt_3b067_12 : decode prog_23_method_2_code 12 = .ok (.iand, 1) := by decide +kernel
theorem dJ1_charAt_3b067_13 : decode prog_23_method_2_code 13 = .ok (.i2c, 1) := by decide +kernel
theorem dJ1_charAt_3b067_14 : decode prog_23_method_2_code 14 = .ok (.ireturn, 1) := by decide +kernel
theorem dJ2_length_9d52b_0 : decode prog_24_method_6_code 0 = .ok (.aload_n 0, 1) := by decide +kernel
theorem dJ2_length_9d52b_1 : decode prog_24_method_6_code 1 = .ok (.arraylength, 1) := by decide +kernel
theorem dJ2_length_9d52b_2 : decode prog_24_method_6_code 2 = .ok (.iconst 1, 1) := by decide +kernel
theorem dJ2_length_9d52b_3 : decode prog_24_method_6_code 3 = .ok (.ishr, 1) := by decide +kernel
theorem dJ2_length_9d52b_4 : decode prog_24_method_6_code 4 = .ok (.ireturn, 1) := by decide +kernel
theorem dJ2_charAt_3b067_0 : decode prog_24_method_83_code 0 = .ok (.iload_n 1, 1) := by decide +kernel
theorem dJ2_charAt_3b067_1 : decode prog_24_method_83_code 1 = .ok (.aload_n 0, 1) := by decide +kernel
theorem dJ2_charAt_3b067_2 : decode prog_24_method_83_code 2 = .ok (.invokestatic 67, 3) := by decide +kernel
theorem dJ2_charAt_3b067_5 : decode prog_24_method_83_code 5 = .ok (.aload_n 0, 1) := by decide +kernel
theorem dJ2_charAt_3b067_6 : decode prog_24_method_83_code 6 = .ok (.iload_n 1, 1) := by decide +kernel
theorem dJ2_charAt_3b067_7 : decode prog_24_method_83_code 7 = .ok (.invokestatic 71, 3) := by decide +kernel
theorem dJ2_charAt_3b067_10 : decode prog_24_method_83_code 10 = .ok (.ireturn, 1) := by decide +kernel
theorem dJ2_checkIndex_2214a_0 : decode prog_24_method_91_code 0 = .ok (.iload_n 0, 1) := by decide +kernel
theorem dJ2_checkIndex_2214a_1 : decode prog_24_method_91_code 1 = .ok (.aload_n 1, 1) := by decide +kernel
theorem dJ2_checkIndex_2214a_2 : decode prog_24_method_91_code 2 = .ok (.invokestatic 48, 3) := by decide +kernel
theorem dJ2_checkIndex_2214a_5 : decode prog_24_method_91_code 5 = .ok (.invokestatic 414, 3) := by decide +kernel
theorem dJ2_checkIndex_2214a_8 : decode prog_24_method_91_code 8 = .ok (.return_, 1) := by decide +kernel
theorem dJ3_checkIndex_8e157_0 : decode prog_30_method_11_code 0 = .ok (.iload_n 0, 1) := by decide +kernel
theorem dJ3_checkIndex_8e157_1 : decode prog_30_method_11_code 1 = .ok (.ifCond .lt 8, 3) := by decide +kernel
theorem dJ3_checkIndex_8e157_4 : decode prog_30_method_11_code 4 = .ok (.iload_n 0, 1) := by decide +kernel
theorem dJ3_checkIndex_8e157_5 : decode prog_30_method_11_code 5 = .ok (.iload_n 1, 1) := by decide +kernel
theorem dJ3_checkIndex_8e157_6 : decode prog_30_method_11_code 6 = .ok (.if_icmp .lt 10, 3) := by decide +kernel
theorem dJ3_checkIndex_8e157_9 : decode prog_30_method_11_code 9 = .ok (.aload_n 2, 1) := by decide +kernel
theorem dJ3_checkIndex_8e157_10 : decode prog_30_method_11_code 10 = .ok (.iload_n 0, 1) := by decide +kernel
theorem dJ3_checkIndex_8e157_11 : decode prog_30_method_11_code 11 = .ok (.iload_n 1, 1) := by decide +kernel
theorem dJ3_checkIndex_8e157_12 : decode prog_30_method_11_code 12 = .ok (.invokestatic 95, 3) := by decide +kernel
theorem dJ3_checkIndex_8e157_15 : decode prog_30_method_11_code 15 = .ok (.athrow, 1) := by decide +kernel
theorem dJ3_checkIndex_8e157_16 : decode prog_30_method_11_code 16 = .ok (.iload_n 0, 1) := by decide +kernel
theorem dJ3_checkIndex_8e157_17 : decode prog_30_method_11_code 17 = .ok (.ireturn, 1) := by decide +kernel
theorem dJ6_bitCount_0f7a4_0 : decode prog_19_method_49_code 0 = .ok (.iload_n 0, 1) := by decide +kernel
theorem dJ6_bitCount_0f7a4_1 : decode prog_19_method_49_code 1 = .ok (.iload_n 0, 1) := by decide +kernel
theorem dJ6_bitCount_0f7a4_2 : decode prog_19_method_49_code 2 = .ok (.iconst 1, 1) := by decide +kernel
theorem dJ6_bitCount_0f7a4_3 : decode prog_19_method_49_code 3 = .ok (.iushr, 1) := by decide +kernel
theorem dJ6_bitCount_0f7a4_4 : decode prog_19_method_49_code 4 = .ok (.ldc_w 265, 3) := by decide +kernel
theorem dJ6_bitCount_0f7a4_7 : decode prog_19_method_49_code 7 = .ok (.iand, 1) := by decide +kernel
theorem dJ6_bitCount_0f7a4_8 : decode prog_19_method_49_code 8 = .ok (.isub, 1) := by decide +kernel
theorem dJ6_bitCount_0f7a4_9 : decode prog_19_method_49_code 9 = .ok (.istore_n 0, 1) := by decide +kernel
theorem dJ6_bitCount_0f7a4_10 : decode prog_19_method_49_code 10 = .ok (.iload_n 0, 1) := by decide +kernel
theorem dJ6_bitCount_0f7a4_11 : decode prog_19_method_49_code 11 = .ok (.ldc_w 266, 3) := by decide +kernel
theorem dJ6_bitCount_0f7a4_14 : decode prog_19_method_49_code 14 = .ok (.iand, 1) := by decide +kernel
theorem dJ6_bitCount_0f7a4_15 : decode prog_19_method_49_code 15 = .ok (.iload_n 0, 1) := by decide +kernel
theorem dJ6_bitCount_0f7a4_16 : decode prog_19_method_49_code 16 = .ok (.iconst 2, 1) := by decide +kernel
theorem dJ6_bitCount_0f7a4_17 : decode prog_19_method_49_code 17 = .ok (.iushr, 1) := by decide +kernel
theorem dJ6_bitCount_0f7a4_18 : decode prog_19_method_49_code 18 = .ok (.ldc_w 266, 3) := by decide +kernel
theorem dJ6_bitCount_0f7a4_21 : decode prog_19_method_49_code 21 = .ok (.iand, 1) := by decide +kernel
theorem dJ6_bitCount_0f7a4_22 : decode prog_19_method_49_code 22 = .ok (.iadd, 1) := by decide +kernel
theorem dJ6_bitCount_0f7a4_23 : decode prog_19_method_49_code 23 = .ok (.istore_n 0, 1) := by decide +kernel
theorem dJ6_bitCount_0f7a4_24 : decode prog_19_method_49_code 24 = .ok (.iload_n 0, 1) := by decide +kernel
theorem dJ6_bitCount_0f7a4_25 : decode prog_19_method_49_code 25 = .ok (.iload_n 0, 1) := by decide +kernel
theorem dJ6_bitCount_0f7a4_26 : decode prog_19_method_49_code 26 = .ok (.iconst 4, 1) := by decide +kernel
theorem dJ6_bitCount_0f7a4_27 : decode prog_19_method_49_code 27 = .ok (.iushr, 1) := by decide +kernel
theorem dJ6_bitCount_0f7a4_28 : decode prog_19_method_49_code 28 = .ok (.iadd, 1) := by decide +kernel
theorem dJ6_bitCount_0f7a4_29 : decode prog_19_method_49_code 29 = .ok (.ldc_w 267, 3) := by decide +kernel
theorem dJ6_bitCount_0f7a4_32 : decode prog_19_method_49_code 32 = .ok (.iand, 1) := by decide +kernel
theorem dJ6_bitCount_0f7a4_33 : decode prog_19_method_49_code 33 = .ok (.istore_n 0, 1) := by decide +kernel
theorem dJ6_bitCount_0f7a4_34 : decode prog_19_method_49_code 34 = .ok (.iload_n 0, 1) := by decide +kernel
theorem dJ6_bitCount_0f7a4_35 : decode prog_19_method_49_code 35 = .ok (.iload_n 0, 1) := by decide +kernel
theorem dJ6_bitCount_0f7a4_36 : decode prog_19_method_49_code 36 = .ok (.bipush 8, 2) := by decide +kernel
theorem dJ6_bitCount_0f7a4_38 : decode prog_19_method_49_code 38 = .ok (.iushr, 1) := by decide +kernel
theorem dJ6_bitCount_0f7a4_39 : decode prog_19_method_49_code 39 = .ok (.iadd, 1) := by decide +kernel
theorem dJ6_bitCount_0f7a4_40 : decode prog_19_method_49_code 40 = .ok (.istore_n 0, 1) := by decide +kernel
theorem dJ6_bitCount_0f7a4_41 : decode prog_19_method_49_code 41 = .ok (.iload_n 0, 1) := by decide +kernel
theorem dJ6_bitCount_0f7a4_42 : decode prog_19_method_49_code 42 = .ok (.iload_n 0, 1) := by decide +kernel
theorem dJ6_bitCount_0f7a4_43 : decode prog_19_method_49_code 43 = .ok (.bipush 16, 2) := by decide +kernel
theorem dJ6_bitCount_0f7a4_45 : decode prog_19_method_49_code 45 = .ok (.iushr, 1) := by decide +kernel
theorem dJ6_bitCount_0f7a4_46 : decode prog_19_method_49_code 46 = .ok (.iadd, 1) := by decide +kernel
theorem dJ6_bitCount_0f7a4_47 : decode prog_19_method_49_code 47 = .ok (.istore_n 0, 1) := by decide +kernel
theorem dJ6_bitCount_0f7a4_48 : decode prog_19_method_49_code 48 = .ok (.iload_n 0, 1) := by decide +kernel
theorem dJ6_bitCount_0f7a4_49 : decode prog_19_method_49_code 49 = .ok (.bipush 63, 2) := by decide +kernel
theorem dJ6_bitCount_0f7a4_51 : decode prog_19_method_49_code 51 = .ok (.iand, 1) := by decide +kernel
theorem dJ6_bitCount_0f7a4_52 : decode prog_19_method_49_code 52 = .ok (.ireturn, 1) := by decide +kernel
theorem dL_led_0 : decode method_3_code 0 = .ok (.aload_n 2, 1) := by decide +kernel
theorem dL_led_1 : decode method_3_code 1 = .ok (.iconst 0, 1) := by decide +kernel
theorem dL_led_2 : decode method_3_code 2 = .ok (.aload_n 0, 1) := by decide +kernel
theorem dL_led_3 : decode method_3_code 3 = .ok (.iload_n 1, 1) := by decide +kernel
theorem dL_led_4 : decode method_3_code 4 = .ok (.invokevirtual 7, 3) := by decide +kernel
theorem dL_led_7 : decode method_3_code 7 = .ok (.i2l, 1) := by decide +kernel
theorem dL_led_8 : decode method_3_code 8 = .ok (.lastore, 1) := by decide +kernel
theorem dL_led_9 : decode method_3_code 9 = .ok (.goto 6, 3) := by decide +kernel
theorem dL_led_12 : decode method_3_code 12 = .ok (.astore_n 3, 1) := by decide +kernel
theorem dL_led_13 : decode method_3_code 13 = .ok (.iconst 1, 1) := by decide +kernel
theorem dL_led_14 : decode method_3_code 14 = .ok (.ireturn, 1) := by decide +kernel
theorem dL_led_15 : decode method_3_code 15 = .ok (.iconst 0, 1) := by decide +kernel
theorem dL_led_16 : decode method_3_code 16 = .ok (.ireturn, 1) := by decide +kernel
theorem dL_law_0 : decode code 0 = .ok (.new 8, 3) := by decide +kernel
theorem dL_law_3 : decode code 3 = .ok (.dup, 1) := by decide +kernel
theorem dL_law_4 : decode code 4 = .ok (.invokespecial 15, 3) := by decide +kernel
theorem dL_law_7 : decode code 7 = .ok (.astore_n 1, 1) := by decide +kernel
theorem dL_law_8 : decode code 8 = .ok (.new 16, 3) := by decide +kernel
theorem dL_law_11 : decode code 11 = .ok (.dup, 1) := by decide +kernel
theorem dL_law_12 : decode code 12 = .ok (.invokespecial 18, 3) := by decide +kernel
theorem dL_law_15 : decode code 15 = .ok (.astore_n 2, 1) := by decide +kernel
theorem dL_law_16 : decode code 16 = .ok (.iconst 1, 1) := by decide +kernel
theorem dL_law_17 : decode code 17 = .ok (.newarray .long, 2) := by decide +kernel
theorem dL_law_19 : decode code 19 = .ok (.astore_n 3, 1) := by decide +kernel
theorem dL_law_20 : decode code 20 = .ok (.iconst 0, 1) := by decide +kernel
theorem dL_law_21 : decode code 21 = .ok (.istore 4, 2) := by decide +kernel
theorem dL_law_23 : decode code 23 = .ok (.iload 4, 2) := by decide +kernel
theorem dL_law_25 : decode code 25 = .ok (.aload_n 0, 1) := by decide +kernel
theorem dL_law_26 : decode code 26 = .ok (.arraylength, 1) := by decide +kernel
theorem dL_law_27 : decode code 27 = .ok (.bipush 6, 2) := by decide +kernel
theorem dL_law_29 : decode code 29 = .ok (.isub, 1) := by decide +kernel
theorem dL_law_30 : decode code 30 = .ok (.if_icmp .gt 1686, 3) := by decide +kernel
theorem dL_law_33 : decode code 33 = .ok (.aload_n 0, 1) := by decide +kernel
theorem dL_law_34 : decode code 34 = .ok (.iload 4, 2) := by decide +kernel
theorem dL_law_36 : decode code 36 = .ok (.iaload, 1) := by decide +kernel
theorem dL_law_37 : decode code 37 = .ok (.bipush 63, 2) := by decide +kernel
theorem dL_law_39 : decode code 39 = .ok (.iand, 1) := by decide +kernel
theorem dL_law_40 : decode code 40 = .ok (.tableswitch 1670 0 49 #[216, 289, 314, 327, 340, 377, 414, 439, 464, 489, 514, 539, 576, 613, 650, 687, 712, 749, 774, 787, 812, 837, 862, 887, 900, 913, 950, 975, 1012, 1037, 1062, 1099, 1136, 1173, 1186, 1199, 1224, 1249, 1274, 1328, 1377, 1438, 1475, 1500, 1525, 1538, 1551, 1576, 1632, 1657], 216) := by decide +kernel
theorem dL_law_256 : decode code 256 = .ok (.aload_n 1, 1) := by decide +kernel
theorem dL_law_257 : decode code 257 = .ok (.aload_n 0, 1) := by decide +kernel
theorem dL_law_258 : decode code 258 = .ok (.iload 4, 2) := by decide +kernel
theorem dL_law_260 : decode code 260 = .ok (.iconst 1, 1) := by decide +kernel
theorem dL_law_261 : decode code 261 = .ok (.iadd, 1) := by decide +kernel
theorem dL_law_262 : decode code 262 = .ok (.iaload, 1) := by decide +kernel
theorem dL_law_263 : decode code 263 = .ok (.aload_n 0, 1) := by decide +kernel
theorem dL_law_264 : decode code 264 = .ok (.iload 4, 2) := by decide +kernel
theorem dL_law_266 : decode code 266 = .ok (.iconst 2, 1) := by decide +kernel
theorem dL_law_267 : decode code 267 = .ok (.iadd, 1) := by decide +kernel
theorem dL_law_268 : decode code 268 = .ok (.iaload, 1) := by decide +kernel
theorem dL_law_269 : decode code 269 = .ok (.aload_n 0, 1) := by decide +kernel
theorem dL_law_270 : decode code 270 = .ok (.iload 4, 2) := by decide +kernel
theorem dL_law_272 : decode code 272 = .ok (.iconst 3, 1) := by decide +kernel
theorem dL_law_273 : decode code 273 = .ok (.iadd, 1) := by decide +kernel
theorem dL_law_274 : decode code 274 = .ok (.iaload, 1) := by decide +kernel
theorem dL_law_275 : decode code 275 = .ok (.aload_n 0, 1) := by decide +kernel
theorem dL_law_276 : decode code 276 = .ok (.iload 4, 2) := by decide +kernel
theorem dL_law_278 : decode code 278 = .ok (.iconst 4, 1) := by decide +kernel
theorem dL_law_279 : decode code 279 = .ok (.iadd, 1) := by decide +kernel
theorem dL_law_280 : decode code 280 = .ok (.iaload, 1) := by decide +kernel
theorem dL_law_281 : decode code 281 = .ok (.aload_n 0, 1) := by decide +kernel
theorem dL_law_282 : decode code 282 = .ok (.iload 4, 2) := by decide +kernel
theorem dL_law_284 : decode code 284 = .ok (.iconst 5, 1) := by decide +kernel
theorem dL_law_285 : decode code 285 = .ok (.iadd, 1) := by decide +kernel
theorem dL_law_286 : decode code 286 = .ok (.iaload, 1) := by decide +kernel
theorem dL_law_287 : decode code 287 = .ok (.invokevirtual 19, 3) := by decide +kernel
theorem dL_law_290 : decode code 290 = .ok (.aload_n 2, 1) := by decide +kernel
theorem dL_law_291 : decode code 291 = .ok (.aload_n 0, 1) := by decide +kernel
theorem dL_law_292 : decode code 292 = .ok (.iload 4, 2) := by decide +kernel
theorem dL_law_294 : decode code 294 = .ok (.iconst 1, 1) := by decide +kernel
theorem dL_law_295 : decode code 295 = .ok (.iadd, 1) := by decide +kernel
theorem dL_law_296 : decode code 296 = .ok (.iaload, 1) := by decide +kernel
theorem dL_law_297 : decode code 297 = .ok (.aload_n 0, 1) := by decide +kernel
theorem dL_law_298 : decode code 298 = .ok (.iload 4, 2) := by decide +kernel
theorem dL_law_300 : decode code 300 = .ok (.iconst 2, 1) := by decide +kernel
theorem dL_law_301 : decode code 301 = .ok (.iadd, 1) := by decide +kernel
theorem dL_law_302 : decode code 302 = .ok (.iaload, 1) := by decide +kernel
theorem dL_law_303 : decode code 303 = .ok (.aload_n 0, 1) := by decide +kernel
theorem dL_law_304 : decode code 304 = .ok (.iload 4, 2) := by decide +kernel
theorem dL_law_306 : decode code 306 = .ok (.iconst 3, 1) := by decide +kernel
theorem dL_law_307 : decode code 307 = .ok (.iadd, 1) := by decide +kernel
theorem dL_law_308 : decode code 308 = .ok (.iaload, 1) := by decide +kernel
theorem dL_law_309 : decode code 309 = .ok (.aload_n 0, 1) := by decide +kernel
theorem dL_law_310 : decode code 310 = .ok (.iload 4, 2) := by decide +kernel
theorem dL_law_312 : decode code 312 = .ok (.iconst 4, 1) := by decide +kernel
theorem dL_law_313 : decode code 313 = .ok (.iadd, 1) := by decide +kernel
theorem dL_law_314 : decode code 314 = .ok (.iaload, 1) := by decide +kernel
theorem dL_law_315 : decode code 315 = .ok (.aload_n 0, 1) := by decide +kernel
theorem dL_law_316 : decode code 316 = .ok (.iload 4, 2) := by decide +kernel
theorem dL_law_318 : decode code 318 = .ok (.iconst 5, 1) := by decide +kernel
theorem dL_law_319 : decode code 319 = .ok (.iadd, 1) := by decide +kernel
theorem dL_law_320 : decode code 320 = .ok (.iaload, 1) := by decide +kernel
theorem dL_law_321 : decode code 321 = .ok (.invokevirtual 23, 3) := by decide +kernel
theorem dL_law_324 : decode code 324 = .ok (.if_icmp .eq 1386, 3) := by decide +kernel
theorem dL_law_327 : decode code 327 = .ok (.iconst 0, 1) := by decide +kernel
theorem dL_law_328 : decode code 328 = .ok (.ireturn, 1) := by decide +kernel
theorem dL_law_329 : decode code 329 = .ok (.aload_n 1, 1) := by decide +kernel
theorem dL_law_330 : decode code 330 = .ok (.aload_n 0, 1) := by decide +kernel
theorem dL_law_331 : decode code 331 = .ok (.iload 4, 2) := by decide +kernel
theorem dL_law_333 : decode code 333 = .ok (.iconst 1, 1) := by decide +kernel
theorem dL_law_334 : decode code 334 = .ok (.iadd, 1) := by decide +kernel
theorem dL_law_335 : decode code 335 = .ok (.iaload, 1) := by decide +kernel
theorem dL_law_336 : decode code 336 = .ok (.invokevirtual 24, 3) := by decide +kernel
theorem dL_law_339 : decode code 339 = .ok (.aload_n 2, 1) := by decide +kernel
theorem dL_law_340 : decode code 340 = .ok (.aload_n 0, 1) := by decide +kernel
theorem dL_law_341 : decode code 341 = .ok (.iload 4, 2) := by decide +kernel
theorem dL_law_343 : decode code 343 = .ok (.iconst 1, 1) := by decide +kernel
theorem dL_law_344 : decode code 344 = .ok (.iadd, 1) := by decide +kernel
theorem dL_law_345 : decode code 345 = .ok (.iaload, 1) := by decide +kernel
theorem dL_law_346 : decode code 346 = .ok (.invokevirtual 27, 3) := by decide +kernel
theorem dL_law_349 : decode code 349 = .ok (.if_icmp .eq 1361, 3) := by decide +kernel
theorem dL_law_352 : decode code 352 = .ok (.iconst 0, 1) := by decide +kernel
theorem dL_law_353 : decode code 353 = .ok (.ireturn, 1) := by decide +kernel
theorem dL_law_354 : decode code 354 = .ok (.aload_n 1, 1) := by decide +kernel
theorem dL_law_355 : decode code 355 = .ok (.invokevirtual 28, 3) := by decide +kernel
theorem dL_law_358 : decode code 358 = .ok (.aload_n 2, 1) := by decide +kernel
theorem dL_law_359 : decode code 359 = .ok (.invokevirtual 32, 3) := by decide +kernel
theorem dL_law_362 : decode code 362 = .ok (.if_icmp .eq 1348, 3) := by decide +kernel
theorem dL_law_365 : decode code 365 = .ok (.iconst 0, 1) := by decide +kernel
theorem dL_law_366 : decode code 366 = .ok (.ireturn, 1) := by decide +kernel
theorem dL_law_367 : decode code 367 = .ok (.aload_n 1, 1) := by decide +kernel
theorem dL_law_368 : decode code 368 = .ok (.invokevirtual 33, 3) := by decide +kernel
theorem dL_law_371 : decode code 371 = .ok (.aload_n 2, 1) := by decide +kernel
theorem dL_law_372 : decode code 372 = .ok (.invokevirtual 36, 3) := by decide +kernel
theorem dL_law_375 : decode code 375 = .ok (.if_icmp .eq 1335, 3) := by decide +kernel
theorem dL_law_378 : decode code 378 = .ok (.iconst 0, 1) := by decide +kernel
theorem dL_law_379 : decode code 379 = .ok (.ireturn, 1) := by decide +kernel
theorem dL_law_380 : decode code 380 = .ok (.aload_n 1, 1) := by decide +kernel
theorem dL_law_381 : decode code 381 = .ok (.aload_n 0, 1) := by decide +kernel
theorem dL_law_382 : decode code 382 = .ok (.iload 4, 2) := by decide +kernel
theorem dL_law_384 : decode code 384 = .ok (.iconst 1, 1) := by decide +kernel
theorem dL_law_385 : decode code 385 = .ok (.iadd, 1) := by decide +kernel
theorem dL_law_386 : decode code 386 = .ok (.iaload, 1) := by decide +kernel
theorem dL_law_387 : decode code 387 = .ok (.aload_n 0, 1) := by decide +kernel
theorem dL_law_388 : decode code 388 = .ok (.iload 4, 2) := by decide +kernel
theorem dL_law_390 : decode code 390 = .ok (.iconst 2, 1) := by decide +kernel
theorem dL_law_391 : decode code 391 = .ok (.iadd, 1) := by decide +kernel
theorem dL_law_392 : decode code 392 = .ok (.iaload, 1) := by decide +kernel
theorem dL_law_393 : decode code 393 = .ok (.invokevirtual 37, 3) := by decide +kernel
theorem dL_law_396 : decode code 396 = .ok (.aload_n 2, 1) := by decide +kernel
theorem dL_law_397 : decode code 397 = .ok (.aload_n 0, 1) := by decide +kernel
theorem dL_law_398 : decode code 398 = .ok (.iload 4, 2) := by decide +kernel
theorem dL_law_400 : decode code 400 = .ok (.iconst 1, 1) := by decide +kernel
theorem dL_law_401 : decode code 401 = .ok (.iadd, 1) := by decide +kernel
theorem dL_law_402 : decode code 402 = .ok (.iaload, 1) := by decide +kernel
theorem dL_law_403 : decode code 403 = .ok (.aload_n 0, 1) := by decide +kernel
theorem dL_law_404 : decode code 404 = .ok (.iload 4, 2) := by decide +kernel
theorem dL_law_406 : decode code 406 = .ok (.iconst 2, 1) := by decide +kernel
theorem dL_law_407 : decode code 407 = .ok (.iadd, 1) := by decide +kernel
theorem dL_law_408 : decode code 408 = .ok (.iaload, 1) := by decide +kernel
theorem dL_law_409 : decode code 409 = .ok (.invokevirtual 41, 3) := by decide +kernel
theorem dL_law_412 : decode code 412 = .ok (.if_icmp .eq 1298, 3) := by decide +kernel
theorem dL_law_415 : decode code 415 = .ok (.iconst 0, 1) := by decide +kernel
theorem dL_law_416 : decode code 416 = .ok (.ireturn, 1) := by decide +kernel
theorem dL_law_417 : decode code 417 = .ok (.aload_n 1, 1) := by decide +kernel
theorem dL_law_418 : decode code 418 = .ok (.aload_n 0, 1) := by decide +kernel
theorem dL_law_419 : decode code 419 = .ok (.iload 4, 2) := by decide +kernel
theorem dL_law_421 : decode code 421 = .ok (.iconst 1, 1) := by decide +kernel
theorem dL_law_422 : decode code 422 = .ok (.iadd, 1) := by decide +kernel
theorem dL_law_423 : decode code 423 = .ok (.iaload, 1) := by decide +kernel
theorem dL_law_424 : decode code 424 = .ok (.aload_n 0, 1) := by decide +kernel
theorem dL_law_425 : decode code 425 = .ok (.iload 4, 2) := by decide +kernel
theorem dL_law_427 : decode code 427 = .ok (.iconst 2, 1) := by decide +kernel
theorem dL_law_428 : decode code 428 = .ok (.iadd, 1) := by decide +kernel
theorem dL_law_429 : decode code 429 = .ok (.iaload, 1) := by decide +kernel
theorem dL_law_430 : decode code 430 = .ok (.invokevirtual 42, 3) := by decide +kernel
theorem dL_law_433 : decode code 433 = .ok (.aload_n 2, 1) := by decide +kernel
theorem dL_law_434 : decode code 434 = .ok (.aload_n 0, 1) := by decide +kernel
theorem dL_law_435 : decode code 435 = .ok (.iload 4, 2) := by decide +kernel
theorem dL_law_437 : decode code 437 = .ok (.iconst 1, 1) := by decide +kernel
theorem dL_law_438 : decode code 438 = .ok (.iadd, 1) := by decide +kernel
theorem dL_law_439 : decode code 439 = .ok (.iaload, 1) := by decide +kernel
theorem dL_law_440 : decode code 440 = .ok (.aload_n 0, 1) := by decide +kernel
theorem dL_law_441 : decode code 441 = .ok (.iload 4, 2) := by decide +kernel
theorem dL_law_443 : decode code 443 = .ok (.iconst 2, 1) := by decide +kernel
theorem dL_law_444 : decode code 444 = .ok (.iadd, 1) := by decide +kernel
theorem dL_law_445 : decode code 445 = .ok (.iaload, 1) := by decide +kernel
theorem dL_law_446 : decode code 446 = .ok (.invokevirtual 45, 3) := by decide +kernel
theorem dL_law_449 : decode code 449 = .ok (.if_icmp .eq 1261, 3) := by decide +kernel
theorem dL_law_452 : decode code 452 = .ok (.iconst 0, 1) := by decide +kernel
theorem dL_law_453 : decode code 453 = .ok (.ireturn, 1) := by decide +kernel
theorem dL_law_454 : decode code 454 = .ok (.aload_n 1, 1) := by decide +kernel
theorem dL_law_455 : decode code 455 = .ok (.aload_n 0, 1) := by decide +kernel
theorem dL_law_456 : decode code 456 = .ok (.iload 4, 2) := by decide +kernel
theorem dL_law_458 : decode code 458 = .ok (.iconst 1, 1) := by decide +kernel
theorem dL_law_459 : decode code 459 = .ok (.iadd, 1) := by decide +kernel
theorem dL_law_460 : decode code 460 = .ok (.iaload, 1) := by decide +kernel
theorem dL_law_461 : decode code 461 = .ok (.invokevirtual 46, 3) := by decide +kernel
theorem dL_law_464 : decode code 464 = .ok (.aload_n 2, 1) := by decide +kernel
theorem dL_law_465 : decode code 465 = .ok (.aload_n 0, 1) := by decide +kernel
theorem dL_law_466 : decode code 466 = .ok (.iload 4, 2) := by decide +kernel
theorem dL_law_468 : decode code 468 = .ok (.iconst 1, 1) := by decide +kernel
theorem dL_law_469 : decode code 469 = .ok (.iadd, 1) := by decide +kernel
theorem dL_law_470 : decode code 470 = .ok (.iaload, 1) := by decide +kernel
theorem dL_law_471 : decode code 471 = .ok (.invokevirtual 49, 3) := by decide +kernel
theorem dL_law_474 : decode code 474 = .ok (.if_icmp .eq 1236, 3) := by decide +kernel
theorem dL_law_477 : decode code 477 = .ok (.iconst 0, 1) := by decide +kernel
theorem dL_law_478 : decode code 478 = .ok (.ireturn, 1) := by decide +kernel
theorem dL_law_479 : decode code 479 = .ok (.aload_n 1, 1) := by decide +kernel
theorem dL_law_480 : decode code 480 = .ok (.aload_n 0, 1) := by decide +kernel
theorem dL_law_481 : decode code 481 = .ok (.iload 4, 2) := by decide +kernel
theorem dL_law_483 : decode code 483 = .ok (.iconst 1, 1) := by decide +kernel
theorem dL_law_484 : decode code 484 = .ok (.iadd, 1) := by decide +kernel
theorem dL_law_485 : decode code 485 = .ok (.iaload, 1) := by decide +kernel
theorem dL_law_486 : decode code 486 = .ok (.invokevirtual 50, 3) := by decide +kernel
theorem dL_law_489 : decode code 489 = .ok (.aload_n 2, 1) := by decide +kernel
theorem dL_law_490 : decode code 490 = .ok (.aload_n 0, 1) := by decide +kernel
theorem dL_law_491 : decode code 491 = .ok (.iload 4, 2) := by decide +kernel
theorem dL_law_493 : decode code 493 = .ok (.iconst 1, 1) := by decide +kernel
theorem dL_law_494 : decode code 494 = .ok (.iadd, 1) := by decide +kernel
theorem dL_law_495 : decode code 495 = .ok (.iaload, 1) := by decide +kernel
theorem dL_law_496 : decode code 496 = .ok (.invokevirtual 53, 3) := by decide +kernel
theorem dL_law_499 : decode code 499 = .ok (.if_icmp .eq 1211, 3) := by decide +kernel
theorem dL_law_502 : decode code 502 = .ok (.iconst 0, 1) := by decide +kernel
theorem dL_law_503 : decode code 503 = .ok (.ireturn, 1) := by decide +kernel
theorem dL_law_504 : decode code 504 = .ok (.aload_n 1, 1) := by decide +kernel
theorem dL_law_505 : decode code 505 = .ok (.aload_n 0, 1) := by decide +kernel
theorem dL_law_506 : decode code 506 = .ok (.iload 4, 2) := by decide +kernel
theorem dL_law_508 : decode code 508 = .ok (.iconst 1, 1) := by decide +kernel
theorem dL_law_509 : decode code 509 = .ok (.iadd, 1) := by decide +kernel
theorem dL_law_510 : decode code 510 = .ok (.iaload, 1) := by decide +kernel
theorem dL_law_511 : decode code 511 = .ok (.invokevirtual 54, 3) := by decide +kernel
theorem dL_law_514 : decode code 514 = .ok (.aload_n 2, 1) := by decide +kernel
theorem dL_law_515 : decode code 515 = .ok (.aload_n 0, 1) := by decide +kernel
theorem dL_law_516 : decode code 516 = .ok (.iload 4, 2) := by decide +kernel
theorem dL_law_518 : decode code 518 = .ok (.iconst 1, 1) := by decide +kernel
theorem dL_law_519 : decode code 519 = .ok (.iadd, 1) := by decide +kernel
theorem dL_law_520 : decode code 520 = .ok (.iaload, 1) := by decide +kernel
theorem dL_law_521 : decode code 521 = .ok (.invokevirtual 57, 3) := by decide +kernel
theorem dL_law_524 : decode code 524 = .ok (.if_icmp .eq 1186, 3) := by decide +kernel
theorem dL_law_527 : decode code 527 = .ok (.iconst 0, 1) := by decide +kernel
theorem dL_law_528 : decode code 528 = .ok (.ireturn, 1) := by decide +kernel
theorem dL_law_529 : decode code 529 = .ok (.aload_n 1, 1) := by decide +kernel
theorem dL_law_530 : decode code 530 = .ok (.aload_n 0, 1) := by decide +kernel
theorem dL_law_531 : decode code 531 = .ok (.iload 4, 2) := by decide +kernel
theorem dL_law_533 : decode code 533 = .ok (.iconst 1, 1) := by decide +kernel
theorem dL_law_534 : decode code 534 = .ok (.iadd, 1) := by decide +kernel
theorem dL_law_535 : decode code 535 = .ok (.iaload, 1) := by decide +kernel
theorem dL_law_536 : decode code 536 = .ok (.invokevirtual 58, 3) := by decide +kernel
theorem dL_law_539 : decode code 539 = .ok (.aload_n 2, 1) := by decide +kernel
theorem dL_law_540 : decode code 540 = .ok (.aload_n 0, 1) := by decide +kernel
theorem dL_law_541 : decode code 541 = .ok (.iload 4, 2) := by decide +kernel
theorem dL_law_543 : decode code 543 = .ok (.iconst 1, 1) := by decide +kernel
theorem dL_law_544 : decode code 544 = .ok (.iadd, 1) := by decide +kernel
theorem dL_law_545 : decode code 545 = .ok (.iaload, 1) := by decide +kernel
theorem dL_law_546 : decode code 546 = .ok (.invokevirtual 61, 3) := by decide +kernel
theorem dL_law_549 : decode code 549 = .ok (.if_icmp .eq 1161, 3) := by decide +kernel
theorem dL_law_552 : decode code 552 = .ok (.iconst 0, 1) := by decide +kernel
theorem dL_law_553 : decode code 553 = .ok (.ireturn, 1) := by decide +kernel
theorem dL_law_554 : decode code 554 = .ok (.aload_n 1, 1) := by decide +kernel
theorem dL_law_555 : decode code 555 = .ok (.aload_n 0, 1) := by decide +kernel
theorem dL_law_556 : decode code 556 = .ok (.iload 4, 2) := by decide +kernel
theorem dL_law_558 : decode code 558 = .ok (.iconst 1, 1) := by decide +kernel
theorem dL_law_559 : decode code 559 = .ok (.iadd, 1) := by decide +kernel
theorem dL_law_560 : decode code 560 = .ok (.iaload, 1) := by decide +kernel
theorem dL_law_561 : decode code 561 = .ok (.invokevirtual 62, 3) := by decide +kernel
theorem dL_law_564 : decode code 564 = .ok (.aload_n 2, 1) := by decide +kernel
theorem dL_law_565 : decode code 565 = .ok (.aload_n 0, 1) := by decide +kernel
theorem dL_law_566 : decode code 566 = .ok (.iload 4, 2) := by decide +kernel
theorem dL_law_568 : decode code 568 = .ok (.iconst 1, 1) := by decide +kernel
theorem dL_law_569 : decode code 569 = .ok (.iadd, 1) := by decide +kernel
theorem dL_law_570 : decode code 570 = .ok (.iaload, 1) := by decide +kernel
theorem dL_law_571 : decode code 571 = .ok (.invokevirtual 65, 3) := by decide +kernel
theorem dL_law_574 : decode code 574 = .ok (.if_icmp .eq 1136, 3) := by decide +kernel
theorem dL_law_577 : decode code 577 = .ok (.iconst 0, 1) := by decide +kernel
theorem dL_law_578 : decode code 578 = .ok (.ireturn, 1) := by decide +kernel
theorem dL_law_579 : decode code 579 = .ok (.aload_n 1, 1) := by decide +kernel
theorem dL_law_580 : decode code 580 = .ok (.aload_n 0, 1) := by decide +kernel
theorem dL_law_581 : decode code 581 = .ok (.iload 4, 2) := by decide +kernel
theorem dL_law_583 : decode code 583 = .ok (.iconst 1, 1) := by decide +kernel
theorem dL_law_584 : decode code 584 = .ok (.iadd, 1) := by decide +kernel
theorem dL_law_585 : decode code 585 = .ok (.iaload, 1) := by decide +kernel
theorem dL_law_586 : decode code 586 = .ok (.aload_n 0, 1) := by decide +kernel
theorem dL_law_587 : decode code 587 = .ok (.iload 4, 2) := by decide +kernel
theorem dL_law_589 : decode code 589 = .ok (.iconst 2, 1) := by decide +kernel
theorem dL_law_590 : decode code 590 = .ok (.iadd, 1) := by decide +kernel
theorem dL_law_591 : decode code 591 = .ok (.iaload, 1) := by decide +kernel
theorem dL_law_592 : decode code 592 = .ok (.invokevirtual 66, 3) := by decide +kernel
theorem dL_law_595 : decode code 595 = .ok (.aload_n 2, 1) := by decide +kernel
theorem dL_law_596 : decode code 596 = .ok (.aload_n 0, 1) := by decide +kernel
theorem dL_law_597 : decode code 597 = .ok (.iload 4, 2) := by decide +kernel
theorem dL_law_599 : decode code 599 = .ok (.iconst 1, 1) := by decide +kernel
theorem dL_law_600 : decode code 600 = .ok (.iadd, 1) := by decide +kernel
theorem dL_law_601 : decode code 601 = .ok (.iaload, 1) := by decide +kernel
theorem dL_law_602 : decode code 602 = .ok (.aload_n 0, 1) := by decide +kernel
theorem dL_law_603 : decode code 603 = .ok (.iload 4, 2) := by decide +kernel
theorem dL_law_605 : decode code 605 = .ok (.iconst 2, 1) := by decide +kernel
theorem dL_law_606 : decode code 606 = .ok (.iadd, 1) := by decide +kernel
theorem dL_law_607 : decode code 607 = .ok (.iaload, 1) := by decide +kernel
theorem dL_law_608 : decode code 608 = .ok (.invokevirtual 69, 3) := by decide +kernel
theorem dL_law_611 : decode code 611 = .ok (.if_icmp .eq 1099, 3) := by decide +kernel
theorem dL_law_614 : decode code 614 = .ok (.iconst 0, 1) := by decide +kernel
theorem dL_law_615 : decode code 615 = .ok (.ireturn, 1) := by decide +kernel
theorem dL_law_616 : decode code 616 = .ok (.aload_n 1, 1) := by decide +kernel
theorem dL_law_617 : decode code 617 = .ok (.aload_n 0, 1) := by decide +kernel
theorem dL_law_618 : decode code 618 = .ok (.iload 4, 2) := by decide +kernel
theorem dL_law_620 : decode code 620 = .ok (.iconst 1, 1) := by decide +kernel
theorem dL_law_621 : decode code 621 = .ok (.iadd, 1) := by decide +kernel
theorem dL_law_622 : decode code 622 = .ok (.iaload, 1) := by decide +kernel
theorem dL_law_623 : decode code 623 = .ok (.aload_n 0, 1) := by decide +kernel
theorem dL_law_624 : decode code 624 = .ok (.iload 4, 2) := by decide +kernel
theorem dL_law_626 : decode code 626 = .ok (.iconst 2, 1) := by decide +kernel
theorem dL_law_627 : decode code 627 = .ok (.iadd, 1) := by decide +kernel
theorem dL_law_628 : decode code 628 = .ok (.iaload, 1) := by decide +kernel
theorem dL_law_629 : decode code 629 = .ok (.invokevirtual 70, 3) := by decide +kernel
theorem dL_law_632 : decode code 632 = .ok (.aload_n 2, 1) := by decide +kernel
theorem dL_law_633 : decode code 633 = .ok (.aload_n 0, 1) := by decide +kernel
theorem dL_law_634 : decode code 634 = .ok (.iload 4, 2) := by decide +kernel
theorem dL_law_636 : decode code 636 = .ok (.iconst 1, 1) := by decide +kernel
theorem dL_law_637 : decode code 637 = .ok (.iadd, 1) := by decide +kernel
theorem dL_law_638 : decode code 638 = .ok (.iaload, 1) := by decide +kernel
theorem dL_law_639 : decode code 639 = .ok (.aload_n 0, 1) := by decide +kernel
theorem dL_law_640 : decode code 640 = .ok (.iload 4, 2) := by decide +kernel
theorem dL_law_642 : decode code 642 = .ok (.iconst 2, 1) := by decide +kernel
theorem dL_law_643 : decode code 643 = .ok (.iadd, 1) := by decide +kernel
theorem dL_law_644 : decode code 644 = .ok (.iaload, 1) := by decide +kernel
theorem dL_law_645 : decode code 645 = .ok (.invokevirtual 73, 3) := by decide +kernel
theorem dL_law_648 : decode code 648 = .ok (.if_icmp .eq 1062, 3) := by decide +kernel
theorem dL_law_651 : decode code 651 = .ok (.iconst 0, 1) := by decide +kernel
theorem dL_law_652 : decode code 652 = .ok (.ireturn, 1) := by decide +kernel
theorem dL_law_653 : decode code 653 = .ok (.aload_n 1, 1) := by decide +kernel
theorem dL_law_654 : decode code 654 = .ok (.aload_n 0, 1) := by decide +kernel
theorem dL_law_655 : decode code 655 = .ok (.iload 4, 2) := by decide +kernel
theorem dL_law_657 : decode code 657 = .ok (.iconst 1, 1) := by decide +kernel
theorem dL_law_658 : decode code 658 = .ok (.iadd, 1) := by decide +kernel
theorem dL_law_659 : decode code 659 = .ok (.iaload, 1) := by decide +kernel
theorem dL_law_660 : decode code 660 = .ok (.aload_n 0, 1) := by decide +kernel
theorem dL_law_661 : decode code 661 = .ok (.iload 4, 2) := by decide +kernel
theorem dL_law_663 : decode code 663 = .ok (.iconst 2, 1) := by decide +kernel
theorem dL_law_664 : decode code 664 = .ok (.iadd, 1) := by decide +kernel
theorem dL_law_665 : decode code 665 = .ok (.iaload, 1) := by decide +kernel
theorem dL_law_666 : decode code 666 = .ok (.invokevirtual 74, 3) := by decide +kernel
theorem dL_law_669 : decode code 669 = .ok (.aload_n 2, 1) := by decide +kernel
theorem dL_law_670 : decode code 670 = .ok (.aload_n 0, 1) := by decide +kernel
theorem dL_law_671 : decode code 671 = .ok (.iload 4, 2) := by decide +kernel
theorem dL_law_673 : decode code 673 = .ok (.iconst 1, 1) := by decide +kernel
theorem dL_law_674 : decode code 674 = .ok (.iadd, 1) := by decide +kernel
theorem dL_law_675 : decode code 675 = .ok (.iaload, 1) := by decide +kernel
theorem dL_law_676 : decode code 676 = .ok (.aload_n 0, 1) := by decide +kernel
theorem dL_law_677 : decode code 677 = .ok (.iload 4, 2) := by decide +kernel
theorem dL_law_679 : decode code 679 = .ok (.iconst 2, 1) := by decide +kernel
theorem dL_law_680 : decode code 680 = .ok (.iadd, 1) := by decide +kernel
theorem dL_law_681 : decode code 681 = .ok (.iaload, 1) := by decide +kernel
theorem dL_law_682 : decode code 682 = .ok (.invokevirtual 77, 3) := by decide +kernel
theorem dL_law_685 : decode code 685 = .ok (.if_icmp .eq 1025, 3) := by decide +kernel
theorem dL_law_688 : decode code 688 = .ok (.iconst 0, 1) := by decide +kernel
theorem dL_law_689 : decode code 689 = .ok (.ireturn, 1) := by decide +kernel
theorem dL_law_690 : decode code 690 = .ok (.aload_n 1, 1) := by decide +kernel
theorem dL_law_691 : decode code 691 = .ok (.aload_n 0, 1) := by decide +kernel
theorem dL_law_692 : decode code 692 = .ok (.iload 4, 2) := by decide +kernel
theorem dL_law_694 : decode code 694 = .ok (.iconst 1, 1) := by decide +kernel
theorem dL_law_695 : decode code 695 = .ok (.iadd, 1) := by decide +kernel
theorem dL_law_696 : decode code 696 = .ok (.iaload, 1) := by decide +kernel
theorem dL_law_697 : decode code 697 = .ok (.aload_n 0, 1) := by decide +kernel
theorem dL_law_698 : decode code 698 = .ok (.iload 4, 2) := by decide +kernel
theorem dL_law_700 : decode code 700 = .ok (.iconst 2, 1) := by decide +kernel
theorem dL_law_701 : decode code 701 = .ok (.iadd, 1) := by decide +kernel
theorem dL_law_702 : decode code 702 = .ok (.iaload, 1) := by decide +kernel
theorem dL_law_703 : decode code 703 = .ok (.invokevirtual 78, 3) := by decide +kernel
theorem dL_law_706 : decode code 706 = .ok (.aload_n 2, 1) := by decide +kernel
theorem dL_law_707 : decode code 707 = .ok (.aload_n 0, 1) := by decide +kernel
theorem dL_law_708 : decode code 708 = .ok (.iload 4, 2) := by decide +kernel
theorem dL_law_710 : decode code 710 = .ok (.iconst 1, 1) := by decide +kernel
theorem dL_law_711 : decode code 711 = .ok (.iadd, 1) := by decide +kernel
theorem dL_law_712 : decode code 712 = .ok (.iaload, 1) := by decide +kernel
theorem dL_law_713 : decode code 713 = .ok (.aload_n 0, 1) := by decide +kernel
theorem dL_law_714 : decode code 714 = .ok (.iload 4, 2) := by decide +kernel
theorem dL_law_716 : decode code 716 = .ok (.iconst 2, 1) := by decide +kernel
theorem dL_law_717 : decode code 717 = .ok (.iadd, 1) := by decide +kernel
theorem dL_law_718 : decode code 718 = .ok (.iaload, 1) := by decide +kernel
theorem dL_law_719 : decode code 719 = .ok (.invokevirtual 81, 3) := by decide +kernel
theorem dL_law_722 : decode code 722 = .ok (.if_icmp .eq 988, 3) := by decide +kernel
theorem dL_law_725 : decode code 725 = .ok (.iconst 0, 1) := by decide +kernel
theorem dL_law_726 : decode code 726 = .ok (.ireturn, 1) := by decide +kernel
theorem dL_law_727 : decode code 727 = .ok (.aload_n 1, 1) := by decide +kernel
theorem dL_law_728 : decode code 728 = .ok (.aload_n 0, 1) := by decide +kernel
theorem dL_law_729 : decode code 729 = .ok (.iload 4, 2) := by decide +kernel
theorem dL_law_731 : decode code 731 = .ok (.iconst 1, 1) := by decide +kernel
theorem dL_law_732 : decode code 732 = .ok (.iadd, 1) := by decide +kernel
theorem dL_law_733 : decode code 733 = .ok (.iaload, 1) := by decide +kernel
theorem dL_law_734 : decode code 734 = .ok (.invokevirtual 82, 3) := by decide +kernel
theorem dL_law_737 : decode code 737 = .ok (.aload_n 2, 1) := by decide +kernel
theorem dL_law_738 : decode code 738 = .ok (.aload_n 0, 1) := by decide +kernel
theorem dL_law_739 : decode code 739 = .ok (.iload 4, 2) := by decide +kernel
theorem dL_law_741 : decode code 741 = .ok (.iconst 1, 1) := by decide +kernel
theorem dL_law_742 : decode code 742 = .ok (.iadd, 1) := by decide +kernel
theorem dL_law_743 : decode code 743 = .ok (.iaload, 1) := by decide +kernel
theorem dL_law_744 : decode code 744 = .ok (.invokevirtual 85, 3) := by decide +kernel
theorem dL_law_747 : decode code 747 = .ok (.if_icmp .eq 963, 3) := by decide +kernel
theorem dL_law_750 : decode code 750 = .ok (.iconst 0, 1) := by decide +kernel
theorem dL_law_751 : decode code 751 = .ok (.ireturn, 1) := by decide +kernel
theorem dL_law_752 : decode code 752 = .ok (.aload_n 1, 1) := by decide +kernel
theorem dL_law_753 : decode code 753 = .ok (.aload_n 0, 1) := by decide +kernel
theorem dL_law_754 : decode code 754 = .ok (.iload 4, 2) := by decide +kernel
theorem dL_law_756 : decode code 756 = .ok (.iconst 1, 1) := by decide +kernel
theorem dL_law_757 : decode code 757 = .ok (.iadd, 1) := by decide +kernel
theorem dL_law_758 : decode code 758 = .ok (.iaload, 1) := by decide +kernel
theorem dL_law_759 : decode code 759 = .ok (.aload_n 0, 1) := by decide +kernel
theorem dL_law_760 : decode code 760 = .ok (.iload 4, 2) := by decide +kernel
theorem dL_law_762 : decode code 762 = .ok (.iconst 2, 1) := by decide +kernel
theorem dL_law_763 : decode code 763 = .ok (.iadd, 1) := by decide +kernel
theorem dL_law_764 : decode code 764 = .ok (.iaload, 1) := by decide +kernel
theorem dL_law_765 : decode code 765 = .ok (.invokevirtual 86, 3) := by decide +kernel
theorem dL_law_768 : decode code 768 = .ok (.aload_n 2, 1) := by decide +kernel
theorem dL_law_769 : decode code 769 = .ok (.aload_n 0, 1) := by decide +kernel
theorem dL_law_770 : decode code 770 = .ok (.iload 4, 2) := by decide +kernel
theorem dL_law_772 : decode code 772 = .ok (.iconst 1, 1) := by decide +kernel
theorem dL_law_773 : decode code 773 = .ok (.iadd, 1) := by decide +kernel
theorem dL_law_774 : decode code 774 = .ok (.iaload, 1) := by decide +kernel
theorem dL_law_775 : decode code 775 = .ok (.aload_n 0, 1) := by decide +kernel
theorem dL_law_776 : decode code 776 = .ok (.iload 4, 2) := by decide +kernel
theorem dL_law_778 : decode code 778 = .ok (.iconst 2, 1) := by decide +kernel
theorem dL_law_779 : decode code 779 = .ok (.iadd, 1) := by decide +kernel
theorem dL_law_780 : decode code 780 = .ok (.iaload, 1) := by decide +kernel
theorem dL_law_781 : decode code 781 = .ok (.invokevirtual 89, 3) := by decide +kernel
theorem dL_law_784 : decode code 784 = .ok (.if_icmp .eq 926, 3) := by decide +kernel
theorem dL_law_787 : decode code 787 = .ok (.iconst 0, 1) := by decide +kernel
theorem dL_law_788 : decode code 788 = .ok (.ireturn, 1) := by decide +kernel
theorem dL_law_789 : decode code 789 = .ok (.aload_n 1, 1) := by decide +kernel
theorem dL_law_790 : decode code 790 = .ok (.aload_n 0, 1) := by decide +kernel
theorem dL_law_791 : decode code 791 = .ok (.iload 4, 2) := by decide +kernel
theorem dL_law_793 : decode code 793 = .ok (.iconst 1, 1) := by decide +kernel
theorem dL_law_794 : decode code 794 = .ok (.iadd, 1) := by decide +kernel
theorem dL_law_795 : decode code 795 = .ok (.iaload, 1) := by decide +kernel
theorem dL_law_796 : decode code 796 = .ok (.invokevirtual 90, 3) := by decide +kernel
theorem dL_law_799 : decode code 799 = .ok (.aload_n 2, 1) := by decide +kernel
theorem dL_law_800 : decode code 800 = .ok (.aload_n 0, 1) := by decide +kernel
theorem dL_law_801 : decode code 801 = .ok (.iload 4, 2) := by decide +kernel
theorem dL_law_803 : decode code 803 = .ok (.iconst 1, 1) := by decide +kernel
theorem dL_law_804 : decode code 804 = .ok (.iadd, 1) := by decide +kernel
theorem dL_law_805 : decode code 805 = .ok (.iaload, 1) := by decide +kernel
theorem dL_law_806 : decode code 806 = .ok (.invokevirtual 93, 3) := by decide +kernel
theorem dL_law_809 : decode code 809 = .ok (.if_icmp .eq 901, 3) := by decide +kernel
theorem dL_law_812 : decode code 812 = .ok (.iconst 0, 1) := by decide +kernel
theorem dL_law_813 : decode code 813 = .ok (.ireturn, 1) := by decide +kernel
theorem dL_law_814 : decode code 814 = .ok (.aload_n 1, 1) := by decide +kernel
theorem dL_law_815 : decode code 815 = .ok (.invokevirtual 94, 3) := by decide +kernel
theorem dL_law_818 : decode code 818 = .ok (.aload_n 2, 1) := by decide +kernel
theorem dL_law_819 : decode code 819 = .ok (.invokevirtual 97, 3) := by decide +kernel
theorem dL_law_822 : decode code 822 = .ok (.if_icmp .eq 888, 3) := by decide +kernel
theorem dL_law_825 : decode code 825 = .ok (.iconst 0, 1) := by decide +kernel
theorem dL_law_826 : decode code 826 = .ok (.ireturn, 1) := by decide +kernel
theorem dL_law_827 : decode code 827 = .ok (.aload_n 1, 1) := by decide +kernel
theorem dL_law_828 : decode code 828 = .ok (.aload_n 0, 1) := by decide +kernel
theorem dL_law_829 : decode code 829 = .ok (.iload 4, 2) := by decide +kernel
theorem dL_law_831 : decode code 831 = .ok (.iconst 1, 1) := by decide +kernel
theorem dL_law_832 : decode code 832 = .ok (.iadd, 1) := by decide +kernel
theorem dL_law_833 : decode code 833 = .ok (.iaload, 1) := by decide +kernel
theorem dL_law_834 : decode code 834 = .ok (.invokevirtual 98, 3) := by decide +kernel
theorem dL_law_837 : decode code 837 = .ok (.aload_n 2, 1) := by decide +kernel
theorem dL_law_838 : decode code 838 = .ok (.aload_n 0, 1) := by decide +kernel
theorem dL_law_839 : decode code 839 = .ok (.iload 4, 2) := by decide +kernel
theorem dL_law_841 : decode code 841 = .ok (.iconst 1, 1) := by decide +kernel
theorem dL_law_842 : decode code 842 = .ok (.iadd, 1) := by decide +kernel
theorem dL_law_843 : decode code 843 = .ok (.iaload, 1) := by decide +kernel
theorem dL_law_844 : decode code 844 = .ok (.invokevirtual 101, 3) := by decide +kernel
theorem dL_law_847 : decode code 847 = .ok (.if_icmp .eq 863, 3) := by decide +kernel
theorem dL_law_850 : decode code 850 = .ok (.iconst 0, 1) := by decide +kernel
theorem dL_law_851 : decode code 851 = .ok (.ireturn, 1) := by decide +kernel
theorem dL_law_852 : decode code 852 = .ok (.aload_n 1, 1) := by decide +kernel
theorem dL_law_853 : decode code 853 = .ok (.aload_n 0, 1) := by decide +kernel
theorem dL_law_854 : decode code 854 = .ok (.iload 4, 2) := by decide +kernel
theorem dL_law_856 : decode code 856 = .ok (.iconst 1, 1) := by decide +kernel
theorem dL_law_857 : decode code 857 = .ok (.iadd, 1) := by decide +kernel
theorem dL_law_858 : decode code 858 = .ok (.iaload, 1) := by decide +kernel
theorem dL_law_859 : decode code 859 = .ok (.invokevirtual 102, 3) := by decide +kernel
theorem dL_law_862 : decode code 862 = .ok (.aload_n 2, 1) := by decide +kernel
theorem dL_law_863 : decode code 863 = .ok (.aload_n 0, 1) := by decide +kernel
theorem dL_law_864 : decode code 864 = .ok (.iload 4, 2) := by decide +kernel
theorem dL_law_866 : decode code 866 = .ok (.iconst 1, 1) := by decide +kernel
theorem dL_law_867 : decode code 867 = .ok (.iadd, 1) := by decide +kernel
theorem dL_law_868 : decode code 868 = .ok (.iaload, 1) := by decide +kernel
theorem dL_law_869 : decode code 869 = .ok (.invokevirtual 105, 3) := by decide +kernel
theorem dL_law_872 : decode code 872 = .ok (.if_icmp .eq 838, 3) := by decide +kernel
theorem dL_law_875 : decode code 875 = .ok (.iconst 0, 1) := by decide +kernel
theorem dL_law_876 : decode code 876 = .ok (.ireturn, 1) := by decide +kernel
theorem dL_law_877 : decode code 877 = .ok (.aload_n 1, 1) := by decide +kernel
theorem dL_law_878 : decode code 878 = .ok (.aload_n 0, 1) := by decide +kernel
theorem dL_law_879 : decode code 879 = .ok (.iload 4, 2) := by decide +kernel
theorem dL_law_881 : decode code 881 = .ok (.iconst 1, 1) := by decide +kernel
theorem dL_law_882 : decode code 882 = .ok (.iadd, 1) := by decide +kernel
theorem dL_law_883 : decode code 883 = .ok (.iaload, 1) := by decide +kernel
theorem dL_law_884 : decode code 884 = .ok (.invokevirtual 106, 3) := by decide +kernel
theorem dL_law_887 : decode code 887 = .ok (.aload_n 2, 1) := by decide +kernel
theorem dL_law_888 : decode code 888 = .ok (.aload_n 0, 1) := by decide +kernel
theorem dL_law_889 : decode code 889 = .ok (.iload 4, 2) := by decide +kernel
theorem dL_law_891 : decode code 891 = .ok (.iconst 1, 1) := by decide +kernel
theorem dL_law_892 : decode code 892 = .ok (.iadd, 1) := by decide +kernel
theorem dL_law_893 : decode code 893 = .ok (.iaload, 1) := by decide +kernel
theorem dL_law_894 : decode code 894 = .ok (.invokevirtual 109, 3) := by decide +kernel
theorem dL_law_897 : decode code 897 = .ok (.if_icmp .eq 813, 3) := by decide +kernel
theorem dL_law_900 : decode code 900 = .ok (.iconst 0, 1) := by decide +kernel
theorem dL_law_901 : decode code 901 = .ok (.ireturn, 1) := by decide +kernel
theorem dL_law_902 : decode code 902 = .ok (.aload_n 1, 1) := by decide +kernel
theorem dL_law_903 : decode code 903 = .ok (.aload_n 0, 1) := by decide +kernel
theorem dL_law_904 : decode code 904 = .ok (.iload 4, 2) := by decide +kernel
theorem dL_law_906 : decode code 906 = .ok (.iconst 1, 1) := by decide +kernel
theorem dL_law_907 : decode code 907 = .ok (.iadd, 1) := by decide +kernel
theorem dL_law_908 : decode code 908 = .ok (.iaload, 1) := by decide +kernel
theorem dL_law_909 : decode code 909 = .ok (.invokevirtual 110, 3) := by decide +kernel
theorem dL_law_912 : decode code 912 = .ok (.aload_n 2, 1) := by decide +kernel
theorem dL_law_913 : decode code 913 = .ok (.aload_n 0, 1) := by decide +kernel
theorem dL_law_914 : decode code 914 = .ok (.iload 4, 2) := by decide +kernel
theorem dL_law_916 : decode code 916 = .ok (.iconst 1, 1) := by decide +kernel
theorem dL_law_917 : decode code 917 = .ok (.iadd, 1) := by decide +kernel
theorem dL_law_918 : decode code 918 = .ok (.iaload, 1) := by decide +kernel
theorem dL_law_919 : decode code 919 = .ok (.invokevirtual 113, 3) := by decide +kernel
theorem dL_law_922 : decode code 922 = .ok (.if_icmp .eq 788, 3) := by decide +kernel
theorem dL_law_925 : decode code 925 = .ok (.iconst 0, 1) := by decide +kernel
theorem dL_law_926 : decode code 926 = .ok (.ireturn, 1) := by decide +kernel
theorem dL_law_927 : decode code 927 = .ok (.aload_n 1, 1) := by decide +kernel
theorem dL_law_928 : decode code 928 = .ok (.invokevirtual 114, 3) := by decide +kernel
theorem dL_law_931 : decode code 931 = .ok (.aload_n 2, 1) := by decide +kernel
theorem dL_law_932 : decode code 932 = .ok (.invokevirtual 117, 3) := by decide +kernel
theorem dL_law_935 : decode code 935 = .ok (.if_icmp .eq 775, 3) := by decide +kernel
theorem dL_law_938 : decode code 938 = .ok (.iconst 0, 1) := by decide +kernel
theorem dL_law_939 : decode code 939 = .ok (.ireturn, 1) := by decide +kernel
theorem dL_law_940 : decode code 940 = .ok (.aload_n 1, 1) := by decide +kernel
theorem dL_law_941 : decode code 941 = .ok (.invokevirtual 118, 3) := by decide +kernel
theorem dL_law_944 : decode code 944 = .ok (.aload_n 2, 1) := by decide +kernel
theorem dL_law_945 : decode code 945 = .ok (.invokevirtual 121, 3) := by decide +kernel
theorem dL_law_948 : decode code 948 = .ok (.if_icmp .eq 762, 3) := by decide +kernel
theorem dL_law_951 : decode code 951 = .ok (.iconst 0, 1) := by decide +kernel
theorem dL_law_952 : decode code 952 = .ok (.ireturn, 1) := by decide +kernel
theorem dL_law_953 : decode code 953 = .ok (.aload_n 1, 1) := by decide +kernel
theorem dL_law_954 : decode code 954 = .ok (.aload_n 0, 1) := by decide +kernel
theorem dL_law_955 : decode code 955 = .ok (.iload 4, 2) := by decide +kernel
theorem dL_law_957 : decode code 957 = .ok (.iconst 1, 1) := by decide +kernel
theorem dL_law_958 : decode code 958 = .ok (.iadd, 1) := by decide +kernel
theorem dL_law_959 : decode code 959 = .ok (.iaload, 1) := by decide +kernel
theorem dL_law_960 : decode code 960 = .ok (.aload_n 0, 1) := by decide +kernel
theorem dL_law_961 : decode code 961 = .ok (.iload 4, 2) := by decide +kernel
theorem dL_law_963 : decode code 963 = .ok (.iconst 2, 1) := by decide +kernel
theorem dL_law_964 : decode code 964 = .ok (.iadd, 1) := by decide +kernel
theorem dL_law_965 : decode code 965 = .ok (.iaload, 1) := by decide +kernel
theorem dL_law_966 : decode code 966 = .ok (.invokevirtual 122, 3) := by decide +kernel
theorem dL_law_969 : decode code 969 = .ok (.aload_n 2, 1) := by decide +kernel
theorem dL_law_970 : decode code 970 = .ok (.aload_n 0, 1) := by decide +kernel
theorem dL_law_971 : decode code 971 = .ok (.iload 4, 2) := by decide +kernel
theorem dL_law_973 : decode code 973 = .ok (.iconst 1, 1) := by decide +kernel
theorem dL_law_974 : decode code 974 = .ok (.iadd, 1) := by decide +kernel
theorem dL_law_975 : decode code 975 = .ok (.iaload, 1) := by decide +kernel
theorem dL_law_976 : decode code 976 = .ok (.aload_n 0, 1) := by decide +kernel
theorem dL_law_977 : decode code 977 = .ok (.iload 4, 2) := by decide +kernel
theorem dL_law_979 : decode code 979 = .ok (.iconst 2, 1) := by decide +kernel
theorem dL_law_980 : decode code 980 = .ok (.iadd, 1) := by decide +kernel
theorem dL_law_981 : decode code 981 = .ok (.iaload, 1) := by decide +kernel
theorem dL_law_982 : decode code 982 = .ok (.invokevirtual 125, 3) := by decide +kernel
theorem dL_law_985 : decode code 985 = .ok (.if_icmp .eq 725, 3) := by decide +kernel
theorem dL_law_988 : decode code 988 = .ok (.iconst 0, 1) := by decide +kernel
theorem dL_law_989 : decode code 989 = .ok (.ireturn, 1) := by decide +kernel
theorem dL_law_990 : decode code 990 = .ok (.aload_n 1, 1) := by decide +kernel
theorem dL_law_991 : decode code 991 = .ok (.aload_n 0, 1) := by decide +kernel
theorem dL_law_992 : decode code 992 = .ok (.iload 4, 2) := by decide +kernel
theorem dL_law_994 : decode code 994 = .ok (.iconst 1, 1) := by decide +kernel
theorem dL_law_995 : decode code 995 = .ok (.iadd, 1) := by decide +kernel
theorem dL_law_996 : decode code 996 = .ok (.iaload, 1) := by decide +kernel
theorem dL_law_997 : decode code 997 = .ok (.invokevirtual 126, 3) := by decide +kernel
theorem dL_law_1000 : decode code 1000 = .ok (.aload_n 2, 1) := by decide +kernel
theorem dL_law_1001 : decode code 1001 = .ok (.aload_n 0, 1) := by decide +kernel
theorem dL_law_1002 : decode code 1002 = .ok (.iload 4, 2) := by decide +kernel
theorem dL_law_1004 : decode code 1004 = .ok (.iconst 1, 1) := by decide +kernel
theorem dL_law_1005 : decode code 1005 = .ok (.iadd, 1) := by decide +kernel
theorem dL_law_1006 : decode code 1006 = .ok (.iaload, 1) := by decide +kernel
theorem dL_law_1007 : decode code 1007 = .ok (.invokevirtual 129, 3) := by decide +kernel
theorem dL_law_1010 : decode code 1010 = .ok (.if_icmp .eq 700, 3) := by decide +kernel
theorem dL_law_1013 : decode code 1013 = .ok (.iconst 0, 1) := by decide +kernel
theorem dL_law_1014 : decode code 1014 = .ok (.ireturn, 1) := by decide +kernel
theorem dL_law_1015 : decode code 1015 = .ok (.aload_n 1, 1) := by decide +kernel
theorem dL_law_1016 : decode code 1016 = .ok (.aload_n 0, 1) := by decide +kernel
theorem dL_law_1017 : decode code 1017 = .ok (.iload 4, 2) := by decide +kernel
theorem dL_law_1019 : decode code 1019 = .ok (.iconst 1, 1) := by decide +kernel
theorem dL_law_1020 : decode code 1020 = .ok (.iadd, 1) := by decide +kernel
theorem dL_law_1021 : decode code 1021 = .ok (.iaload, 1) := by decide +kernel
theorem dL_law_1022 : decode code 1022 = .ok (.aload_n 0, 1) := by decide +kernel
theorem dL_law_1023 : decode code 1023 = .ok (.iload 4, 2) := by decide +kernel
theorem dL_law_1025 : decode code 1025 = .ok (.iconst 2, 1) := by decide +kernel
theorem dL_law_1026 : decode code 1026 = .ok (.iadd, 1) := by decide +kernel
theorem dL_law_1027 : decode code 1027 = .ok (.iaload, 1) := by decide +kernel
theorem dL_law_1028 : decode code 1028 = .ok (.invokevirtual 130, 3) := by decide +kernel
theorem dL_law_1031 : decode code 1031 = .ok (.aload_n 2, 1) := by decide +kernel
theorem dL_law_1032 : decode code 1032 = .ok (.aload_n 0, 1) := by decide +kernel
theorem dL_law_1033 : decode code 1033 = .ok (.iload 4, 2) := by decide +kernel
theorem dL_law_1035 : decode code 1035 = .ok (.iconst 1, 1) := by decide +kernel
theorem dL_law_1036 : decode code 1036 = .ok (.iadd, 1) := by decide +kernel
theorem dL_law_1037 : decode code 1037 = .ok (.iaload, 1) := by decide +kernel
theorem dL_law_1038 : decode code 1038 = .ok (.aload_n 0, 1) := by decide +kernel
theorem dL_law_1039 : decode code 1039 = .ok (.iload 4, 2) := by decide +kernel
theorem dL_law_1041 : decode code 1041 = .ok (.iconst 2, 1) := by decide +kernel
theorem dL_law_1042 : decode code 1042 = .ok (.iadd, 1) := by decide +kernel
theorem dL_law_1043 : decode code 1043 = .ok (.iaload, 1) := by decide +kernel
theorem dL_law_1044 : decode code 1044 = .ok (.invokevirtual 133, 3) := by decide +kernel
theorem dL_law_1047 : decode code 1047 = .ok (.if_icmp .eq 663, 3) := by decide +kernel
theorem dL_law_1050 : decode code 1050 = .ok (.iconst 0, 1) := by decide +kernel
theorem dL_law_1051 : decode code 1051 = .ok (.ireturn, 1) := by decide +kernel
theorem dL_law_1052 : decode code 1052 = .ok (.aload_n 1, 1) := by decide +kernel
theorem dL_law_1053 : decode code 1053 = .ok (.aload_n 0, 1) := by decide +kernel
theorem dL_law_1054 : decode code 1054 = .ok (.iload 4, 2) := by decide +kernel
theorem dL_law_1056 : decode code 1056 = .ok (.iconst 1, 1) := by decide +kernel
theorem dL_law_1057 : decode code 1057 = .ok (.iadd, 1) := by decide +kernel
theorem dL_law_1058 : decode code 1058 = .ok (.iaload, 1) := by decide +kernel
theorem dL_law_1059 : decode code 1059 = .ok (.invokevirtual 134, 3) := by decide +kernel
theorem dL_law_1062 : decode code 1062 = .ok (.aload_n 2, 1) := by decide +kernel
theorem dL_law_1063 : decode code 1063 = .ok (.aload_n 0, 1) := by decide +kernel
theorem dL_law_1064 : decode code 1064 = .ok (.iload 4, 2) := by decide +kernel
theorem dL_law_1066 : decode code 1066 = .ok (.iconst 1, 1) := by decide +kernel
theorem dL_law_1067 : decode code 1067 = .ok (.iadd, 1) := by decide +kernel
theorem dL_law_1068 : decode code 1068 = .ok (.iaload, 1) := by decide +kernel
theorem dL_law_1069 : decode code 1069 = .ok (.invokevirtual 137, 3) := by decide +kernel
theorem dL_law_1072 : decode code 1072 = .ok (.if_icmp .eq 638, 3) := by decide +kernel
theorem dL_law_1075 : decode code 1075 = .ok (.iconst 0, 1) := by decide +kernel
theorem dL_law_1076 : decode code 1076 = .ok (.ireturn, 1) := by decide +kernel
theorem dL_law_1077 : decode code 1077 = .ok (.aload_n 1, 1) := by decide +kernel
theorem dL_law_1078 : decode code 1078 = .ok (.aload_n 0, 1) := by decide +kernel
theorem dL_law_1079 : decode code 1079 = .ok (.iload 4, 2) := by decide +kernel
theorem dL_law_1081 : decode code 1081 = .ok (.iconst 1, 1) := by decide +kernel
theorem dL_law_1082 : decode code 1082 = .ok (.iadd, 1) := by decide +kernel
theorem dL_law_1083 : decode code 1083 = .ok (.iaload, 1) := by decide +kernel
theorem dL_law_1084 : decode code 1084 = .ok (.invokevirtual 138, 3) := by decide +kernel
theorem dL_law_1087 : decode code 1087 = .ok (.aload_n 2, 1) := by decide +kernel
theorem dL_law_1088 : decode code 1088 = .ok (.aload_n 0, 1) := by decide +kernel
theorem dL_law_1089 : decode code 1089 = .ok (.iload 4, 2) := by decide +kernel
theorem dL_law_1091 : decode code 1091 = .ok (.iconst 1, 1) := by decide +kernel
theorem dL_law_1092 : decode code 1092 = .ok (.iadd, 1) := by decide +kernel
theorem dL_law_1093 : decode code 1093 = .ok (.iaload, 1) := by decide +kernel
theorem dL_law_1094 : decode code 1094 = .ok (.invokevirtual 141, 3) := by decide +kernel
theorem dL_law_1097 : decode code 1097 = .ok (.if_icmp .eq 613, 3) := by decide +kernel
theorem dL_law_1100 : decode code 1100 = .ok (.iconst 0, 1) := by decide +kernel
theorem dL_law_1101 : decode code 1101 = .ok (.ireturn, 1) := by decide +kernel
theorem dL_law_1102 : decode code 1102 = .ok (.aload_n 1, 1) := by decide +kernel
theorem dL_law_1103 : decode code 1103 = .ok (.aload_n 0, 1) := by decide +kernel
theorem dL_law_1104 : decode code 1104 = .ok (.iload 4, 2) := by decide +kernel
theorem dL_law_1106 : decode code 1106 = .ok (.iconst 1, 1) := by decide +kernel
theorem dL_law_1107 : decode code 1107 = .ok (.iadd, 1) := by decide +kernel
theorem dL_law_1108 : decode code 1108 = .ok (.iaload, 1) := by decide +kernel
theorem dL_law_1109 : decode code 1109 = .ok (.aload_n 0, 1) := by decide +kernel
theorem dL_law_1110 : decode code 1110 = .ok (.iload 4, 2) := by decide +kernel
theorem dL_law_1112 : decode code 1112 = .ok (.iconst 2, 1) := by decide +kernel
theorem dL_law_1113 : decode code 1113 = .ok (.iadd, 1) := by decide +kernel
theorem dL_law_1114 : decode code 1114 = .ok (.iaload, 1) := by decide +kernel
theorem dL_law_1115 : decode code 1115 = .ok (.invokevirtual 142, 3) := by decide +kernel
theorem dL_law_1118 : decode code 1118 = .ok (.aload_n 2, 1) := by decide +kernel
theorem dL_law_1119 : decode code 1119 = .ok (.aload_n 0, 1) := by decide +kernel
theorem dL_law_1120 : decode code 1120 = .ok (.iload 4, 2) := by decide +kernel
theorem dL_law_1122 : decode code 1122 = .ok (.iconst 1, 1) := by decide +kernel
theorem dL_law_1123 : decode code 1123 = .ok (.iadd, 1) := by decide +kernel
theorem dL_law_1124 : decode code 1124 = .ok (.iaload, 1) := by decide +kernel
theorem dL_law_1125 : decode code 1125 = .ok (.aload_n 0, 1) := by decide +kernel
theorem dL_law_1126 : decode code 1126 = .ok (.iload 4, 2) := by decide +kernel
theorem dL_law_1128 : decode code 1128 = .ok (.iconst 2, 1) := by decide +kernel
theorem dL_law_1129 : decode code 1129 = .ok (.iadd, 1) := by decide +kernel
theorem dL_law_1130 : decode code 1130 = .ok (.iaload, 1) := by decide +kernel
theorem dL_law_1131 : decode code 1131 = .ok (.invokevirtual 145, 3) := by decide +kernel
theorem dL_law_1134 : decode code 1134 = .ok (.if_icmp .eq 576, 3) := by decide +kernel
theorem dL_law_1137 : decode code 1137 = .ok (.iconst 0, 1) := by decide +kernel
theorem dL_law_1138 : decode code 1138 = .ok (.ireturn, 1) := by decide +kernel
theorem dL_law_1139 : decode code 1139 = .ok (.aload_n 1, 1) := by decide +kernel
theorem dL_law_1140 : decode code 1140 = .ok (.aload_n 0, 1) := by decide +kernel
theorem dL_law_1141 : decode code 1141 = .ok (.iload 4, 2) := by decide +kernel
theorem dL_law_1143 : decode code 1143 = .ok (.iconst 1, 1) := by decide +kernel
theorem dL_law_1144 : decode code 1144 = .ok (.iadd, 1) := by decide +kernel
theorem dL_law_1145 : decode code 1145 = .ok (.iaload, 1) := by decide +kernel
theorem dL_law_1146 : decode code 1146 = .ok (.aload_n 0, 1) := by decide +kernel
theorem dL_law_1147 : decode code 1147 = .ok (.iload 4, 2) := by decide +kernel
theorem dL_law_1149 : decode code 1149 = .ok (.iconst 2, 1) := by decide +kernel
theorem dL_law_1150 : decode code 1150 = .ok (.iadd, 1) := by decide +kernel
theorem dL_law_1151 : decode code 1151 = .ok (.iaload, 1) := by decide +kernel
theorem dL_law_1152 : decode code 1152 = .ok (.invokevirtual 146, 3) := by decide +kernel
theorem dL_law_1155 : decode code 1155 = .ok (.aload_n 2, 1) := by decide +kernel
theorem dL_law_1156 : decode code 1156 = .ok (.aload_n 0, 1) := by decide +kernel
theorem dL_law_1157 : decode code 1157 = .ok (.iload 4, 2) := by decide +kernel
theorem dL_law_1159 : decode code 1159 = .ok (.iconst 1, 1) := by decide +kernel
theorem dL_law_1160 : decode code 1160 = .ok (.iadd, 1) := by decide +kernel
theorem dL_law_1161 : decode code 1161 = .ok (.iaload, 1) := by decide +kernel
theorem dL_law_1162 : decode code 1162 = .ok (.aload_n 0, 1) := by decide +kernel
theorem dL_law_1163 : decode code 1163 = .ok (.iload 4, 2) := by decide +kernel
theorem dL_law_1165 : decode code 1165 = .ok (.iconst 2, 1) := by decide +kernel
theorem dL_law_1166 : decode code 1166 = .ok (.iadd, 1) := by decide +kernel
theorem dL_law_1167 : decode code 1167 = .ok (.iaload, 1) := by decide +kernel
theorem dL_law_1168 : decode code 1168 = .ok (.invokevirtual 149, 3) := by decide +kernel
theorem dL_law_1171 : decode code 1171 = .ok (.if_icmp .eq 539, 3) := by decide +kernel
theorem dL_law_1174 : decode code 1174 = .ok (.iconst 0, 1) := by decide +kernel
theorem dL_law_1175 : decode code 1175 = .ok (.ireturn, 1) := by decide +kernel
theorem dL_law_1176 : decode code 1176 = .ok (.aload_n 1, 1) := by decide +kernel
theorem dL_law_1177 : decode code 1177 = .ok (.aload_n 0, 1) := by decide +kernel
theorem dL_law_1178 : decode code 1178 = .ok (.iload 4, 2) := by decide +kernel
theorem dL_law_1180 : decode code 1180 = .ok (.iconst 1, 1) := by decide +kernel
theorem dL_law_1181 : decode code 1181 = .ok (.iadd, 1) := by decide +kernel
theorem dL_law_1182 : decode code 1182 = .ok (.iaload, 1) := by decide +kernel
theorem dL_law_1183 : decode code 1183 = .ok (.aload_n 0, 1) := by decide +kernel
theorem dL_law_1184 : decode code 1184 = .ok (.iload 4, 2) := by decide +kernel
theorem dL_law_1186 : decode code 1186 = .ok (.iconst 2, 1) := by decide +kernel
theorem dL_law_1187 : decode code 1187 = .ok (.iadd, 1) := by decide +kernel
theorem dL_law_1188 : decode code 1188 = .ok (.iaload, 1) := by decide +kernel
theorem dL_law_1189 : decode code 1189 = .ok (.invokevirtual 150, 3) := by decide +kernel
theorem dL_law_1192 : decode code 1192 = .ok (.aload_n 2, 1) := by decide +kernel
theorem dL_law_1193 : decode code 1193 = .ok (.aload_n 0, 1) := by decide +kernel
theorem dL_law_1194 : decode code 1194 = .ok (.iload 4, 2) := by decide +kernel
theorem dL_law_1196 : decode code 1196 = .ok (.iconst 1, 1) := by decide +kernel
theorem dL_law_1197 : decode code 1197 = .ok (.iadd, 1) := by decide +kernel
theorem dL_law_1198 : decode code 1198 = .ok (.iaload, 1) := by decide +kernel
theorem dL_law_1199 : decode code 1199 = .ok (.aload_n 0, 1) := by decide +kernel
theorem dL_law_1200 : decode code 1200 = .ok (.iload 4, 2) := by decide +kernel
theorem dL_law_1202 : decode code 1202 = .ok (.iconst 2, 1) := by decide +kernel
theorem dL_law_1203 : decode code 1203 = .ok (.iadd, 1) := by decide +kernel
theorem dL_law_1204 : decode code 1204 = .ok (.iaload, 1) := by decide +kernel
theorem dL_law_1205 : decode code 1205 = .ok (.invokevirtual 153, 3) := by decide +kernel
theorem dL_law_1208 : decode code 1208 = .ok (.if_icmp .eq 502, 3) := by decide +kernel
theorem dL_law_1211 : decode code 1211 = .ok (.iconst 0, 1) := by decide +kernel
theorem dL_law_1212 : decode code 1212 = .ok (.ireturn, 1) := by decide +kernel
theorem dL_law_1213 : decode code 1213 = .ok (.aload_n 1, 1) := by decide +kernel
theorem dL_law_1214 : decode code 1214 = .ok (.invokevirtual 154, 3) := by decide +kernel
theorem dL_law_1217 : decode code 1217 = .ok (.aload_n 2, 1) := by decide +kernel
theorem dL_law_1218 : decode code 1218 = .ok (.invokevirtual 157, 3) := by decide +kernel
theorem dL_law_1221 : decode code 1221 = .ok (.if_icmp .eq 489, 3) := by decide +kernel
theorem dL_law_1224 : decode code 1224 = .ok (.iconst 0, 1) := by decide +kernel
theorem dL_law_1225 : decode code 1225 = .ok (.ireturn, 1) := by decide +kernel
theorem dL_law_1226 : decode code 1226 = .ok (.aload_n 1, 1) := by decide +kernel
theorem dL_law_1227 : decode code 1227 = .ok (.invokevirtual 158, 3) := by decide +kernel
theorem dL_law_1230 : decode code 1230 = .ok (.aload_n 2, 1) := by decide +kernel
theorem dL_law_1231 : decode code 1231 = .ok (.invokevirtual 161, 3) := by decide +kernel
theorem dL_law_1234 : decode code 1234 = .ok (.if_icmp .eq 476, 3) := by decide +kernel
theorem dL_law_1237 : decode code 1237 = .ok (.iconst 0, 1) := by decide +kernel
theorem dL_law_1238 : decode code 1238 = .ok (.ireturn, 1) := by decide +kernel
theorem dL_law_1239 : decode code 1239 = .ok (.aload_n 1, 1) := by decide +kernel
theorem dL_law_1240 : decode code 1240 = .ok (.aload_n 0, 1) := by decide +kernel
theorem dL_law_1241 : decode code 1241 = .ok (.iload 4, 2) := by decide +kernel
theorem dL_law_1243 : decode code 1243 = .ok (.iconst 1, 1) := by decide +kernel
theorem dL_law_1244 : decode code 1244 = .ok (.iadd, 1) := by decide +kernel
theorem dL_law_1245 : decode code 1245 = .ok (.iaload, 1) := by decide +kernel
theorem dL_law_1246 : decode code 1246 = .ok (.invokevirtual 162, 3) := by decide +kernel
theorem dL_law_1249 : decode code 1249 = .ok (.aload_n 2, 1) := by decide +kernel
theorem dL_law_1250 : decode code 1250 = .ok (.aload_n 0, 1) := by decide +kernel
theorem dL_law_1251 : decode code 1251 = .ok (.iload 4, 2) := by decide +kernel
theorem dL_law_1253 : decode code 1253 = .ok (.iconst 1, 1) := by decide +kernel
theorem dL_law_1254 : decode code 1254 = .ok (.iadd, 1) := by decide +kernel
theorem dL_law_1255 : decode code 1255 = .ok (.iaload, 1) := by decide +kernel
theorem dL_law_1256 : decode code 1256 = .ok (.invokevirtual 165, 3) := by decide +kernel
theorem dL_law_1259 : decode code 1259 = .ok (.if_icmp .eq 451, 3) := by decide +kernel
theorem dL_law_1262 : decode code 1262 = .ok (.iconst 0, 1) := by decide +kernel
theorem dL_law_1263 : decode code 1263 = .ok (.ireturn, 1) := by decide +kernel
theorem dL_law_1264 : decode code 1264 = .ok (.aload_n 1, 1) := by decide +kernel
theorem dL_law_1265 : decode code 1265 = .ok (.aload_n 0, 1) := by decide +kernel
theorem dL_law_1266 : decode code 1266 = .ok (.iload 4, 2) := by decide +kernel
theorem dL_law_1268 : decode code 1268 = .ok (.iconst 1, 1) := by decide +kernel
theorem dL_law_1269 : decode code 1269 = .ok (.iadd, 1) := by decide +kernel
theorem dL_law_1270 : decode code 1270 = .ok (.iaload, 1) := by decide +kernel
theorem dL_law_1271 : decode code 1271 = .ok (.invokevirtual 166, 3) := by decide +kernel
theorem dL_law_1274 : decode code 1274 = .ok (.aload_n 2, 1) := by decide +kernel
theorem dL_law_1275 : decode code 1275 = .ok (.aload_n 0, 1) := by decide +kernel
theorem dL_law_1276 : decode code 1276 = .ok (.iload 4, 2) := by decide +kernel
theorem dL_law_1278 : decode code 1278 = .ok (.iconst 1, 1) := by decide +kernel
theorem dL_law_1279 : decode code 1279 = .ok (.iadd, 1) := by decide +kernel
theorem dL_law_1280 : decode code 1280 = .ok (.iaload, 1) := by decide +kernel
theorem dL_law_1281 : decode code 1281 = .ok (.invokevirtual 169, 3) := by decide +kernel
theorem dL_law_1284 : decode code 1284 = .ok (.if_icmp .eq 426, 3) := by decide +kernel
theorem dL_law_1287 : decode code 1287 = .ok (.iconst 0, 1) := by decide +kernel
theorem dL_law_1288 : decode code 1288 = .ok (.ireturn, 1) := by decide +kernel
theorem dL_law_1289 : decode code 1289 = .ok (.aload_n 1, 1) := by decide +kernel
theorem dL_law_1290 : decode code 1290 = .ok (.aload_n 0, 1) := by decide +kernel
theorem dL_law_1291 : decode code 1291 = .ok (.iload 4, 2) := by decide +kernel
theorem dL_law_1293 : decode code 1293 = .ok (.iconst 1, 1) := by decide +kernel
theorem dL_law_1294 : decode code 1294 = .ok (.iadd, 1) := by decide +kernel
theorem dL_law_1295 : decode code 1295 = .ok (.iaload, 1) := by decide +kernel
theorem dL_law_1296 : decode code 1296 = .ok (.invokevirtual 170, 3) := by decide +kernel
theorem dL_law_1299 : decode code 1299 = .ok (.aload_n 2, 1) := by decide +kernel
theorem dL_law_1300 : decode code 1300 = .ok (.aload_n 0, 1) := by decide +kernel
theorem dL_law_1301 : decode code 1301 = .ok (.iload 4, 2) := by decide +kernel
theorem dL_law_1303 : decode code 1303 = .ok (.iconst 1, 1) := by decide +kernel
theorem dL_law_1304 : decode code 1304 = .ok (.iadd, 1) := by decide +kernel
theorem dL_law_1305 : decode code 1305 = .ok (.iaload, 1) := by decide +kernel
theorem dL_law_1306 : decode code 1306 = .ok (.invokevirtual 173, 3) := by decide +kernel
theorem dL_law_1309 : decode code 1309 = .ok (.if_icmp .eq 401, 3) := by decide +kernel
theorem dL_law_1312 : decode code 1312 = .ok (.iconst 0, 1) := by decide +kernel
theorem dL_law_1313 : decode code 1313 = .ok (.ireturn, 1) := by decide +kernel
theorem dL_law_1314 : decode code 1314 = .ok (.aload_n 1, 1) := by decide +kernel
theorem dL_law_1315 : decode code 1315 = .ok (.aload_n 0, 1) := by decide +kernel
theorem dL_law_1316 : decode code 1316 = .ok (.iload 4, 2) := by decide +kernel
theorem dL_law_1318 : decode code 1318 = .ok (.iconst 1, 1) := by decide +kernel
theorem dL_law_1319 : decode code 1319 = .ok (.iadd, 1) := by decide +kernel
theorem dL_law_1320 : decode code 1320 = .ok (.iaload, 1) := by decide +kernel
theorem dL_law_1321 : decode code 1321 = .ok (.aload_n 0, 1) := by decide +kernel
theorem dL_law_1322 : decode code 1322 = .ok (.iload 4, 2) := by decide +kernel
theorem dL_law_1324 : decode code 1324 = .ok (.iconst 2, 1) := by decide +kernel
theorem dL_law_1325 : decode code 1325 = .ok (.iadd, 1) := by decide +kernel
theorem dL_law_1326 : decode code 1326 = .ok (.iaload, 1) := by decide +kernel
theorem dL_law_1327 : decode code 1327 = .ok (.ifCond .eq 7, 3) := by decide +kernel
theorem dL_law_1330 : decode code 1330 = .ok (.iconst 1, 1) := by decide +kernel
theorem dL_law_1331 : decode code 1331 = .ok (.goto 4, 3) := by decide +kernel
theorem dL_law_1334 : decode code 1334 = .ok (.iconst 0, 1) := by decide +kernel
theorem dL_law_1335 : decode code 1335 = .ok (.invokevirtual 174, 3) := by decide +kernel
theorem dL_law_1338 : decode code 1338 = .ok (.aload_n 2, 1) := by decide +kernel
theorem dL_law_1339 : decode code 1339 = .ok (.aload_n 0, 1) := by decide +kernel
theorem dL_law_1340 : decode code 1340 = .ok (.iload 4, 2) := by decide +kernel
theorem dL_law_1342 : decode code 1342 = .ok (.iconst 1, 1) := by decide +kernel
theorem dL_law_1343 : decode code 1343 = .ok (.iadd, 1) := by decide +kernel
theorem dL_law_1344 : decode code 1344 = .ok (.iaload, 1) := by decide +kernel
theorem dL_law_1345 : decode code 1345 = .ok (.aload_n 0, 1) := by decide +kernel
theorem dL_law_1346 : decode code 1346 = .ok (.iload 4, 2) := by decide +kernel
theorem dL_law_1348 : decode code 1348 = .ok (.iconst 2, 1) := by decide +kernel
theorem dL_law_1349 : decode code 1349 = .ok (.iadd, 1) := by decide +kernel
theorem dL_law_1350 : decode code 1350 = .ok (.iaload, 1) := by decide +kernel
theorem dL_law_1351 : decode code 1351 = .ok (.ifCond .eq 7, 3) := by decide +kernel
theorem dL_law_1354 : decode code 1354 = .ok (.iconst 1, 1) := by decide +kernel
theorem dL_law_1355 : decode code 1355 = .ok (.goto 4, 3) := by decide +kernel
theorem dL_law_1358 : decode code 1358 = .ok (.iconst 0, 1) := by decide +kernel
theorem dL_law_1359 : decode code 1359 = .ok (.invokevirtual 178, 3) := by decide +kernel
theorem dL_law_1362 : decode code 1362 = .ok (.lcmp, 1) := by decide +kernel
theorem dL_law_1363 : decode code 1363 = .ok (.ifCond .eq 347, 3) := by decide +kernel
theorem dL_law_1366 : decode code 1366 = .ok (.iconst 0, 1) := by decide +kernel
theorem dL_law_1367 : decode code 1367 = .ok (.ireturn, 1) := by decide +kernel
theorem dL_law_1368 : decode code 1368 = .ok (.aload_n 1, 1) := by decide +kernel
theorem dL_law_1369 : decode code 1369 = .ok (.aload_n 0, 1) := by decide +kernel
theorem dL_law_1370 : decode code 1370 = .ok (.iload 4, 2) := by decide +kernel
theorem dL_law_1372 : decode code 1372 = .ok (.iconst 1, 1) := by decide +kernel
theorem dL_law_1373 : decode code 1373 = .ok (.iadd, 1) := by decide +kernel
theorem dL_law_1374 : decode code 1374 = .ok (.iaload, 1) := by decide +kernel
theorem dL_law_1375 : decode code 1375 = .ok (.aload_n 0, 1) := by decide +kernel
theorem dL_law_1376 : decode code 1376 = .ok (.iload 4, 2) := by decide +kernel
theorem dL_law_1378 : decode code 1378 = .ok (.iconst 2, 1) := by decide +kernel
theorem dL_law_1379 : decode code 1379 = .ok (.iadd, 1) := by decide +kernel
theorem dL_law_1380 : decode code 1380 = .ok (.iaload, 1) := by decide +kernel
theorem dL_law_1381 : decode code 1381 = .ok (.aload_n 0, 1) := by decide +kernel
theorem dL_law_1382 : decode code 1382 = .ok (.iload 4, 2) := by decide +kernel
theorem dL_law_1384 : decode code 1384 = .ok (.iconst 3, 1) := by decide +kernel
theorem dL_law_1385 : decode code 1385 = .ok (.iadd, 1) := by decide +kernel
theorem dL_law_1386 : decode code 1386 = .ok (.iaload, 1) := by decide +kernel
theorem dL_law_1387 : decode code 1387 = .ok (.invokevirtual 179, 3) := by decide +kernel
theorem dL_law_1390 : decode code 1390 = .ok (.aload_n 2, 1) := by decide +kernel
theorem dL_law_1391 : decode code 1391 = .ok (.aload_n 0, 1) := by decide +kernel
theorem dL_law_1392 : decode code 1392 = .ok (.iload 4, 2) := by decide +kernel
theorem dL_law_1394 : decode code 1394 = .ok (.iconst 1, 1) := by decide +kernel
theorem dL_law_1395 : decode code 1395 = .ok (.iadd, 1) := by decide +kernel
theorem dL_law_1396 : decode code 1396 = .ok (.iaload, 1) := by decide +kernel
theorem dL_law_1397 : decode code 1397 = .ok (.aload_n 0, 1) := by decide +kernel
theorem dL_law_1398 : decode code 1398 = .ok (.iload 4, 2) := by decide +kernel
theorem dL_law_1400 : decode code 1400 = .ok (.iconst 2, 1) := by decide +kernel
theorem dL_law_1401 : decode code 1401 = .ok (.iadd, 1) := by decide +kernel
theorem dL_law_1402 : decode code 1402 = .ok (.iaload, 1) := by decide +kernel
theorem dL_law_1403 : decode code 1403 = .ok (.aload_n 0, 1) := by decide +kernel
theorem dL_law_1404 : decode code 1404 = .ok (.iload 4, 2) := by decide +kernel
theorem dL_law_1406 : decode code 1406 = .ok (.iconst 3, 1) := by decide +kernel
theorem dL_law_1407 : decode code 1407 = .ok (.iadd, 1) := by decide +kernel
theorem dL_law_1408 : decode code 1408 = .ok (.iaload, 1) := by decide +kernel
theorem dL_law_1409 : decode code 1409 = .ok (.invokevirtual 183, 3) := by decide +kernel
theorem dL_law_1412 : decode code 1412 = .ok (.if_icmp .eq 298, 3) := by decide +kernel
theorem dL_law_1415 : decode code 1415 = .ok (.iconst 0, 1) := by decide +kernel
theorem dL_law_1416 : decode code 1416 = .ok (.ireturn, 1) := by decide +kernel
theorem dL_law_1417 : decode code 1417 = .ok (.aload_n 1, 1) := by decide +kernel
theorem dL_law_1418 : decode code 1418 = .ok (.aload_n 0, 1) := by decide +kernel
theorem dL_law_1419 : decode code 1419 = .ok (.iload 4, 2) := by decide +kernel
theorem dL_law_1421 : decode code 1421 = .ok (.iconst 1, 1) := by decide +kernel
theorem dL_law_1422 : decode code 1422 = .ok (.iadd, 1) := by decide +kernel
theorem dL_law_1423 : decode code 1423 = .ok (.iaload, 1) := by decide +kernel
theorem dL_law_1424 : decode code 1424 = .ok (.aload_n 0, 1) := by decide +kernel
theorem dL_law_1425 : decode code 1425 = .ok (.iload 4, 2) := by decide +kernel
theorem dL_law_1427 : decode code 1427 = .ok (.iconst 2, 1) := by decide +kernel
theorem dL_law_1428 : decode code 1428 = .ok (.iadd, 1) := by decide +kernel
theorem dL_law_1429 : decode code 1429 = .ok (.iaload, 1) := by decide +kernel
theorem dL_law_1430 : decode code 1430 = .ok (.aload_n 0, 1) := by decide +kernel
theorem dL_law_1431 : decode code 1431 = .ok (.iload 4, 2) := by decide +kernel
theorem dL_law_1433 : decode code 1433 = .ok (.iconst 3, 1) := by decide +kernel
theorem dL_law_1434 : decode code 1434 = .ok (.iadd, 1) := by decide +kernel
theorem dL_law_1435 : decode code 1435 = .ok (.iaload, 1) := by decide +kernel
theorem dL_law_1436 : decode code 1436 = .ok (.aload_n 0, 1) := by decide +kernel
theorem dL_law_1437 : decode code 1437 = .ok (.iload 4, 2) := by decide +kernel
theorem dL_law_1439 : decode code 1439 = .ok (.iconst 4, 1) := by decide +kernel
theorem dL_law_1440 : decode code 1440 = .ok (.iadd, 1) := by decide +kernel
theorem dL_law_1441 : decode code 1441 = .ok (.iaload, 1) := by decide +kernel
theorem dL_law_1442 : decode code 1442 = .ok (.invokevirtual 184, 3) := by decide +kernel
theorem dL_law_1445 : decode code 1445 = .ok (.aload_n 2, 1) := by decide +kernel
theorem dL_law_1446 : decode code 1446 = .ok (.aload_n 0, 1) := by decide +kernel
theorem dL_law_1447 : decode code 1447 = .ok (.iload 4, 2) := by decide +kernel
theorem dL_law_1449 : decode code 1449 = .ok (.iconst 1, 1) := by decide +kernel
theorem dL_law_1450 : decode code 1450 = .ok (.iadd, 1) := by decide +kernel
theorem dL_law_1451 : decode code 1451 = .ok (.iaload, 1) := by decide +kernel
theorem dL_law_1452 : decode code 1452 = .ok (.aload_n 0, 1) := by decide +kernel
theorem dL_law_1453 : decode code 1453 = .ok (.iload 4, 2) := by decide +kernel
theorem dL_law_1455 : decode code 1455 = .ok (.iconst 2, 1) := by decide +kernel
theorem dL_law_1456 : decode code 1456 = .ok (.iadd, 1) := by decide +kernel
theorem dL_law_1457 : decode code 1457 = .ok (.iaload, 1) := by decide +kernel
theorem dL_law_1458 : decode code 1458 = .ok (.aload_n 0, 1) := by decide +kernel
theorem dL_law_1459 : decode code 1459 = .ok (.iload 4, 2) := by decide +kernel
theorem dL_law_1461 : decode code 1461 = .ok (.iconst 3, 1) := by decide +kernel
theorem dL_law_1462 : decode code 1462 = .ok (.iadd, 1) := by decide +kernel
theorem dL_law_1463 : decode code 1463 = .ok (.iaload, 1) := by decide +kernel
theorem dL_law_1464 : decode code 1464 = .ok (.aload_n 0, 1) := by decide +kernel
theorem dL_law_1465 : decode code 1465 = .ok (.iload 4, 2) := by decide +kernel
theorem dL_law_1467 : decode code 1467 = .ok (.iconst 4, 1) := by decide +kernel
theorem dL_law_1468 : decode code 1468 = .ok (.iadd, 1) := by decide +kernel
theorem dL_law_1469 : decode code 1469 = .ok (.iaload, 1) := by decide +kernel
theorem dL_law_1470 : decode code 1470 = .ok (.invokevirtual 188, 3) := by decide +kernel
theorem dL_law_1473 : decode code 1473 = .ok (.if_icmp .eq 237, 3) := by decide +kernel
theorem dL_law_1476 : decode code 1476 = .ok (.iconst 0, 1) := by decide +kernel
theorem dL_law_1477 : decode code 1477 = .ok (.ireturn, 1) := by decide +kernel
theorem dL_law_1478 : decode code 1478 = .ok (.aload_n 1, 1) := by decide +kernel
theorem dL_law_1479 : decode code 1479 = .ok (.aload_n 0, 1) := by decide +kernel
theorem dL_law_1480 : decode code 1480 = .ok (.iload 4, 2) := by decide +kernel
theorem dL_law_1482 : decode code 1482 = .ok (.iconst 1, 1) := by decide +kernel
theorem dL_law_1483 : decode code 1483 = .ok (.iadd, 1) := by decide +kernel
theorem dL_law_1484 : decode code 1484 = .ok (.iaload, 1) := by decide +kernel
theorem dL_law_1485 : decode code 1485 = .ok (.aload_n 0, 1) := by decide +kernel
theorem dL_law_1486 : decode code 1486 = .ok (.iload 4, 2) := by decide +kernel
theorem dL_law_1488 : decode code 1488 = .ok (.iconst 2, 1) := by decide +kernel
theorem dL_law_1489 : decode code 1489 = .ok (.iadd, 1) := by decide +kernel
theorem dL_law_1490 : decode code 1490 = .ok (.iaload, 1) := by decide +kernel
theorem dL_law_1491 : decode code 1491 = .ok (.invokevirtual 189, 3) := by decide +kernel
theorem dL_law_1494 : decode code 1494 = .ok (.aload_n 2, 1) := by decide +kernel
theorem dL_law_1495 : decode code 1495 = .ok (.aload_n 0, 1) := by decide +kernel
theorem dL_law_1496 : decode code 1496 = .ok (.iload 4, 2) := by decide +kernel
theorem dL_law_1498 : decode code 1498 = .ok (.iconst 1, 1) := by decide +kernel
theorem dL_law_1499 : decode code 1499 = .ok (.iadd, 1) := by decide +kernel
theorem dL_law_1500 : decode code 1500 = .ok (.iaload, 1) := by decide +kernel
theorem dL_law_1501 : decode code 1501 = .ok (.aload_n 0, 1) := by decide +kernel
theorem dL_law_1502 : decode code 1502 = .ok (.iload 4, 2) := by decide +kernel
theorem dL_law_1504 : decode code 1504 = .ok (.iconst 2, 1) := by decide +kernel
theorem dL_law_1505 : decode code 1505 = .ok (.iadd, 1) := by decide +kernel
theorem dL_law_1506 : decode code 1506 = .ok (.iaload, 1) := by decide +kernel
theorem dL_law_1507 : decode code 1507 = .ok (.invokevirtual 193, 3) := by decide +kernel
theorem dL_law_1510 : decode code 1510 = .ok (.if_icmp .eq 200, 3) := by decide +kernel
theorem dL_law_1513 : decode code 1513 = .ok (.iconst 0, 1) := by decide +kernel
theorem dL_law_1514 : decode code 1514 = .ok (.ireturn, 1) := by decide +kernel
theorem dL_law_1515 : decode code 1515 = .ok (.aload_n 1, 1) := by decide +kernel
theorem dL_law_1516 : decode code 1516 = .ok (.aload_n 0, 1) := by decide +kernel
theorem dL_law_1517 : decode code 1517 = .ok (.iload 4, 2) := by decide +kernel
theorem dL_law_1519 : decode code 1519 = .ok (.iconst 1, 1) := by decide +kernel
theorem dL_law_1520 : decode code 1520 = .ok (.iadd, 1) := by decide +kernel
theorem dL_law_1521 : decode code 1521 = .ok (.iaload, 1) := by decide +kernel
theorem dL_law_1522 : decode code 1522 = .ok (.invokevirtual 194, 3) := by decide +kernel
theorem dL_law_1525 : decode code 1525 = .ok (.aload_n 2, 1) := by decide +kernel
theorem dL_law_1526 : decode code 1526 = .ok (.aload_n 0, 1) := by decide +kernel
theorem dL_law_1527 : decode code 1527 = .ok (.iload 4, 2) := by decide +kernel
theorem dL_law_1529 : decode code 1529 = .ok (.iconst 1, 1) := by decide +kernel
theorem dL_law_1530 : decode code 1530 = .ok (.iadd, 1) := by decide +kernel
theorem dL_law_1531 : decode code 1531 = .ok (.iaload, 1) := by decide +kernel
theorem dL_law_1532 : decode code 1532 = .ok (.invokevirtual 198, 3) := by decide +kernel
theorem dL_law_1535 : decode code 1535 = .ok (.if_icmp .eq 175, 3) := by decide +kernel
theorem dL_law_1538 : decode code 1538 = .ok (.iconst 0, 1) := by decide +kernel
theorem dL_law_1539 : decode code 1539 = .ok (.ireturn, 1) := by decide +kernel
theorem dL_law_1540 : decode code 1540 = .ok (.aload_n 1, 1) := by decide +kernel
theorem dL_law_1541 : decode code 1541 = .ok (.aload_n 0, 1) := by decide +kernel
theorem dL_law_1542 : decode code 1542 = .ok (.iload 4, 2) := by decide +kernel
theorem dL_law_1544 : decode code 1544 = .ok (.iconst 1, 1) := by decide +kernel
theorem dL_law_1545 : decode code 1545 = .ok (.iadd, 1) := by decide +kernel
theorem dL_law_1546 : decode code 1546 = .ok (.iaload, 1) := by decide +kernel
theorem dL_law_1547 : decode code 1547 = .ok (.invokevirtual 199, 3) := by decide +kernel
theorem dL_law_1550 : decode code 1550 = .ok (.aload_n 2, 1) := by decide +kernel
theorem dL_law_1551 : decode code 1551 = .ok (.aload_n 0, 1) := by decide +kernel
theorem dL_law_1552 : decode code 1552 = .ok (.iload 4, 2) := by decide +kernel
theorem dL_law_1554 : decode code 1554 = .ok (.iconst 1, 1) := by decide +kernel
theorem dL_law_1555 : decode code 1555 = .ok (.iadd, 1) := by decide +kernel
theorem dL_law_1556 : decode code 1556 = .ok (.iaload, 1) := by decide +kernel
theorem dL_law_1557 : decode code 1557 = .ok (.invokevirtual 202, 3) := by decide +kernel
theorem dL_law_1560 : decode code 1560 = .ok (.if_icmp .eq 150, 3) := by decide +kernel
theorem dL_law_1563 : decode code 1563 = .ok (.iconst 0, 1) := by decide +kernel
theorem dL_law_1564 : decode code 1564 = .ok (.ireturn, 1) := by decide +kernel
theorem dL_law_1565 : decode code 1565 = .ok (.aload_n 1, 1) := by decide +kernel
theorem dL_law_1566 : decode code 1566 = .ok (.invokevirtual 203, 3) := by decide +kernel
theorem dL_law_1569 : decode code 1569 = .ok (.aload_n 2, 1) := by decide +kernel
theorem dL_law_1570 : decode code 1570 = .ok (.invokevirtual 207, 3) := by decide +kernel
theorem dL_law_1573 : decode code 1573 = .ok (.if_icmp .eq 137, 3) := by decide +kernel
theorem dL_law_1576 : decode code 1576 = .ok (.iconst 0, 1) := by decide +kernel
theorem dL_law_1577 : decode code 1577 = .ok (.ireturn, 1) := by decide +kernel
theorem dL_law_1578 : decode code 1578 = .ok (.aload_n 1, 1) := by decide +kernel
theorem dL_law_1579 : decode code 1579 = .ok (.invokevirtual 208, 3) := by decide +kernel
theorem dL_law_1582 : decode code 1582 = .ok (.aload_n 2, 1) := by decide +kernel
theorem dL_law_1583 : decode code 1583 = .ok (.invokevirtual 211, 3) := by decide +kernel
theorem dL_law_1586 : decode code 1586 = .ok (.if_icmp .eq 124, 3) := by decide +kernel
theorem dL_law_1589 : decode code 1589 = .ok (.iconst 0, 1) := by decide +kernel
theorem dL_law_1590 : decode code 1590 = .ok (.ireturn, 1) := by decide +kernel
theorem dL_law_1591 : decode code 1591 = .ok (.aload_n 1, 1) := by decide +kernel
theorem dL_law_1592 : decode code 1592 = .ok (.aload_n 0, 1) := by decide +kernel
theorem dL_law_1593 : decode code 1593 = .ok (.iload 4, 2) := by decide +kernel
theorem dL_law_1595 : decode code 1595 = .ok (.iconst 1, 1) := by decide +kernel
theorem dL_law_1596 : decode code 1596 = .ok (.iadd, 1) := by decide +kernel
theorem dL_law_1597 : decode code 1597 = .ok (.iaload, 1) := by decide +kernel
theorem dL_law_1598 : decode code 1598 = .ok (.invokevirtual 212, 3) := by decide +kernel
theorem dL_law_1601 : decode code 1601 = .ok (.aload_n 2, 1) := by decide +kernel
theorem dL_law_1602 : decode code 1602 = .ok (.aload_n 0, 1) := by decide +kernel
theorem dL_law_1603 : decode code 1603 = .ok (.iload 4, 2) := by decide +kernel
theorem dL_law_1605 : decode code 1605 = .ok (.iconst 1, 1) := by decide +kernel
theorem dL_law_1606 : decode code 1606 = .ok (.iadd, 1) := by decide +kernel
theorem dL_law_1607 : decode code 1607 = .ok (.iaload, 1) := by decide +kernel
theorem dL_law_1608 : decode code 1608 = .ok (.invokevirtual 215, 3) := by decide +kernel
theorem dL_law_1611 : decode code 1611 = .ok (.if_icmp .eq 99, 3) := by decide +kernel
theorem dL_law_1614 : decode code 1614 = .ok (.iconst 0, 1) := by decide +kernel
theorem dL_law_1615 : decode code 1615 = .ok (.ireturn, 1) := by decide +kernel
theorem dL_law_1616 : decode code 1616 = .ok (.aload_n 1, 1) := by decide +kernel
theorem dL_law_1617 : decode code 1617 = .ok (.aload_n 0, 1) := by decide +kernel
theorem dL_law_1618 : decode code 1618 = .ok (.iload 4, 2) := by decide +kernel
theorem dL_law_1620 : decode code 1620 = .ok (.iconst 1, 1) := by decide +kernel
theorem dL_law_1621 : decode code 1621 = .ok (.iadd, 1) := by decide +kernel
theorem dL_law_1622 : decode code 1622 = .ok (.iaload, 1) := by decide +kernel
theorem dL_law_1623 : decode code 1623 = .ok (.aload_n 3, 1) := by decide +kernel
theorem dL_law_1624 : decode code 1624 = .ok (.invokestatic 216, 3) := by decide +kernel
theorem dL_law_1627 : decode code 1627 = .ok (.istore 5, 2) := by decide +kernel
theorem dL_law_1629 : decode code 1629 = .ok (.aload_n 2, 1) := by decide +kernel
theorem dL_law_1630 : decode code 1630 = .ok (.aload_n 0, 1) := by decide +kernel
theorem dL_law_1631 : decode code 1631 = .ok (.iload 4, 2) := by decide +kernel
theorem dL_law_1633 : decode code 1633 = .ok (.iconst 1, 1) := by decide +kernel
theorem dL_law_1634 : decode code 1634 = .ok (.iadd, 1) := by decide +kernel
theorem dL_law_1635 : decode code 1635 = .ok (.iaload, 1) := by decide +kernel
theorem dL_law_1636 : decode code 1636 = .ok (.invokevirtual 221, 3) := by decide +kernel
theorem dL_law_1639 : decode code 1639 = .ok (.istore 6, 2) := by decide +kernel
theorem dL_law_1641 : decode code 1641 = .ok (.aload_n 2, 1) := by decide +kernel
theorem dL_law_1642 : decode code 1642 = .ok (.invokevirtual 222, 3) := by decide +kernel
theorem dL_law_1645 : decode code 1645 = .ok (.iload 5, 2) := by decide +kernel
theorem dL_law_1647 : decode code 1647 = .ok (.if_icmp .eq 5, 3) := by decide +kernel
theorem dL_law_1650 : decode code 1650 = .ok (.iconst 0, 1) := by decide +kernel
theorem dL_law_1651 : decode code 1651 = .ok (.ireturn, 1) := by decide +kernel
theorem dL_law_1652 : decode code 1652 = .ok (.iload 5, 2) := by decide +kernel
theorem dL_law_1654 : decode code 1654 = .ok (.ifCond .ne 15, 3) := by decide +kernel
theorem dL_law_1657 : decode code 1657 = .ok (.aload_n 3, 1) := by decide +kernel
theorem dL_law_1658 : decode code 1658 = .ok (.iconst 0, 1) := by decide +kernel
theorem dL_law_1659 : decode code 1659 = .ok (.laload, 1) := by decide +kernel
theorem dL_law_1660 : decode code 1660 = .ok (.iload 6, 2) := by decide +kernel
theorem dL_law_1662 : decode code 1662 = .ok (.i2l, 1) := by decide +kernel
theorem dL_law_1663 : decode code 1663 = .ok (.lcmp, 1) := by decide +kernel
theorem dL_law_1664 : decode code 1664 = .ok (.ifCond .eq 5, 3) := by decide +kernel
theorem dL_law_1667 : decode code 1667 = .ok (.iconst 0, 1) := by decide +kernel
theorem dL_law_1668 : decode code 1668 = .ok (.ireturn, 1) := by decide +kernel
theorem dL_law_1669 : decode code 1669 = .ok (.goto 41, 3) := by decide +kernel
theorem dL_law_1672 : decode code 1672 = .ok (.aload_n 1, 1) := by decide +kernel
theorem dL_law_1673 : decode code 1673 = .ok (.aload_n 0, 1) := by decide +kernel
theorem dL_law_1674 : decode code 1674 = .ok (.iload 4, 2) := by decide +kernel
theorem dL_law_1676 : decode code 1676 = .ok (.iconst 1, 1) := by decide +kernel
theorem dL_law_1677 : decode code 1677 = .ok (.iadd, 1) := by decide +kernel
theorem dL_law_1678 : decode code 1678 = .ok (.iaload, 1) := by decide +kernel
theorem dL_law_1679 : decode code 1679 = .ok (.invokevirtual 225, 3) := by decide +kernel
theorem dL_law_1682 : decode code 1682 = .ok (.aload_n 2, 1) := by decide +kernel
theorem dL_law_1683 : decode code 1683 = .ok (.aload_n 0, 1) := by decide +kernel
theorem dL_law_1684 : decode code 1684 = .ok (.iload 4, 2) := by decide +kernel
theorem dL_law_1686 : decode code 1686 = .ok (.iconst 1, 1) := by decide +kernel
theorem dL_law_1687 : decode code 1687 = .ok (.iadd, 1) := by decide +kernel
theorem dL_law_1688 : decode code 1688 = .ok (.iaload, 1) := by decide +kernel
theorem dL_law_1689 : decode code 1689 = .ok (.invokevirtual 228, 3) := by decide +kernel
theorem dL_law_1692 : decode code 1692 = .ok (.if_icmp .eq 18, 3) := by decide +kernel
theorem dL_law_1695 : decode code 1695 = .ok (.iconst 0, 1) := by decide +kernel
theorem dL_law_1696 : decode code 1696 = .ok (.ireturn, 1) := by decide +kernel
theorem dL_law_1697 : decode code 1697 = .ok (.aload_n 1, 1) := by decide +kernel
theorem dL_law_1698 : decode code 1698 = .ok (.invokevirtual 229, 3) := by decide +kernel
theorem dL_law_1701 : decode code 1701 = .ok (.aload_n 2, 1) := by decide +kernel
theorem dL_law_1702 : decode code 1702 = .ok (.invokevirtual 232, 3) := by decide +kernel
theorem dL_law_1705 : decode code 1705 = .ok (.if_icmp .eq 5, 3) := by decide +kernel
theorem dL_law_1708 : decode code 1708 = .ok (.iconst 0, 1) := by decide +kernel
theorem dL_law_1709 : decode code 1709 = .ok (.ireturn, 1) := by decide +kernel
theorem dL_law_1710 : decode code 1710 = .ok (.iinc 4 6, 3) := by decide +kernel
theorem dL_law_1713 : decode code 1713 = .ok (.goto (-1690), 3) := by decide +kernel
theorem dL_law_1716 : decode code 1716 = .ok (.iconst 1, 1) := by decide +kernel
theorem dL_law_1717 : decode code 1717 = .ok (.ireturn, 1) := by decide +kernel
