/-! Decoded instructions. -/
theorem dQ_take_0 : decode prog_6_method_15_code 0 = .ok (.aload_n 0, 1) := by decide +kernel
theorem dQ_take_1 : decode prog_6_method_15_code 1 = .ok (.getfield 19, 3) := by decide +kernel
theorem dQ_take_4 : decode prog_6_method_15_code 4 = .ok (.aload_n 0, 1) := by decide +kernel
theorem dQ_take_5 : decode prog_6_method_15_code 5 = .ok (.getfield 15, 3) := by decide +kernel
theorem dQ_take_8 : decode prog_6_method_15_code 8 = .ok (.if_icmp .ge 16, 3) := by decide +kernel
theorem dQ_take_11 : decode prog_6_method_15_code 11 = .ok (.aload_n 0, 1) := by decide +kernel
theorem dQ_take_12 : decode prog_6_method_15_code 12 = .ok (.getfield 9, 3) := by decide +kernel
theorem dQ_take_15 : decode prog_6_method_15_code 15 = .ok (.aload_n 0, 1) := by decide +kernel
theorem dQ_take_16 : decode prog_6_method_15_code 16 = .ok (.getfield 19, 3) := by decide +kernel
theorem dQ_take_19 : decode prog_6_method_15_code 19 = .ok (.caload, 1) := by decide +kernel
theorem dQ_take_20 : decode prog_6_method_15_code 20 = .ok (.iload_n 1, 1) := by decide +kernel
theorem dQ_take_21 : decode prog_6_method_15_code 21 = .ok (.if_icmp .eq 5, 3) := by decide +kernel
theorem dQ_take_24 : decode prog_6_method_15_code 24 = .ok (.iconst 0, 1) := by decide +kernel
theorem dQ_take_25 : decode prog_6_method_15_code 25 = .ok (.ireturn, 1) := by decide +kernel
theorem dQ_take_26 : decode prog_6_method_15_code 26 = .ok (.aload_n 0, 1) := by decide +kernel
theorem dQ_take_27 : decode prog_6_method_15_code 27 = .ok (.dup, 1) := by decide +kernel
theorem dQ_take_28 : decode prog_6_method_15_code 28 = .ok (.getfield 19, 3) := by decide +kernel
theorem dQ_take_31 : decode prog_6_method_15_code 31 = .ok (.iconst 1, 1) := by decide +kernel
theorem dQ_take_32 : decode prog_6_method_15_code 32 = .ok (.iadd, 1) := by decide +kernel
theorem dQ_take_33 : decode prog_6_method_15_code 33 = .ok (.putfield 19, 3) := by decide +kernel
theorem dQ_take_36 : decode prog_6_method_15_code 36 = .ok (.iconst 1, 1) := by decide +kernel
theorem dQ_take_37 : decode prog_6_method_15_code 37 = .ok (.ireturn, 1) := by decide +kernel
theorem dQ_takeWeekday_0 : decode prog_6_method_12_code 0 = .ok (.aload_n 0, 1) := by decide +kernel
theorem dQ_takeWeekday_1 : decode prog_6_method_12_code 1 = .ok (.getfield 19, 3) := by decide +kernel
theorem dQ_takeWeekday_4 : decode prog_6_method_12_code 4 = .ok (.iconst 1, 1) := by decide +kernel
theorem dQ_takeWeekday_5 : decode prog_6_method_12_code 5 = .ok (.iadd, 1) := by decide +kernel
theorem dQ_takeWeekday_6 : decode prog_6_method_12_code 6 = .ok (.aload_n 0, 1) := by decide +kernel
theorem dQ_takeWeekday_7 : decode prog_6_method_12_code 7 = .ok (.getfield 15, 3) := by decide +kernel
theorem dQ_takeWeekday_10 : decode prog_6_method_12_code 10 = .ok (.if_icmp .lt 5, 3) := by decide +kernel
theorem dQ_takeWeekday_13 : decode prog_6_method_12_code 13 = .ok (.iconst (-1), 1) := by decide +kernel
theorem dQ_takeWeekday_14 : decode prog_6_method_12_code 14 = .ok (.ireturn, 1) := by decide +kernel
theorem dQ_takeWeekday_15 : decode prog_6_method_12_code 15 = .ok (.iconst 0, 1) := by decide +kernel
theorem dQ_takeWeekday_16 : decode prog_6_method_12_code 16 = .ok (.istore_n 1, 1) := by decide +kernel
theorem dQ_takeWeekday_17 : decode prog_6_method_12_code 17 = .ok (.iload_n 1, 1) := by decide +kernel
theorem dQ_takeWeekday_18 : decode prog_6_method_12_code 18 = .ok (.bipush 7, 2) := by decide +kernel
theorem dQ_takeWeekday_20 : decode prog_6_method_12_code 20 = .ok (.if_icmp .ge 75, 3) := by decide +kernel
theorem dQ_takeWeekday_23 : decode prog_6_method_12_code 23 = .ok (.aload_n 0, 1) := by decide +kernel
theorem dQ_takeWeekday_24 : decode prog_6_method_12_code 24 = .ok (.getfield 9, 3) := by decide +kernel
theorem dQ_takeWeekday_27 : decode prog_6_method_12_code 27 = .ok (.aload_n 0, 1) := by decide +kernel
theorem dQ_takeWeekday_28 : decode prog_6_method_12_code 28 = .ok (.getfield 19, 3) := by decide +kernel
theorem dQ_takeWeekday_31 : decode prog_6_method_12_code 31 = .ok (.caload, 1) := by decide +kernel
theorem dQ_takeWeekday_32 : decode prog_6_method_12_code 32 = .ok (.ldc 152, 2) := by decide +kernel
theorem dQ_takeWeekday_34 : decode prog_6_method_12_code 34 = .ok (.iconst 2, 1) := by decide +kernel
theorem dQ_takeWeekday_35 : decode prog_6_method_12_code 35 = .ok (.iload_n 1, 1) := by decide +kernel
theorem dQ_takeWeekday_36 : decode prog_6_method_12_code 36 = .ok (.imul, 1) := by decide +kernel
theorem dQ_takeWeekday_37 : decode prog_6_method_12_code 37 = .ok (.invokevirtual 154, 3) := by decide +kernel
theorem dQ_takeWeekday_40 : decode prog_6_method_12_code 40 = .ok (.if_icmp .ne 7, 3) := by decide +kernel
theorem dQ_takeWeekday_43 : decode prog_6_method_12_code 43 = .ok (.iconst 1, 1) := by decide +kernel
theorem dQ_takeWeekday_44 : decode prog_6_method_12_code 44 = .ok (.goto 4, 3) := by decide +kernel
theorem dQ_takeWeekday_47 : decode prog_6_method_12_code 47 = .ok (.iconst 0, 1) := by decide +kernel
theorem dQ_takeWeekday_48 : decode prog_6_method_12_code 48 = .ok (.istore_n 2, 1) := by decide +kernel
theorem dQ_takeWeekday_49 : decode prog_6_method_12_code 49 = .ok (.iload_n 2, 1) := by decide +kernel
theorem dQ_takeWeekday_50 : decode prog_6_method_12_code 50 = .ok (.ifCond .eq 39, 3) := by decide +kernel
theorem dQ_takeWeekday_53 : decode prog_6_method_12_code 53 = .ok (.aload_n 0, 1) := by decide +kernel
theorem dQ_takeWeekday_54 : decode prog_6_method_12_code 54 = .ok (.getfield 9, 3) := by decide +kernel
theorem dQ_takeWeekday_57 : decode prog_6_method_12_code 57 = .ok (.aload_n 0, 1) := by decide +kernel
theorem dQ_takeWeekday_58 : decode prog_6_method_12_code 58 = .ok (.getfield 19, 3) := by decide +kernel
theorem dQ_takeWeekday_61 : decode prog_6_method_12_code 61 = .ok (.iconst 1, 1) := by decide +kernel
theorem dQ_takeWeekday_62 : decode prog_6_method_12_code 62 = .ok (.iadd, 1) := by decide +kernel
theorem dQ_takeWeekday_63 : decode prog_6_method_12_code 63 = .ok (.caload, 1) := by decide +kernel
theorem dQ_takeWeekday_64 : decode prog_6_method_12_code 64 = .ok (.ldc 152, 2) := by decide +kernel
theorem dQ_takeWeekday_66 : decode prog_6_method_12_code 66 = .ok (.iconst 2, 1) := by decide +kernel
theorem dQ_takeWeekday_67 : decode prog_6_method_12_code 67 = .ok (.iload_n 1, 1) := by decide +kernel
theorem dQ_takeWeekday_68 : decode prog_6_method_12_code 68 = .ok (.imul, 1) := by decide +kernel
theorem dQ_takeWeekday_69 : decode prog_6_method_12_code 69 = .ok (.iconst 1, 1) := by decide +kernel
theorem dQ_takeWeekday_70 : decode prog_6_method_12_code 70 = .ok (.iadd, 1) := by decide +kernel
theorem dQ_takeWeekday_71 : decode prog_6_method_12_code 71 = .ok (.invokevirtual 154, 3) := by decide +kernel
theorem dQ_takeWeekday_74 : decode prog_6_method_12_code 74 = .ok (.if_icmp .ne 15, 3) := by decide +kernel
theorem dQ_takeWeekday_77 : decode prog_6_method_12_code 77 = .ok (.aload_n 0, 1) := by decide +kernel
theorem dQ_takeWeekday_78 : decode prog_6_method_12_code 78 = .ok (.dup, 1) := by decide +kernel
theorem dQ_takeWeekday_79 : decode prog_6_method_12_code 79 = .ok (.getfield 19, 3) := by decide +kernel
theorem dQ_takeWeekday_82 : decode prog_6_method_12_code 82 = .ok (.iconst 2, 1) := by decide +kernel
theorem dQ_takeWeekday_83 : decode prog_6_method_12_code 83 = .ok (.iadd, 1) := by decide +kernel
theorem dQ_takeWeekday_84 : decode prog_6_method_12_code 84 = .ok (.putfield 19, 3) := by decide +kernel
theorem dQ_takeWeekday_87 : decode prog_6_method_12_code 87 = .ok (.iload_n 1, 1) := by decide +kernel
theorem dQ_takeWeekday_88 : decode prog_6_method_12_code 88 = .ok (.ireturn, 1) := by decide +kernel
theorem dQ_takeWeekday_89 : decode prog_6_method_12_code 89 = .ok (.iinc 1 1, 3) := by decide +kernel
theorem dQ_takeWeekday_92 : decode prog_6_method_12_code 92 = .ok (.goto (-75), 3) := by decide +kernel
theorem dQ_takeWeekday_95 : decode prog_6_method_12_code 95 = .ok (.iconst (-1), 1) := by decide +kernel
theorem dQ_takeWeekday_96 : decode prog_6_method_12_code 96 = .ok (.ireturn, 1) := by decide +kernel
theorem dR_nthBit_0 : decode prog_5_method_4_code 0 = .ok (.lconst 1, 1) := by decide +kernel
theorem dR_nthBit_1 : decode prog_5_method_4_code 1 = .ok (.bipush 7, 2) := by decide +kernel
theorem dR_nthBit_3 : decode prog_5_method_4_code 3 = .ok (.iload_n 1, 1) := by decide +kernel
theorem dR_nthBit_4 : decode prog_5_method_4_code 4 = .ok (.imul, 1) := by decide +kernel
theorem dR_nthBit_5 : decode prog_5_method_4_code 5 = .ok (.iload_n 0, 1) := by decide +kernel
theorem dR_nthBit_6 : decode prog_5_method_4_code 6 = .ok (.iadd, 1) := by decide +kernel
theorem dR_nthBit_7 : decode prog_5_method_4_code 7 = .ok (.lshl, 1) := by decide +kernel
theorem dR_nthBit_8 : decode prog_5_method_4_code 8 = .ok (.lreturn, 1) := by decide +kernel
theorem dR_addWeekday_0 : decode prog_5_method_3_code 0 = .ok (.iload_n 2, 1) := by decide +kernel
theorem dR_addWeekday_1 : decode prog_5_method_3_code 1 = .ok (.ifCond .ne 18, 3) := by decide +kernel
theorem dR_addWeekday_4 : decode prog_5_method_3_code 4 = .ok (.aload_n 0, 1) := by decide +kernel
theorem dR_addWeekday_5 : decode prog_5_method_3_code 5 = .ok (.dup, 1) := by decide +kernel
theorem dR_addWeekday_6 : decode prog_5_method_3_code 6 = .ok (.getfield 26, 3) := by decide +kernel
theorem dR_addWeekday_9 : decode prog_5_method_3_code 9 = .ok (.iconst 1, 1) := by decide +kernel
theorem dR_addWeekday_10 : decode prog_5_method_3_code 10 = .ok (.iload_n 1, 1) := by decide +kernel
theorem dR_addWeekday_11 : decode prog_5_method_3_code 11 = .ok (.ishl, 1) := by decide +kernel
theorem dR_addWeekday_12 : decode prog_5_method_3_code 12 = .ok (.ior, 1) := by decide +kernel
theorem dR_addWeekday_13 : decode prog_5_method_3_code 13 = .ok (.putfield 26, 3) := by decide +kernel
theorem dR_addWeekday_16 : decode prog_5_method_3_code 16 = .ok (.goto 38, 3) := by decide +kernel
theorem dR_addWeekday_19 : decode prog_5_method_3_code 19 = .ok (.iload_n 3, 1) := by decide +kernel
theorem dR_addWeekday_20 : decode prog_5_method_3_code 20 = .ok (.ifCond .eq 20, 3) := by decide +kernel
theorem dR_addWeekday_23 : decode prog_5_method_3_code 23 = .ok (.aload_n 0, 1) := by decide +kernel
theorem dR_addWeekday_24 : decode prog_5_method_3_code 24 = .ok (.dup, 1) := by decide +kernel
theorem dR_addWeekday_25 : decode prog_5_method_3_code 25 = .ok (.getfield 29, 3) := by decide +kernel
theorem dR_addWeekday_28 : decode prog_5_method_3_code 28 = .ok (.iload_n 1, 1) := by decide +kernel
theorem dR_addWeekday_29 : decode prog_5_method_3_code 29 = .ok (.iload_n 2, 1) := by decide +kernel
theorem dR_addWeekday_30 : decode prog_5_method_3_code 30 = .ok (.invokestatic 33, 3) := by decide +kernel
theorem dR_addWeekday_33 : decode prog_5_method_3_code 33 = .ok (.lor, 1) := by decide +kernel
theorem dR_addWeekday_34 : decode prog_5_method_3_code 34 = .ok (.putfield 29, 3) := by decide +kernel
theorem dR_addWeekday_37 : decode prog_5_method_3_code 37 = .ok (.goto 17, 3) := by decide +kernel
theorem dR_addWeekday_40 : decode prog_5_method_3_code 40 = .ok (.aload_n 0, 1) := by decide +kernel
theorem dR_addWeekday_41 : decode prog_5_method_3_code 41 = .ok (.dup, 1) := by decide +kernel
theorem dR_addWeekday_42 : decode prog_5_method_3_code 42 = .ok (.getfield 37, 3) := by decide +kernel
theorem dR_addWeekday_45 : decode prog_5_method_3_code 45 = .ok (.iload_n 1, 1) := by decide +kernel
theorem dR_addWeekday_46 : decode prog_5_method_3_code 46 = .ok (.iload_n 2, 1) := by decide +kernel
theorem dR_addWeekday_47 : decode prog_5_method_3_code 47 = .ok (.invokestatic 33, 3) := by decide +kernel
theorem dR_addWeekday_50 : decode prog_5_method_3_code 50 = .ok (.lor, 1) := by decide +kernel
theorem dR_addWeekday_51 : decode prog_5_method_3_code 51 = .ok (.putfield 37, 3) := by decide +kernel
theorem dR_addWeekday_54 : decode prog_5_method_3_code 54 = .ok (.return_, 1) := by decide +kernel
theorem dQ_readWeekday_0 : decode prog_6_method_9_code 0 = .ok (.aload_n 0, 1) := by decide +kernel
theorem dQ_readWeekday_1 : decode prog_6_method_9_code 1 = .ok (.bipush 45, 2) := by decide +kernel
theorem dQ_readWeekday_3 : decode prog_6_method_9_code 3 = .ok (.invokevirtual 48, 3) := by decide +kernel
theorem dQ_readWeekday_6 : decode prog_6_method_9_code 6 = .ok (.istore_n 1, 1) := by decide +kernel
theorem dQ_readWeekday_7 : decode prog_6_method_9_code 7 = .ok (.iconst 0, 1) := by decide +kernel
theorem dQ_readWeekday_8 : decode prog_6_method_9_code 8 = .ok (.istore_n 2, 1) := by decide +kernel
theorem dQ_readWeekday_9 : decode prog_6_method_9_code 9 = .ok (.iload_n 1, 1) := by decide +kernel
theorem dQ_readWeekday_10 : decode prog_6_method_9_code 10 = .ok (.ifCond .ne 10, 3) := by decide +kernel
theorem dQ_readWeekday_13 : decode prog_6_method_9_code 13 = .ok (.aload_n 0, 1) := by decide +kernel
theorem dQ_readWeekday_14 : decode prog_6_method_9_code 14 = .ok (.invokevirtual 137, 3) := by decide +kernel
theorem dQ_readWeekday_17 : decode prog_6_method_9_code 17 = .ok (.ifCond .eq 16, 3) := by decide +kernel
theorem dQ_readWeekday_20 : decode prog_6_method_9_code 20 = .ok (.aload_n 0, 1) := by decide +kernel
theorem dQ_readWeekday_21 : decode prog_6_method_9_code 21 = .ok (.iconst 1, 1) := by decide +kernel
theorem dQ_readWeekday_22 : decode prog_6_method_9_code 22 = .ok (.iconst 5, 1) := by decide +kernel
theorem dQ_readWeekday_23 : decode prog_6_method_9_code 23 = .ok (.invokevirtual 120, 3) := by decide +kernel
theorem dQ_readWeekday_26 : decode prog_6_method_9_code 26 = .ok (.istore_n 2, 1) := by decide +kernel
theorem dQ_readWeekday_27 : decode prog_6_method_9_code 27 = .ok (.iload_n 2, 1) := by decide +kernel
theorem dQ_readWeekday_28 : decode prog_6_method_9_code 28 = .ok (.ifCond .ne 5, 3) := by decide +kernel
theorem dQ_readWeekday_31 : decode prog_6_method_9_code 31 = .ok (.iconst 0, 1) := by decide +kernel
theorem dQ_readWeekday_32 : decode prog_6_method_9_code 32 = .ok (.ireturn, 1) := by decide +kernel
theorem dQ_readWeekday_33 : decode prog_6_method_9_code 33 = .ok (.aload_n 0, 1) := by decide +kernel
theorem dQ_readWeekday_34 : decode prog_6_method_9_code 34 = .ok (.invokevirtual 140, 3) := by decide +kernel
theorem dQ_readWeekday_37 : decode prog_6_method_9_code 37 = .ok (.istore_n 3, 1) := by decide +kernel
theorem dQ_readWeekday_38 : decode prog_6_method_9_code 38 = .ok (.iload_n 3, 1) := by decide +kernel
theorem dQ_readWeekday_39 : decode prog_6_method_9_code 39 = .ok (.ifCond .ge 5, 3) := by decide +kernel
theorem dQ_readWeekday_42 : decode prog_6_method_9_code 42 = .ok (.iconst 0, 1) := by decide +kernel
theorem dQ_readWeekday_43 : decode prog_6_method_9_code 43 = .ok (.ireturn, 1) := by decide +kernel
theorem dQ_readWeekday_44 : decode prog_6_method_9_code 44 = .ok (.aload_n 0, 1) := by decide +kernel
theorem dQ_readWeekday_45 : decode prog_6_method_9_code 45 = .ok (.getfield 25, 3) := by decide +kernel
theorem dQ_readWeekday_48 : decode prog_6_method_9_code 48 = .ok (.iload_n 3, 1) := by decide +kernel
theorem dQ_readWeekday_49 : decode prog_6_method_9_code 49 = .ok (.iload_n 2, 1) := by decide +kernel
theorem dQ_readWeekday_50 : decode prog_6_method_9_code 50 = .ok (.iload_n 1, 1) := by decide +kernel
theorem dQ_readWeekday_51 : decode prog_6_method_9_code 51 = .ok (.invokevirtual 144, 3) := by decide +kernel
theorem dQ_readWeekday_54 : decode prog_6_method_9_code 54 = .ok (.iconst 1, 1) := by decide +kernel
theorem dQ_readWeekday_55 : decode prog_6_method_9_code 55 = .ok (.ireturn, 1) := by decide +kernel
theorem dQ_readWeekdays_0 : decode prog_6_method_8_code 0 = .ok (.iconst 0, 1) := by decide +kernel
theorem dQ_readWeekdays_1 : decode prog_6_method_8_code 1 = .ok (.istore_n 1, 1) := by decide +kernel
theorem dQ_readWeekdays_2 : decode prog_6_method_8_code 2 = .ok (.iload_n 1, 1) := by decide +kernel
theorem dQ_readWeekdays_3 : decode prog_6_method_8_code 3 = .ok (.bipush 7, 2) := by decide +kernel
theorem dQ_readWeekdays_5 : decode prog_6_method_8_code 5 = .ok (.if_icmp .ge 29, 3) := by decide +kernel
theorem dQ_readWeekdays_8 : decode prog_6_method_8_code 8 = .ok (.aload_n 0, 1) := by decide +kernel
theorem dQ_readWeekdays_9 : decode prog_6_method_8_code 9 = .ok (.invokevirtual 134, 3) := by decide +kernel
theorem dQ_readWeekdays_12 : decode prog_6_method_8_code 12 = .ok (.ifCond .ne 5, 3) := by decide +kernel
theorem dQ_readWeekdays_15 : decode prog_6_method_8_code 15 = .ok (.iconst 0, 1) := by decide +kernel
theorem dQ_readWeekdays_16 : decode prog_6_method_8_code 16 = .ok (.ireturn, 1) := by decide +kernel
theorem dQ_readWeekdays_17 : decode prog_6_method_8_code 17 = .ok (.aload_n 0, 1) := by decide +kernel
theorem dQ_readWeekdays_18 : decode prog_6_method_8_code 18 = .ok (.bipush 44, 2) := by decide +kernel
theorem dQ_readWeekdays_20 : decode prog_6_method_8_code 20 = .ok (.invokevirtual 48, 3) := by decide +kernel
theorem dQ_readWeekdays_23 : decode prog_6_method_8_code 23 = .ok (.ifCond .ne 5, 3) := by decide +kernel
theorem dQ_readWeekdays_26 : decode prog_6_method_8_code 26 = .ok (.iconst 1, 1) := by decide +kernel
theorem dQ_readWeekdays_27 : decode prog_6_method_8_code 27 = .ok (.ireturn, 1) := by decide +kernel
theorem dQ_readWeekdays_28 : decode prog_6_method_8_code 28 = .ok (.iinc 1 1, 3) := by decide +kernel
theorem dQ_readWeekdays_31 : decode prog_6_method_8_code 31 = .ok (.goto (-29), 3) := by decide +kernel
theorem dQ_readWeekdays_34 : decode prog_6_method_8_code 34 = .ok (.iconst 0, 1) := by decide +kernel
theorem dQ_readWeekdays_35 : decode prog_6_method_8_code 35 = .ok (.ireturn, 1) := by decide +kernel
theorem dR_hasNumbers_0 : decode prog_5_method_7_code 0 = .ok (.aload_n 0, 1) := by decide +kernel
theorem dR_hasNumbers_1 : decode prog_5_method_7_code 1 = .ok (.getfield 23, 3) := by decide +kernel
theorem dR_hasNumbers_4 : decode prog_5_method_7_code 4 = .ok (.aload_n 0, 1) := by decide +kernel
theorem dR_hasNumbers_5 : decode prog_5_method_7_code 5 = .ok (.getfield 20, 3) := by decide +kernel
theorem dR_hasNumbers_8 : decode prog_5_method_7_code 8 = .ok (.ior, 1) := by decide +kernel
theorem dR_hasNumbers_9 : decode prog_5_method_7_code 9 = .ok (.ifCond .eq 7, 3) := by decide +kernel
theorem dR_hasNumbers_12 : decode prog_5_method_7_code 12 = .ok (.iconst 1, 1) := by decide +kernel
theorem dR_hasNumbers_13 : decode prog_5_method_7_code 13 = .ok (.goto 4, 3) := by decide +kernel
theorem dR_hasNumbers_16 : decode prog_5_method_7_code 16 = .ok (.iconst 0, 1) := by decide +kernel
theorem dR_hasNumbers_17 : decode prog_5_method_7_code 17 = .ok (.ireturn, 1) := by decide +kernel
theorem dR_addNumber_0 : decode prog_5_method_2_code 0 = .ok (.iload_n 2, 1) := by decide +kernel
theorem dR_addNumber_1 : decode prog_5_method_2_code 1 = .ok (.ifCond .eq 18, 3) := by decide +kernel
theorem dR_addNumber_4 : decode prog_5_method_2_code 4 = .ok (.aload_n 0, 1) := by decide +kernel
theorem dR_addNumber_5 : decode prog_5_method_2_code 5 = .ok (.dup, 1) := by decide +kernel
theorem dR_addNumber_6 : decode prog_5_method_2_code 6 = .ok (.getfield 20, 3) := by decide +kernel
theorem dR_addNumber_9 : decode prog_5_method_2_code 9 = .ok (.iconst 1, 1) := by decide +kernel
theorem dR_addNumber_10 : decode prog_5_method_2_code 10 = .ok (.iload_n 1, 1) := by decide +kernel
theorem dR_addNumber_11 : decode prog_5_method_2_code 11 = .ok (.ishl, 1) := by decide +kernel
theorem dR_addNumber_12 : decode prog_5_method_2_code 12 = .ok (.ior, 1) := by decide +kernel
theorem dR_addNumber_13 : decode prog_5_method_2_code 13 = .ok (.putfield 20, 3) := by decide +kernel
theorem dR_addNumber_16 : decode prog_5_method_2_code 16 = .ok (.goto 15, 3) := by decide +kernel
theorem dR_addNumber_19 : decode prog_5_method_2_code 19 = .ok (.aload_n 0, 1) := by decide +kernel
theorem dR_addNumber_20 : decode prog_5_method_2_code 20 = .ok (.dup, 1) := by decide +kernel
theorem dR_addNumber_21 : decode prog_5_method_2_code 21 = .ok (.getfield 23, 3) := by decide +kernel
theorem dR_addNumber_24 : decode prog_5_method_2_code 24 = .ok (.iconst 1, 1) := by decide +kernel
theorem dR_addNumber_25 : decode prog_5_method_2_code 25 = .ok (.iload_n 1, 1) := by decide +kernel
theorem dR_addNumber_26 : decode prog_5_method_2_code 26 = .ok (.ishl, 1) := by decide +kernel
theorem dR_addNumber_27 : decode prog_5_method_2_code 27 = .ok (.ior, 1) := by decide +kernel
theorem dR_addNumber_28 : decode prog_5_method_2_code 28 = .ok (.putfield 23, 3) := by decide +kernel
theorem dR_addNumber_31 : decode prog_5_method_2_code 31 = .ok (.return_, 1) := by decide +kernel
theorem dQ_readNumbers_0 : decode prog_6_method_10_code 0 = .ok (.iconst 0, 1) := by decide +kernel
theorem dQ_readNumbers_1 : decode prog_6_method_10_code 1 = .ok (.istore_n 1, 1) := by decide +kernel
theorem dQ_readNumbers_2 : decode prog_6_method_10_code 2 = .ok (.iload_n 1, 1) := by decide +kernel
theorem dQ_readNumbers_3 : decode prog_6_method_10_code 3 = .ok (.bipush 8, 2) := by decide +kernel
theorem dQ_readNumbers_5 : decode prog_6_method_10_code 5 = .ok (.if_icmp .ge 50, 3) := by decide +kernel
theorem dQ_readNumbers_8 : decode prog_6_method_10_code 8 = .ok (.aload_n 0, 1) := by decide +kernel
theorem dQ_readNumbers_9 : decode prog_6_method_10_code 9 = .ok (.bipush 45, 2) := by decide +kernel
theorem dQ_readNumbers_11 : decode prog_6_method_10_code 11 = .ok (.invokevirtual 48, 3) := by decide +kernel
theorem dQ_readNumbers_14 : decode prog_6_method_10_code 14 = .ok (.istore_n 2, 1) := by decide +kernel
theorem dQ_readNumbers_15 : decode prog_6_method_10_code 15 = .ok (.aload_n 0, 1) := by decide +kernel
theorem dQ_readNumbers_16 : decode prog_6_method_10_code 16 = .ok (.iconst 2, 1) := by decide +kernel
theorem dQ_readNumbers_17 : decode prog_6_method_10_code 17 = .ok (.bipush 31, 2) := by decide +kernel
theorem dQ_readNumbers_19 : decode prog_6_method_10_code 19 = .ok (.invokevirtual 120, 3) := by decide +kernel
theorem dQ_readNumbers_22 : decode prog_6_method_10_code 22 = .ok (.istore_n 3, 1) := by decide +kernel
theorem dQ_readNumbers_23 : decode prog_6_method_10_code 23 = .ok (.iload_n 3, 1) := by decide +kernel
theorem dQ_readNumbers_24 : decode prog_6_method_10_code 24 = .ok (.ifCond .ne 5, 3) := by decide +kernel
theorem dQ_readNumbers_27 : decode prog_6_method_10_code 27 = .ok (.iconst 0, 1) := by decide +kernel
theorem dQ_readNumbers_28 : decode prog_6_method_10_code 28 = .ok (.ireturn, 1) := by decide +kernel
theorem dQ_readNumbers_29 : decode prog_6_method_10_code 29 = .ok (.aload_n 0, 1) := by decide +kernel
theorem dQ_readNumbers_30 : decode prog_6_method_10_code 30 = .ok (.getfield 25, 3) := by decide +kernel
theorem dQ_readNumbers_33 : decode prog_6_method_10_code 33 = .ok (.iload_n 3, 1) := by decide +kernel
theorem dQ_readNumbers_34 : decode prog_6_method_10_code 34 = .ok (.iload_n 2, 1) := by decide +kernel
theorem dQ_readNumbers_35 : decode prog_6_method_10_code 35 = .ok (.invokevirtual 148, 3) := by decide +kernel
theorem dQ_readNumbers_38 : decode prog_6_method_10_code 38 = .ok (.aload_n 0, 1) := by decide +kernel
theorem dQ_readNumbers_39 : decode prog_6_method_10_code 39 = .ok (.bipush 44, 2) := by decide +kernel
theorem dQ_readNumbers_41 : decode prog_6_method_10_code 41 = .ok (.invokevirtual 48, 3) := by decide +kernel
theorem dQ_readNumbers_44 : decode prog_6_method_10_code 44 = .ok (.ifCond .ne 5, 3) := by decide +kernel
theorem dQ_readNumbers_47 : decode prog_6_method_10_code 47 = .ok (.iconst 1, 1) := by decide +kernel
theorem dQ_readNumbers_48 : decode prog_6_method_10_code 48 = .ok (.ireturn, 1) := by decide +kernel
theorem dQ_readNumbers_49 : decode prog_6_method_10_code 49 = .ok (.iinc 1 1, 3) := by decide +kernel
theorem dQ_readNumbers_52 : decode prog_6_method_10_code 52 = .ok (.goto (-50), 3) := by decide +kernel
theorem dQ_readNumbers_55 : decode prog_6_method_10_code 55 = .ok (.iconst 0, 1) := by decide +kernel
theorem dQ_readNumbers_56 : decode prog_6_method_10_code 56 = .ok (.ireturn, 1) := by decide +kernel
theorem dQ_readMonths_0 : decode prog_6_method_11_code 0 = .ok (.iconst 0, 1) := by decide +kernel
theorem dQ_readMonths_1 : decode prog_6_method_11_code 1 = .ok (.istore_n 1, 1) := by decide +kernel
theorem dQ_readMonths_2 : decode prog_6_method_11_code 2 = .ok (.iload_n 1, 1) := by decide +kernel
theorem dQ_readMonths_3 : decode prog_6_method_11_code 3 = .ok (.bipush 8, 2) := by decide +kernel
theorem dQ_readMonths_5 : decode prog_6_method_11_code 5 = .ok (.if_icmp .ge 49, 3) := by decide +kernel
theorem dQ_readMonths_8 : decode prog_6_method_11_code 8 = .ok (.aload_n 0, 1) := by decide +kernel
theorem dQ_readMonths_9 : decode prog_6_method_11_code 9 = .ok (.iconst 2, 1) := by decide +kernel
theorem dQ_readMonths_10 : decode prog_6_method_11_code 10 = .ok (.bipush 12, 2) := by decide +kernel
theorem dQ_readMonths_12 : decode prog_6_method_11_code 12 = .ok (.invokevirtual 120, 3) := by decide +kernel
theorem dQ_readMonths_15 : decode prog_6_method_11_code 15 = .ok (.istore_n 2, 1) := by decide +kernel
theorem dQ_readMonths_16 : decode prog_6_method_11_code 16 = .ok (.iload_n 2, 1) := by decide +kernel
theorem dQ_readMonths_17 : decode prog_6_method_11_code 17 = .ok (.ifCond .ne 5, 3) := by decide +kernel
theorem dQ_readMonths_20 : decode prog_6_method_11_code 20 = .ok (.iconst 0, 1) := by decide +kernel
theorem dQ_readMonths_21 : decode prog_6_method_11_code 21 = .ok (.ireturn, 1) := by decide +kernel
theorem dQ_readMonths_22 : decode prog_6_method_11_code 22 = .ok (.aload_n 0, 1) := by decide +kernel
theorem dQ_readMonths_23 : decode prog_6_method_11_code 23 = .ok (.getfield 25, 3) := by decide +kernel
theorem dQ_readMonths_26 : decode prog_6_method_11_code 26 = .ok (.dup, 1) := by decide +kernel
theorem dQ_readMonths_27 : decode prog_6_method_11_code 27 = .ok (.getfield 101, 3) := by decide +kernel
theorem dQ_readMonths_30 : decode prog_6_method_11_code 30 = .ok (.iconst 1, 1) := by decide +kernel
theorem dQ_readMonths_31 : decode prog_6_method_11_code 31 = .ok (.iload_n 2, 1) := by decide +kernel
theorem dQ_readMonths_32 : decode prog_6_method_11_code 32 = .ok (.ishl, 1) := by decide +kernel
theorem dQ_readMonths_33 : decode prog_6_method_11_code 33 = .ok (.ior, 1) := by decide +kernel
theorem dQ_readMonths_34 : decode prog_6_method_11_code 34 = .ok (.putfield 101, 3) := by decide +kernel
theorem dQ_readMonths_37 : decode prog_6_method_11_code 37 = .ok (.aload_n 0, 1) := by decide +kernel
theorem dQ_readMonths_38 : decode prog_6_method_11_code 38 = .ok (.bipush 44, 2) := by decide +kernel
theorem dQ_readMonths_40 : decode prog_6_method_11_code 40 = .ok (.invokevirtual 48, 3) := by decide +kernel
theorem dQ_readMonths_43 : decode prog_6_method_11_code 43 = .ok (.ifCond .ne 5, 3) := by decide +kernel
theorem dQ_readMonths_46 : decode prog_6_method_11_code 46 = .ok (.iconst 1, 1) := by decide +kernel
theorem dQ_readMonths_47 : decode prog_6_method_11_code 47 = .ok (.ireturn, 1) := by decide +kernel
theorem dQ_readMonths_48 : decode prog_6_method_11_code 48 = .ok (.iinc 1 1, 3) := by decide +kernel
theorem dQ_readMonths_51 : decode prog_6_method_11_code 51 = .ok (.goto (-49), 3) := by decide +kernel
theorem dQ_readMonths_54 : decode prog_6_method_11_code 54 = .ok (.iconst 0, 1) := by decide +kernel
theorem dQ_readMonths_55 : decode prog_6_method_11_code 55 = .ok (.ireturn, 1) := by decide +kernel
theorem dQ_readPart_0 : decode prog_6_method_3_code 0 = .ok (.aload_n 0, 1) := by decide +kernel
theorem dQ_readPart_1 : decode prog_6_method_3_code 1 = .ok (.ldc 52, 2) := by decide +kernel
theorem dQ_readPart_3 : decode prog_6_method_3_code 3 = .ok (.invokevirtual 54, 3) := by decide +kernel
theorem dQ_readPart_6 : decode prog_6_method_3_code 6 = .ok (.ifCond .eq 26, 3) := by decide +kernel
theorem dQ_readPart_9 : decode prog_6_method_3_code 9 = .ok (.aload_n 0, 1) := by decide +kernel
theorem dQ_readPart_10 : decode prog_6_method_3_code 10 = .ok (.getfield 25, 3) := by decide +kernel
theorem dQ_readPart_13 : decode prog_6_method_3_code 13 = .ok (.getfield 35, 3) := by decide +kernel
theorem dQ_readPart_16 : decode prog_6_method_3_code 16 = .ok (.ifnonnull 14, 3) := by decide +kernel
theorem dQ_readPart_19 : decode prog_6_method_3_code 19 = .ok (.aload_n 0, 1) := by decide +kernel
theorem dQ_readPart_20 : decode prog_6_method_3_code 20 = .ok (.invokevirtual 58, 3) := by decide +kernel
theorem dQ_readPart_23 : decode prog_6_method_3_code 23 = .ok (.ifCond .eq 7, 3) := by decide +kernel
theorem dQ_readPart_26 : decode prog_6_method_3_code 26 = .ok (.iconst 1, 1) := by decide +kernel
theorem dQ_readPart_27 : decode prog_6_method_3_code 27 = .ok (.goto 4, 3) := by decide +kernel
theorem dQ_readPart_30 : decode prog_6_method_3_code 30 = .ok (.iconst 0, 1) := by decide +kernel
theorem dQ_readPart_31 : decode prog_6_method_3_code 31 = .ok (.ireturn, 1) := by decide +kernel
theorem dQ_readPart_32 : decode prog_6_method_3_code 32 = .ok (.aload_n 0, 1) := by decide +kernel
theorem dQ_readPart_33 : decode prog_6_method_3_code 33 = .ok (.ldc 61, 2) := by decide +kernel
theorem dQ_readPart_35 : decode prog_6_method_3_code 35 = .ok (.invokevirtual 54, 3) := by decide +kernel
theorem dQ_readPart_38 : decode prog_6_method_3_code 38 = .ok (.ifCond .eq 26, 3) := by decide +kernel
theorem dQ_readPart_41 : decode prog_6_method_3_code 41 = .ok (.aload_n 0, 1) := by decide +kernel
theorem dQ_readPart_42 : decode prog_6_method_3_code 42 = .ok (.getfield 25, 3) := by decide +kernel
theorem dQ_readPart_45 : decode prog_6_method_3_code 45 = .ok (.getfield 63, 3) := by decide +kernel
theorem dQ_readPart_48 : decode prog_6_method_3_code 48 = .ok (.ifCond .ne 14, 3) := by decide +kernel
theorem dQ_readPart_51 : decode prog_6_method_3_code 51 = .ok (.aload_n 0, 1) := by decide +kernel
theorem dQ_readPart_52 : decode prog_6_method_3_code 52 = .ok (.invokevirtual 66, 3) := by decide +kernel
theorem dQ_readPart_55 : decode prog_6_method_3_code 55 = .ok (.ifCond .eq 7, 3) := by decide +kernel
theorem dQ_readPart_58 : decode prog_6_method_3_code 58 = .ok (.iconst 1, 1) := by decide +kernel
theorem dQ_readPart_59 : decode prog_6_method_3_code 59 = .ok (.goto 4, 3) := by decide +kernel
theorem dQ_readPart_62 : decode prog_6_method_3_code 62 = .ok (.iconst 0, 1) := by decide +kernel
theorem dQ_readPart_63 : decode prog_6_method_3_code 63 = .ok (.ireturn, 1) := by decide +kernel
theorem dQ_readPart_64 : decode prog_6_method_3_code 64 = .ok (.aload_n 0, 1) := by decide +kernel
theorem dQ_readPart_65 : decode prog_6_method_3_code 65 = .ok (.ldc 69, 2) := by decide +kernel
theorem dQ_readPart_67 : decode prog_6_method_3_code 67 = .ok (.invokevirtual 54, 3) := by decide +kernel
theorem dQ_readPart_70 : decode prog_6_method_3_code 70 = .ok (.ifCond .eq 26, 3) := by decide +kernel
theorem dQ_readPart_73 : decode prog_6_method_3_code 73 = .ok (.aload_n 0, 1) := by decide +kernel
theorem dQ_readPart_74 : decode prog_6_method_3_code 74 = .ok (.getfield 25, 3) := by decide +kernel
theorem dQ_readPart_77 : decode prog_6_method_3_code 77 = .ok (.getfield 38, 3) := by decide +kernel
theorem dQ_readPart_80 : decode prog_6_method_3_code 80 = .ok (.ifCond .ne 14, 3) := by decide +kernel
theorem dQ_readPart_83 : decode prog_6_method_3_code 83 = .ok (.aload_n 0, 1) := by decide +kernel
theorem dQ_readPart_84 : decode prog_6_method_3_code 84 = .ok (.invokevirtual 71, 3) := by decide +kernel
theorem dQ_readPart_87 : decode prog_6_method_3_code 87 = .ok (.ifCond .eq 7, 3) := by decide +kernel
theorem dQ_readPart_90 : decode prog_6_method_3_code 90 = .ok (.iconst 1, 1) := by decide +kernel
theorem dQ_readPart_91 : decode prog_6_method_3_code 91 = .ok (.goto 4, 3) := by decide +kernel
theorem dQ_readPart_94 : decode prog_6_method_3_code 94 = .ok (.iconst 0, 1) := by decide +kernel
theorem dQ_readPart_95 : decode prog_6_method_3_code 95 = .ok (.ireturn, 1) := by decide +kernel
theorem dQ_readPart_96 : decode prog_6_method_3_code 96 = .ok (.aload_n 0, 1) := by decide +kernel
theorem dQ_readPart_97 : decode prog_6_method_3_code 97 = .ok (.ldc 74, 2) := by decide +kernel
theorem dQ_readPart_99 : decode prog_6_method_3_code 99 = .ok (.invokevirtual 54, 3) := by decide +kernel
theorem dQ_readPart_102 : decode prog_6_method_3_code 102 = .ok (.ifCond .eq 26, 3) := by decide +kernel
theorem dQ_readPart_105 : decode prog_6_method_3_code 105 = .ok (.aload_n 0, 1) := by decide +kernel
theorem dQ_readPart_106 : decode prog_6_method_3_code 106 = .ok (.getfield 25, 3) := by decide +kernel
theorem dQ_readPart_109 : decode prog_6_method_3_code 109 = .ok (.getfield 76, 3) := by decide +kernel
theorem dQ_readPart_112 : decode prog_6_method_3_code 112 = .ok (.ifCond .ne 14, 3) := by decide +kernel
theorem dQ_readPart_115 : decode prog_6_method_3_code 115 = .ok (.aload_n 0, 1) := by decide +kernel
theorem dQ_readPart_116 : decode prog_6_method_3_code 116 = .ok (.invokevirtual 80, 3) := by decide +kernel
theorem dQ_readPart_119 : decode prog_6_method_3_code 119 = .ok (.ifCond .eq 7, 3) := by decide +kernel
theorem dQ_readPart_122 : decode prog_6_method_3_code 122 = .ok (.iconst 1, 1) := by decide +kernel
theorem dQ_readPart_123 : decode prog_6_method_3_code 123 = .ok (.goto 4, 3) := by decide +kernel
theorem dQ_readPart_126 : decode prog_6_method_3_code 126 = .ok (.iconst 0, 1) := by decide +kernel
theorem dQ_readPart_127 : decode prog_6_method_3_code 127 = .ok (.ireturn, 1) := by decide +kernel
theorem dQ_readPart_128 : decode prog_6_method_3_code 128 = .ok (.aload_n 0, 1) := by decide +kernel
theorem dQ_readPart_129 : decode prog_6_method_3_code 129 = .ok (.ldc 83, 2) := by decide +kernel
theorem dQ_readPart_131 : decode prog_6_method_3_code 131 = .ok (.invokevirtual 54, 3) := by decide +kernel
theorem dQ_readPart_134 : decode prog_6_method_3_code 134 = .ok (.ifCond .eq 26, 3) := by decide +kernel
theorem dQ_readPart_137 : decode prog_6_method_3_code 137 = .ok (.aload_n 0, 1) := by decide +kernel
theorem dQ_readPart_138 : decode prog_6_method_3_code 138 = .ok (.getfield 25, 3) := by decide +kernel
theorem dQ_readPart_141 : decode prog_6_method_3_code 141 = .ok (.invokevirtual 85, 3) := by decide +kernel
theorem dQ_readPart_144 : decode prog_6_method_3_code 144 = .ok (.ifCond .ne 14, 3) := by decide +kernel
theorem dQ_readPart_147 : decode prog_6_method_3_code 147 = .ok (.aload_n 0, 1) := by decide +kernel
theorem dQ_readPart_148 : decode prog_6_method_3_code 148 = .ok (.invokevirtual 88, 3) := by decide +kernel
theorem dQ_readPart_151 : decode prog_6_method_3_code 151 = .ok (.ifCond .eq 7, 3) := by decide +kernel
theorem dQ_readPart_154 : decode prog_6_method_3_code 154 = .ok (.iconst 1, 1) := by decide +kernel
theorem dQ_readPart_155 : decode prog_6_method_3_code 155 = .ok (.goto 4, 3) := by decide +kernel
theorem dQ_readPart_158 : decode prog_6_method_3_code 158 = .ok (.iconst 0, 1) := by decide +kernel
theorem dQ_readPart_159 : decode prog_6_method_3_code 159 = .ok (.ireturn, 1) := by decide +kernel
theorem dQ_readPart_160 : decode prog_6_method_3_code 160 = .ok (.aload_n 0, 1) := by decide +kernel
theorem dQ_readPart_161 : decode prog_6_method_3_code 161 = .ok (.ldc 91, 2) := by decide +kernel
theorem dQ_readPart_163 : decode prog_6_method_3_code 163 = .ok (.invokevirtual 54, 3) := by decide +kernel
theorem dQ_readPart_166 : decode prog_6_method_3_code 166 = .ok (.ifCond .eq 26, 3) := by decide +kernel
theorem dQ_readPart_169 : decode prog_6_method_3_code 169 = .ok (.aload_n 0, 1) := by decide +kernel
theorem dQ_readPart_170 : decode prog_6_method_3_code 170 = .ok (.getfield 25, 3) := by decide +kernel
theorem dQ_readPart_173 : decode prog_6_method_3_code 173 = .ok (.invokevirtual 93, 3) := by decide +kernel
theorem dQ_readPart_176 : decode prog_6_method_3_code 176 = .ok (.ifCond .ne 14, 3) := by decide +kernel
theorem dQ_readPart_179 : decode prog_6_method_3_code 179 = .ok (.aload_n 0, 1) := by decide +kernel
theorem dQ_readPart_180 : decode prog_6_method_3_code 180 = .ok (.invokevirtual 96, 3) := by decide +kernel
theorem dQ_readPart_183 : decode prog_6_method_3_code 183 = .ok (.ifCond .eq 7, 3) := by decide +kernel
theorem dQ_readPart_186 : decode prog_6_method_3_code 186 = .ok (.iconst 1, 1) := by decide +kernel
theorem dQ_readPart_187 : decode prog_6_method_3_code 187 = .ok (.goto 4, 3) := by decide +kernel
theorem dQ_readPart_190 : decode prog_6_method_3_code 190 = .ok (.iconst 0, 1) := by decide +kernel
theorem dQ_readPart_191 : decode prog_6_method_3_code 191 = .ok (.ireturn, 1) := by decide +kernel
theorem dQ_readPart_192 : decode prog_6_method_3_code 192 = .ok (.aload_n 0, 1) := by decide +kernel
theorem dQ_readPart_193 : decode prog_6_method_3_code 193 = .ok (.ldc 99, 2) := by decide +kernel
theorem dQ_readPart_195 : decode prog_6_method_3_code 195 = .ok (.invokevirtual 54, 3) := by decide +kernel
theorem dQ_readPart_198 : decode prog_6_method_3_code 198 = .ok (.ifCond .eq 24, 3) := by decide +kernel
theorem dQ_readPart_201 : decode prog_6_method_3_code 201 = .ok (.aload_n 0, 1) := by decide +kernel
theorem dQ_readPart_202 : decode prog_6_method_3_code 202 = .ok (.getfield 25, 3) := by decide +kernel
theorem dQ_readPart_205 : decode prog_6_method_3_code 205 = .ok (.getfield 101, 3) := by decide +kernel
theorem dQ_readPart_208 : decode prog_6_method_3_code 208 = .ok (.ifCond .ne 14, 3) := by decide +kernel
theorem dQ_readPart_211 : decode prog_6_method_3_code 211 = .ok (.aload_n 0, 1) := by decide +kernel
theorem dQ_readPart_212 : decode prog_6_method_3_code 212 = .ok (.invokevirtual 104, 3) := by decide +kernel
theorem dQ_readPart_215 : decode prog_6_method_3_code 215 = .ok (.ifCond .eq 7, 3) := by decide +kernel
theorem dQ_readPart_218 : decode prog_6_method_3_code 218 = .ok (.iconst 1, 1) := by decide +kernel
theorem dQ_readPart_219 : decode prog_6_method_3_code 219 = .ok (.goto 4, 3) := by decide +kernel
theorem dQ_readPart_222 : decode prog_6_method_3_code 222 = .ok (.iconst 0, 1) := by decide +kernel
theorem dQ_readPart_223 : decode prog_6_method_3_code 223 = .ok (.ireturn, 1) := by decide +kernel
theorem dR_hasNthWeekdays_0 : decode prog_5_method_5_code 0 = .ok (.aload_n 0, 1) := by decide +kernel
theorem dR_hasNthWeekdays_1 : decode prog_5_method_5_code 1 = .ok (.getfield 37, 3) := by decide +kernel
theorem dR_hasNthWeekdays_4 : decode prog_5_method_5_code 4 = .ok (.aload_n 0, 1) := by decide +kernel
theorem dR_hasNthWeekdays_5 : decode prog_5_method_5_code 5 = .ok (.getfield 29, 3) := by decide +kernel
theorem dR_hasNthWeekdays_8 : decode prog_5_method_5_code 8 = .ok (.lor, 1) := by decide +kernel
theorem dR_hasNthWeekdays_9 : decode prog_5_method_5_code 9 = .ok (.lconst 0, 1) := by decide +kernel
theorem dR_hasNthWeekdays_10 : decode prog_5_method_5_code 10 = .ok (.lcmp, 1) := by decide +kernel
theorem dR_hasNthWeekdays_11 : decode prog_5_method_5_code 11 = .ok (.ifCond .eq 7, 3) := by decide +kernel
theorem dR_hasNthWeekdays_14 : decode prog_5_method_5_code 14 = .ok (.iconst 1, 1) := by decide +kernel
theorem dR_hasNthWeekdays_15 : decode prog_5_method_5_code 15 = .ok (.goto 4, 3) := by decide +kernel
theorem dR_hasNthWeekdays_18 : decode prog_5_method_5_code 18 = .ok (.iconst 0, 1) := by decide +kernel
theorem dR_hasNthWeekdays_19 : decode prog_5_method_5_code 19 = .ok (.ireturn, 1) := by decide +kernel
theorem dR_isAllowed_0 : decode prog_5_method_11_code 0 = .ok (.aload_n 0, 1) := by decide +kernel
theorem dR_isAllowed_1 : decode prog_5_method_11_code 1 = .ok (.getfield 9, 3) := by decide +kernel
theorem dR_isAllowed_4 : decode prog_5_method_11_code 4 = .ok (.ifnull 17, 3) := by decide +kernel
theorem dR_isAllowed_7 : decode prog_5_method_11_code 7 = .ok (.aload_n 0, 1) := by decide +kernel
theorem dR_isAllowed_8 : decode prog_5_method_11_code 8 = .ok (.getfield 50, 3) := by decide +kernel
theorem dR_isAllowed_11 : decode prog_5_method_11_code 11 = .ok (.ifCond .eq 12, 3) := by decide +kernel
theorem dR_isAllowed_14 : decode prog_5_method_11_code 14 = .ok (.aload_n 0, 1) := by decide +kernel
theorem dR_isAllowed_15 : decode prog_5_method_11_code 15 = .ok (.getfield 53, 3) := by decide +kernel
theorem dR_isAllowed_18 : decode prog_5_method_11_code 18 = .ok (.ifCond .eq 5, 3) := by decide +kernel
theorem dR_isAllowed_21 : decode prog_5_method_11_code 21 = .ok (.iconst 0, 1) := by decide +kernel
theorem dR_isAllowed_22 : decode prog_5_method_11_code 22 = .ok (.ireturn, 1) := by decide +kernel
theorem dR_isAllowed_23 : decode prog_5_method_11_code 23 = .ok (.aload_n 0, 1) := by decide +kernel
theorem dR_isAllowed_24 : decode prog_5_method_11_code 24 = .ok (.getfield 9, 3) := by decide +kernel
theorem dR_isAllowed_27 : decode prog_5_method_11_code 27 = .ok (.getstatic 57, 3) := by decide +kernel
theorem dR_isAllowed_30 : decode prog_5_method_11_code 30 = .ok (.if_acmp .ne 12, 3) := by decide +kernel
theorem dR_isAllowed_33 : decode prog_5_method_11_code 33 = .ok (.aload_n 0, 1) := by decide +kernel
theorem dR_isAllowed_34 : decode prog_5_method_11_code 34 = .ok (.invokevirtual 43, 3) := by decide +kernel
theorem dR_isAllowed_37 : decode prog_5_method_11_code 37 = .ok (.ifCond .eq 5, 3) := by decide +kernel
theorem dR_isAllowed_40 : decode prog_5_method_11_code 40 = .ok (.iconst 0, 1) := by decide +kernel
theorem dR_isAllowed_41 : decode prog_5_method_11_code 41 = .ok (.ireturn, 1) := by decide +kernel
theorem dR_isAllowed_42 : decode prog_5_method_11_code 42 = .ok (.aload_n 0, 1) := by decide +kernel
theorem dR_isAllowed_43 : decode prog_5_method_11_code 43 = .ok (.getfield 9, 3) := by decide +kernel
theorem dR_isAllowed_46 : decode prog_5_method_11_code 46 = .ok (.getstatic 62, 3) := by decide +kernel
theorem dR_isAllowed_49 : decode prog_5_method_11_code 49 = .ok (.if_acmp .eq 13, 3) := by decide +kernel
theorem dR_isAllowed_52 : decode prog_5_method_11_code 52 = .ok (.aload_n 0, 1) := by decide +kernel
theorem dR_isAllowed_53 : decode prog_5_method_11_code 53 = .ok (.getfield 9, 3) := by decide +kernel
theorem dR_isAllowed_56 : decode prog_5_method_11_code 56 = .ok (.getstatic 65, 3) := by decide +kernel
theorem dR_isAllowed_59 : decode prog_5_method_11_code 59 = .ok (.if_acmp .ne 7, 3) := by decide +kernel
theorem dR_isAllowed_62 : decode prog_5_method_11_code 62 = .ok (.iconst 1, 1) := by decide +kernel
theorem dR_isAllowed_63 : decode prog_5_method_11_code 63 = .ok (.goto 4, 3) := by decide +kernel
theorem dR_isAllowed_66 : decode prog_5_method_11_code 66 = .ok (.iconst 0, 1) := by decide +kernel
theorem dR_isAllowed_67 : decode prog_5_method_11_code 67 = .ok (.istore_n 1, 1) := by decide +kernel
theorem dR_isAllowed_68 : decode prog_5_method_11_code 68 = .ok (.iload_n 1, 1) := by decide +kernel
theorem dR_isAllowed_69 : decode prog_5_method_11_code 69 = .ok (.ifCond .ne 10, 3) := by decide +kernel
theorem dR_isAllowed_72 : decode prog_5_method_11_code 72 = .ok (.aload_n 0, 1) := by decide +kernel
theorem dR_isAllowed_73 : decode prog_5_method_11_code 73 = .ok (.invokevirtual 68, 3) := by decide +kernel
theorem dR_isAllowed_76 : decode prog_5_method_11_code 76 = .ok (.ifCond .ne 7, 3) := by decide +kernel
theorem dR_isAllowed_79 : decode prog_5_method_11_code 79 = .ok (.iconst 1, 1) := by decide +kernel
theorem dR_isAllowed_80 : decode prog_5_method_11_code 80 = .ok (.goto 4, 3) := by decide +kernel
theorem dR_isAllowed_83 : decode prog_5_method_11_code 83 = .ok (.iconst 0, 1) := by decide +kernel
theorem dR_isAllowed_84 : decode prog_5_method_11_code 84 = .ok (.ireturn, 1) := by decide +kernel
