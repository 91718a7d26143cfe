/-! Decoded instructions. -/
theorem dU_addMonths_0 : decode prog_8_method_5_code 0 = .ok (.aload_n 0, 1) := by decide +kernel
theorem dU_addMonths_1 : decode prog_8_method_5_code 1 = .ok (.getfield 29, 3) := by decide +kernel
theorem dU_addMonths_4 : decode prog_8_method_5_code 4 = .ok (.istore_n 1, 1) := by decide +kernel
theorem dU_addMonths_5 : decode prog_8_method_5_code 5 = .ok (.iload_n 1, 1) := by decide +kernel
theorem dU_addMonths_6 : decode prog_8_method_5_code 6 = .ok (.sipush 1200, 3) := by decide +kernel
theorem dU_addMonths_9 : decode prog_8_method_5_code 9 = .ok (.if_icmp .ge 29, 3) := by decide +kernel
theorem dU_addMonths_12 : decode prog_8_method_5_code 12 = .ok (.aload_n 0, 1) := by decide +kernel
theorem dU_addMonths_13 : decode prog_8_method_5_code 13 = .ok (.getfield 65, 3) := by decide +kernel
theorem dU_addMonths_16 : decode prog_8_method_5_code 16 = .ok (.aload_n 0, 1) := by decide +kernel
theorem dU_addMonths_17 : decode prog_8_method_5_code 17 = .ok (.getfield 62, 3) := by decide +kernel
theorem dU_addMonths_20 : decode prog_8_method_5_code 20 = .ok (.if_icmp .ge 18, 3) := by decide +kernel
theorem dU_addMonths_23 : decode prog_8_method_5_code 23 = .ok (.aload_n 0, 1) := by decide +kernel
theorem dU_addMonths_24 : decode prog_8_method_5_code 24 = .ok (.iload_n 1, 1) := by decide +kernel
theorem dU_addMonths_25 : decode prog_8_method_5_code 25 = .ok (.invokevirtual 117, 3) := by decide +kernel
theorem dU_addMonths_28 : decode prog_8_method_5_code 28 = .ok (.iload_n 1, 1) := by decide +kernel
theorem dU_addMonths_29 : decode prog_8_method_5_code 29 = .ok (.aload_n 0, 1) := by decide +kernel
theorem dU_addMonths_30 : decode prog_8_method_5_code 30 = .ok (.getfield 55, 3) := by decide +kernel
theorem dU_addMonths_33 : decode prog_8_method_5_code 33 = .ok (.iadd, 1) := by decide +kernel
theorem dU_addMonths_34 : decode prog_8_method_5_code 34 = .ok (.istore_n 1, 1) := by decide +kernel
theorem dU_addMonths_35 : decode prog_8_method_5_code 35 = .ok (.goto (-30), 3) := by decide +kernel
theorem dU_addMonths_38 : decode prog_8_method_5_code 38 = .ok (.return_, 1) := by decide +kernel
theorem dU_addYears_0 : decode prog_8_method_6_code 0 = .ok (.aload_n 0, 1) := by decide +kernel
theorem dU_addYears_1 : decode prog_8_method_6_code 1 = .ok (.getfield 29, 3) := by decide +kernel
theorem dU_addYears_4 : decode prog_8_method_6_code 4 = .ok (.bipush 12, 2) := by decide +kernel
theorem dU_addYears_6 : decode prog_8_method_6_code 6 = .ok (.irem, 1) := by decide +kernel
theorem dU_addYears_7 : decode prog_8_method_6_code 7 = .ok (.istore_n 1, 1) := by decide +kernel
theorem dU_addYears_8 : decode prog_8_method_6_code 8 = .ok (.aload_n 0, 1) := by decide +kernel
theorem dU_addYears_9 : decode prog_8_method_6_code 9 = .ok (.getfield 29, 3) := by decide +kernel
theorem dU_addYears_12 : decode prog_8_method_6_code 12 = .ok (.iload_n 1, 1) := by decide +kernel
theorem dU_addYears_13 : decode prog_8_method_6_code 13 = .ok (.isub, 1) := by decide +kernel
theorem dU_addYears_14 : decode prog_8_method_6_code 14 = .ok (.istore_n 2, 1) := by decide +kernel
theorem dU_addYears_15 : decode prog_8_method_6_code 15 = .ok (.iload_n 2, 1) := by decide +kernel
theorem dU_addYears_16 : decode prog_8_method_6_code 16 = .ok (.sipush 1200, 3) := by decide +kernel
theorem dU_addYears_19 : decode prog_8_method_6_code 19 = .ok (.if_icmp .ge 63, 3) := by decide +kernel
theorem dU_addYears_22 : decode prog_8_method_6_code 22 = .ok (.aload_n 0, 1) := by decide +kernel
theorem dU_addYears_23 : decode prog_8_method_6_code 23 = .ok (.getfield 65, 3) := by decide +kernel
theorem dU_addYears_26 : decode prog_8_method_6_code 26 = .ok (.aload_n 0, 1) := by decide +kernel
theorem dU_addYears_27 : decode prog_8_method_6_code 27 = .ok (.getfield 62, 3) := by decide +kernel
theorem dU_addYears_30 : decode prog_8_method_6_code 30 = .ok (.if_icmp .ge 52, 3) := by decide +kernel
theorem dU_addYears_33 : decode prog_8_method_6_code 33 = .ok (.iconst 0, 1) := by decide +kernel
theorem dU_addYears_34 : decode prog_8_method_6_code 34 = .ok (.istore_n 3, 1) := by decide +kernel
theorem dU_addYears_35 : decode prog_8_method_6_code 35 = .ok (.iload_n 3, 1) := by decide +kernel
theorem dU_addYears_36 : decode prog_8_method_6_code 36 = .ok (.bipush 12, 2) := by decide +kernel
theorem dU_addYears_38 : decode prog_8_method_6_code 38 = .ok (.if_icmp .ge 31, 3) := by decide +kernel
theorem dU_addYears_41 : decode prog_8_method_6_code 41 = .ok (.aload_n 0, 1) := by decide +kernel
theorem dU_addYears_42 : decode prog_8_method_6_code 42 = .ok (.getfield 9, 3) := by decide +kernel
theorem dU_addYears_45 : decode prog_8_method_6_code 45 = .ok (.getfield 120, 3) := by decide +kernel
theorem dU_addYears_48 : decode prog_8_method_6_code 48 = .ok (.ifCond .ne 8, 3) := by decide +kernel
theorem dU_addYears_51 : decode prog_8_method_6_code 51 = .ok (.iload_n 3, 1) := by decide +kernel
theorem dU_addYears_52 : decode prog_8_method_6_code 52 = .ok (.iload_n 1, 1) := by decide +kernel
theorem dU_addYears_53 : decode prog_8_method_6_code 53 = .ok (.if_icmp .ne 10, 3) := by decide +kernel
theorem dU_addYears_56 : decode prog_8_method_6_code 56 = .ok (.aload_n 0, 1) := by decide +kernel
theorem dU_addYears_57 : decode prog_8_method_6_code 57 = .ok (.iload_n 2, 1) := by decide +kernel
theorem dU_addYears_58 : decode prog_8_method_6_code 58 = .ok (.iload_n 3, 1) := by decide +kernel
theorem dU_addYears_59 : decode prog_8_method_6_code 59 = .ok (.iadd, 1) := by decide +kernel
theorem dU_addYears_60 : decode prog_8_method_6_code 60 = .ok (.invokevirtual 117, 3) := by decide +kernel
theorem dU_addYears_63 : decode prog_8_method_6_code 63 = .ok (.iinc 3 1, 3) := by decide +kernel
theorem dU_addYears_66 : decode prog_8_method_6_code 66 = .ok (.goto (-31), 3) := by decide +kernel
theorem dU_addYears_69 : decode prog_8_method_6_code 69 = .ok (.iload_n 2, 1) := by decide +kernel
theorem dU_addYears_70 : decode prog_8_method_6_code 70 = .ok (.bipush 12, 2) := by decide +kernel
theorem dU_addYears_72 : decode prog_8_method_6_code 72 = .ok (.aload_n 0, 1) := by decide +kernel
theorem dU_addYears_73 : decode prog_8_method_6_code 73 = .ok (.getfield 55, 3) := by decide +kernel
theorem dU_addYears_76 : decode prog_8_method_6_code 76 = .ok (.imul, 1) := by decide +kernel
theorem dU_addYears_77 : decode prog_8_method_6_code 77 = .ok (.iadd, 1) := by decide +kernel
theorem dU_addYears_78 : decode prog_8_method_6_code 78 = .ok (.istore_n 2, 1) := by decide +kernel
theorem dU_addYears_79 : decode prog_8_method_6_code 79 = .ok (.goto (-64), 3) := by decide +kernel
theorem dU_addYears_82 : decode prog_8_method_6_code 82 = .ok (.return_, 1) := by decide +kernel
theorem dU_unfold_0 : decode prog_8_method_2_code 0 = .ok (.aload_n 0, 1) := by decide +kernel
theorem dU_unfold_1 : decode prog_8_method_2_code 1 = .ok (.aload_n 0, 1) := by decide +kernel
theorem dU_unfold_2 : decode prog_8_method_2_code 2 = .ok (.getfield 29, 3) := by decide +kernel
theorem dU_unfold_5 : decode prog_8_method_2_code 5 = .ok (.invokevirtual 66, 3) := by decide +kernel
theorem dU_unfold_8 : decode prog_8_method_2_code 8 = .ok (.aload_n 0, 1) := by decide +kernel
theorem dU_unfold_9 : decode prog_8_method_2_code 9 = .ok (.getfield 9, 3) := by decide +kernel
theorem dU_unfold_12 : decode prog_8_method_2_code 12 = .ok (.getfield 70, 3) := by decide +kernel
theorem dU_unfold_15 : decode prog_8_method_2_code 15 = .ok (.getstatic 74, 3) := by decide +kernel
theorem dU_unfold_18 : decode prog_8_method_2_code 18 = .ok (.if_acmp .ne 10, 3) := by decide +kernel
theorem dU_unfold_21 : decode prog_8_method_2_code 21 = .ok (.aload_n 0, 1) := by decide +kernel
theorem dU_unfold_22 : decode prog_8_method_2_code 22 = .ok (.invokevirtual 79, 3) := by decide +kernel
theorem dU_unfold_25 : decode prog_8_method_2_code 25 = .ok (.goto 47, 3) := by decide +kernel
theorem dU_unfold_28 : decode prog_8_method_2_code 28 = .ok (.aload_n 0, 1) := by decide +kernel
theorem dU_unfold_29 : decode prog_8_method_2_code 29 = .ok (.getfield 9, 3) := by decide +kernel
theorem dU_unfold_32 : decode prog_8_method_2_code 32 = .ok (.getfield 70, 3) := by decide +kernel
theorem dU_unfold_35 : decode prog_8_method_2_code 35 = .ok (.getstatic 82, 3) := by decide +kernel
theorem dU_unfold_38 : decode prog_8_method_2_code 38 = .ok (.if_acmp .ne 10, 3) := by decide +kernel
theorem dU_unfold_41 : decode prog_8_method_2_code 41 = .ok (.aload_n 0, 1) := by decide +kernel
theorem dU_unfold_42 : decode prog_8_method_2_code 42 = .ok (.invokevirtual 85, 3) := by decide +kernel
theorem dU_unfold_45 : decode prog_8_method_2_code 45 = .ok (.goto 27, 3) := by decide +kernel
theorem dU_unfold_48 : decode prog_8_method_2_code 48 = .ok (.aload_n 0, 1) := by decide +kernel
theorem dU_unfold_49 : decode prog_8_method_2_code 49 = .ok (.getfield 9, 3) := by decide +kernel
theorem dU_unfold_52 : decode prog_8_method_2_code 52 = .ok (.getfield 70, 3) := by decide +kernel
theorem dU_unfold_55 : decode prog_8_method_2_code 55 = .ok (.getstatic 88, 3) := by decide +kernel
theorem dU_unfold_58 : decode prog_8_method_2_code 58 = .ok (.if_acmp .ne 10, 3) := by decide +kernel
theorem dU_unfold_61 : decode prog_8_method_2_code 61 = .ok (.aload_n 0, 1) := by decide +kernel
theorem dU_unfold_62 : decode prog_8_method_2_code 62 = .ok (.invokevirtual 91, 3) := by decide +kernel
theorem dU_unfold_65 : decode prog_8_method_2_code 65 = .ok (.goto 7, 3) := by decide +kernel
theorem dU_unfold_68 : decode prog_8_method_2_code 68 = .ok (.aload_n 0, 1) := by decide +kernel
theorem dU_unfold_69 : decode prog_8_method_2_code 69 = .ok (.invokevirtual 94, 3) := by decide +kernel
theorem dU_unfold_72 : decode prog_8_method_2_code 72 = .ok (.aload_n 0, 1) := by decide +kernel
theorem dU_unfold_73 : decode prog_8_method_2_code 73 = .ok (.getfield 65, 3) := by decide +kernel
theorem dU_unfold_76 : decode prog_8_method_2_code 76 = .ok (.ireturn, 1) := by decide +kernel
theorem dE_begin_0 : decode prog_3_method_2_code 0 = .ok (.aload_n 0, 1) := by decide +kernel
theorem dE_begin_1 : decode prog_3_method_2_code 1 = .ok (.iload_n 1, 1) := by decide +kernel
theorem dE_begin_2 : decode prog_3_method_2_code 2 = .ok (.putfield 18, 3) := by decide +kernel
theorem dE_begin_5 : decode prog_3_method_2_code 5 = .ok (.aload_n 0, 1) := by decide +kernel
theorem dE_begin_6 : decode prog_3_method_2_code 6 = .ok (.iload_n 2, 1) := by decide +kernel
theorem dE_begin_7 : decode prog_3_method_2_code 7 = .ok (.putfield 22, 3) := by decide +kernel
theorem dE_begin_10 : decode prog_3_method_2_code 10 = .ok (.aload_n 0, 1) := by decide +kernel
theorem dE_begin_11 : decode prog_3_method_2_code 11 = .ok (.iload_n 3, 1) := by decide +kernel
theorem dE_begin_12 : decode prog_3_method_2_code 12 = .ok (.putfield 25, 3) := by decide +kernel
theorem dE_begin_15 : decode prog_3_method_2_code 15 = .ok (.aload_n 0, 1) := by decide +kernel
theorem dE_begin_16 : decode prog_3_method_2_code 16 = .ok (.iconst 0, 1) := by decide +kernel
theorem dE_begin_17 : decode prog_3_method_2_code 17 = .ok (.putfield 28, 3) := by decide +kernel
theorem dE_begin_20 : decode prog_3_method_2_code 20 = .ok (.return_, 1) := by decide +kernel
theorem dB_event_0 : decode prog_1_method_4_code 0 = .ok (.aload_n 0, 1) := by decide +kernel
theorem dB_event_1 : decode prog_1_method_4_code 1 = .ok (.getfield 35, 3) := by decide +kernel
theorem dB_event_4 : decode prog_1_method_4_code 4 = .ok (.bipush 8, 2) := by decide +kernel
theorem dB_event_6 : decode prog_1_method_4_code 6 = .ok (.if_icmp .lt 13, 3) := by decide +kernel
theorem dB_event_9 : decode prog_1_method_4_code 9 = .ok (.new 71, 3) := by decide +kernel
theorem dB_event_12 : decode prog_1_method_4_code 12 = .ok (.dup, 1) := by decide +kernel
theorem dB_event_13 : decode prog_1_method_4_code 13 = .ok (.ldc 73, 2) := by decide +kernel
theorem dB_event_15 : decode prog_1_method_4_code 15 = .ok (.invokespecial 75, 3) := by decide +kernel
theorem dB_event_18 : decode prog_1_method_4_code 18 = .ok (.athrow, 1) := by decide +kernel
theorem dB_event_19 : decode prog_1_method_4_code 19 = .ok (.new 76, 3) := by decide +kernel
theorem dB_event_22 : decode prog_1_method_4_code 22 = .ok (.dup, 1) := by decide +kernel
theorem dB_event_23 : decode prog_1_method_4_code 23 = .ok (.aload_n 0, 1) := by decide +kernel
theorem dB_event_24 : decode prog_1_method_4_code 24 = .ok (.getfield 9, 3) := by decide +kernel
theorem dB_event_27 : decode prog_1_method_4_code 27 = .ok (.aload_n 0, 1) := by decide +kernel
theorem dB_event_28 : decode prog_1_method_4_code 28 = .ok (.getfield 13, 3) := by decide +kernel
theorem dB_event_31 : decode prog_1_method_4_code 31 = .ok (.invokespecial 78, 3) := by decide +kernel
theorem dB_event_34 : decode prog_1_method_4_code 34 = .ok (.astore 4, 2) := by decide +kernel
theorem dB_event_36 : decode prog_1_method_4_code 36 = .ok (.aload_n 0, 1) := by decide +kernel
theorem dB_event_37 : decode prog_1_method_4_code 37 = .ok (.iconst 0, 1) := by decide +kernel
theorem dB_event_38 : decode prog_1_method_4_code 38 = .ok (.putfield 13, 3) := by decide +kernel
theorem dB_event_41 : decode prog_1_method_4_code 41 = .ok (.iload_n 1, 1) := by decide +kernel
theorem dB_event_42 : decode prog_1_method_4_code 42 = .ok (.invokestatic 81, 3) := by decide +kernel
theorem dB_event_45 : decode prog_1_method_4_code 45 = .ok (.ifCond .eq 26, 3) := by decide +kernel
theorem dB_event_48 : decode prog_1_method_4_code 48 = .ok (.iload_n 2, 1) := by decide +kernel
theorem dB_event_49 : decode prog_1_method_4_code 49 = .ok (.ifCond .lt 22, 3) := by decide +kernel
theorem dB_event_52 : decode prog_1_method_4_code 52 = .ok (.iload_n 2, 1) := by decide +kernel
theorem dB_event_53 : decode prog_1_method_4_code 53 = .ok (.sipush 1440, 3) := by decide +kernel
theorem dB_event_56 : decode prog_1_method_4_code 56 = .ok (.if_icmp .ge 15, 3) := by decide +kernel
theorem dB_event_59 : decode prog_1_method_4_code 59 = .ok (.iload_n 3, 1) := by decide +kernel
theorem dB_event_60 : decode prog_1_method_4_code 60 = .ok (.iconst 1, 1) := by decide +kernel
theorem dB_event_61 : decode prog_1_method_4_code 61 = .ok (.if_icmp .lt 10, 3) := by decide +kernel
theorem dB_event_64 : decode prog_1_method_4_code 64 = .ok (.iload_n 3, 1) := by decide +kernel
theorem dB_event_65 : decode prog_1_method_4_code 65 = .ok (.sipush 2880, 3) := by decide +kernel
theorem dB_event_68 : decode prog_1_method_4_code 68 = .ok (.if_icmp .le 13, 3) := by decide +kernel
theorem dB_event_71 : decode prog_1_method_4_code 71 = .ok (.new 53, 3) := by decide +kernel
theorem dB_event_74 : decode prog_1_method_4_code 74 = .ok (.dup, 1) := by decide +kernel
theorem dB_event_75 : decode prog_1_method_4_code 75 = .ok (.ldc 84, 2) := by decide +kernel
theorem dB_event_77 : decode prog_1_method_4_code 77 = .ok (.invokespecial 57, 3) := by decide +kernel
theorem dB_event_80 : decode prog_1_method_4_code 80 = .ok (.athrow, 1) := by decide +kernel
theorem dB_event_81 : decode prog_1_method_4_code 81 = .ok (.aload 4, 2) := by decide +kernel
theorem dB_event_83 : decode prog_1_method_4_code 83 = .ok (.invokevirtual 86, 3) := by decide +kernel
theorem dB_event_86 : decode prog_1_method_4_code 86 = .ok (.ifCond .ne 13, 3) := by decide +kernel
theorem dB_event_89 : decode prog_1_method_4_code 89 = .ok (.new 53, 3) := by decide +kernel
theorem dB_event_92 : decode prog_1_method_4_code 92 = .ok (.dup, 1) := by decide +kernel
theorem dB_event_93 : decode prog_1_method_4_code 93 = .ok (.ldc 90, 2) := by decide +kernel
theorem dB_event_95 : decode prog_1_method_4_code 95 = .ok (.invokespecial 57, 3) := by decide +kernel
theorem dB_event_98 : decode prog_1_method_4_code 98 = .ok (.athrow, 1) := by decide +kernel
theorem dB_event_99 : decode prog_1_method_4_code 99 = .ok (.aload_n 0, 1) := by decide +kernel
theorem dB_event_100 : decode prog_1_method_4_code 100 = .ok (.getfield 30, 3) := by decide +kernel
theorem dB_event_103 : decode prog_1_method_4_code 103 = .ok (.aload_n 0, 1) := by decide +kernel
theorem dB_event_104 : decode prog_1_method_4_code 104 = .ok (.getfield 35, 3) := by decide +kernel
theorem dB_event_107 : decode prog_1_method_4_code 107 = .ok (.aaload, 1) := by decide +kernel
theorem dB_event_108 : decode prog_1_method_4_code 108 = .ok (.astore 5, 2) := by decide +kernel
theorem dB_event_110 : decode prog_1_method_4_code 110 = .ok (.aload 5, 2) := by decide +kernel
theorem dB_event_112 : decode prog_1_method_4_code 112 = .ok (.iload_n 2, 1) := by decide +kernel
theorem dB_event_113 : decode prog_1_method_4_code 113 = .ok (.iload_n 3, 1) := by decide +kernel
theorem dB_event_114 : decode prog_1_method_4_code 114 = .ok (.new 92, 3) := by decide +kernel
theorem dB_event_117 : decode prog_1_method_4_code 117 = .ok (.dup, 1) := by decide +kernel
theorem dB_event_118 : decode prog_1_method_4_code 118 = .ok (.aload 4, 2) := by decide +kernel
theorem dB_event_120 : decode prog_1_method_4_code 120 = .ok (.getfield 94, 3) := by decide +kernel
theorem dB_event_123 : decode prog_1_method_4_code 123 = .ok (.iload_n 1, 1) := by decide +kernel
theorem dB_event_124 : decode prog_1_method_4_code 124 = .ok (.aload 5, 2) := by decide +kernel
theorem dB_event_126 : decode prog_1_method_4_code 126 = .ok (.getfield 98, 3) := by decide +kernel
theorem dB_event_129 : decode prog_1_method_4_code 129 = .ok (.invokespecial 101, 3) := by decide +kernel
theorem dB_event_132 : decode prog_1_method_4_code 132 = .ok (.invokevirtual 104, 3) := by decide +kernel
theorem dB_event_135 : decode prog_1_method_4_code 135 = .ok (.invokevirtual 108, 3) := by decide +kernel
theorem dB_event_138 : decode prog_1_method_4_code 138 = .ok (.aload 5, 2) := by decide +kernel
theorem dB_event_140 : decode prog_1_method_4_code 140 = .ok (.aload_n 0, 1) := by decide +kernel
theorem dB_event_141 : decode prog_1_method_4_code 141 = .ok (.getfield 20, 3) := by decide +kernel
theorem dB_event_144 : decode prog_1_method_4_code 144 = .ok (.invokevirtual 67, 3) := by decide +kernel
theorem dB_event_147 : decode prog_1_method_4_code 147 = .ok (.aload_n 0, 1) := by decide +kernel
theorem dB_event_148 : decode prog_1_method_4_code 148 = .ok (.dup, 1) := by decide +kernel
theorem dB_event_149 : decode prog_1_method_4_code 149 = .ok (.getfield 35, 3) := by decide +kernel
theorem dB_event_152 : decode prog_1_method_4_code 152 = .ok (.iconst 1, 1) := by decide +kernel
theorem dB_event_153 : decode prog_1_method_4_code 153 = .ok (.iadd, 1) := by decide +kernel
theorem dB_event_154 : decode prog_1_method_4_code 154 = .ok (.putfield 35, 3) := by decide +kernel
theorem dB_event_157 : decode prog_1_method_4_code 157 = .ok (.aload_n 0, 1) := by decide +kernel
theorem dB_event_158 : decode prog_1_method_4_code 158 = .ok (.getfield 35, 3) := by decide +kernel
theorem dB_event_161 : decode prog_1_method_4_code 161 = .ok (.iconst 1, 1) := by decide +kernel
theorem dB_event_162 : decode prog_1_method_4_code 162 = .ok (.isub, 1) := by decide +kernel
theorem dB_event_163 : decode prog_1_method_4_code 163 = .ok (.ireturn, 1) := by decide +kernel
theorem dB_findEvent_0 : decode prog_1_method_14_code 0 = .ok (.iload_n 1, 1) := by decide +kernel
theorem dB_findEvent_1 : decode prog_1_method_14_code 1 = .ok (.ifCond .lt 11, 3) := by decide +kernel
theorem dB_findEvent_4 : decode prog_1_method_14_code 4 = .ok (.iload_n 1, 1) := by decide +kernel
theorem dB_findEvent_5 : decode prog_1_method_14_code 5 = .ok (.aload_n 0, 1) := by decide +kernel
theorem dB_findEvent_6 : decode prog_1_method_14_code 6 = .ok (.getfield 35, 3) := by decide +kernel
theorem dB_findEvent_9 : decode prog_1_method_14_code 9 = .ok (.if_icmp .lt 13, 3) := by decide +kernel
theorem dB_findEvent_12 : decode prog_1_method_14_code 12 = .ok (.new 163, 3) := by decide +kernel
theorem dB_findEvent_15 : decode prog_1_method_14_code 15 = .ok (.dup, 1) := by decide +kernel
theorem dB_findEvent_16 : decode prog_1_method_14_code 16 = .ok (.ldc 178, 2) := by decide +kernel
theorem dB_findEvent_18 : decode prog_1_method_14_code 18 = .ok (.invokespecial 167, 3) := by decide +kernel
theorem dB_findEvent_21 : decode prog_1_method_14_code 21 = .ok (.athrow, 1) := by decide +kernel
theorem dB_findEvent_22 : decode prog_1_method_14_code 22 = .ok (.aload_n 0, 1) := by decide +kernel
theorem dB_findEvent_23 : decode prog_1_method_14_code 23 = .ok (.getfield 30, 3) := by decide +kernel
theorem dB_findEvent_26 : decode prog_1_method_14_code 26 = .ok (.iload_n 1, 1) := by decide +kernel
theorem dB_findEvent_27 : decode prog_1_method_14_code 27 = .ok (.aaload, 1) := by decide +kernel
theorem dB_findEvent_28 : decode prog_1_method_14_code 28 = .ok (.areturn, 1) := by decide +kernel
theorem dE_leaveOut_0 : decode prog_3_method_3_code 0 = .ok (.iconst 0, 1) := by decide +kernel
theorem dE_leaveOut_1 : decode prog_3_method_3_code 1 = .ok (.istore_n 2, 1) := by decide +kernel
theorem dE_leaveOut_2 : decode prog_3_method_3_code 2 = .ok (.iload_n 2, 1) := by decide +kernel
theorem dE_leaveOut_3 : decode prog_3_method_3_code 3 = .ok (.aload_n 0, 1) := by decide +kernel
theorem dE_leaveOut_4 : decode prog_3_method_3_code 4 = .ok (.getfield 25, 3) := by decide +kernel
theorem dE_leaveOut_7 : decode prog_3_method_3_code 7 = .ok (.if_icmp .ge 19, 3) := by decide +kernel
theorem dE_leaveOut_10 : decode prog_3_method_3_code 10 = .ok (.aload_n 0, 1) := by decide +kernel
theorem dE_leaveOut_11 : decode prog_3_method_3_code 11 = .ok (.getfield 9, 3) := by decide +kernel
theorem dE_leaveOut_14 : decode prog_3_method_3_code 14 = .ok (.iload_n 2, 1) := by decide +kernel
theorem dE_leaveOut_15 : decode prog_3_method_3_code 15 = .ok (.iaload, 1) := by decide +kernel
theorem dE_leaveOut_16 : decode prog_3_method_3_code 16 = .ok (.iload_n 1, 1) := by decide +kernel
theorem dE_leaveOut_17 : decode prog_3_method_3_code 17 = .ok (.if_icmp .eq 9, 3) := by decide +kernel
theorem dE_leaveOut_20 : decode prog_3_method_3_code 20 = .ok (.iinc 2 1, 3) := by decide +kernel
theorem dE_leaveOut_23 : decode prog_3_method_3_code 23 = .ok (.goto (-21), 3) := by decide +kernel
theorem dE_leaveOut_26 : decode prog_3_method_3_code 26 = .ok (.iload_n 2, 1) := by decide +kernel
theorem dE_leaveOut_27 : decode prog_3_method_3_code 27 = .ok (.aload_n 0, 1) := by decide +kernel
theorem dE_leaveOut_28 : decode prog_3_method_3_code 28 = .ok (.getfield 25, 3) := by decide +kernel
theorem dE_leaveOut_31 : decode prog_3_method_3_code 31 = .ok (.if_icmp .ge 12, 3) := by decide +kernel
theorem dE_leaveOut_34 : decode prog_3_method_3_code 34 = .ok (.aload_n 0, 1) := by decide +kernel
theorem dE_leaveOut_35 : decode prog_3_method_3_code 35 = .ok (.getfield 28, 3) := by decide +kernel
theorem dE_leaveOut_38 : decode prog_3_method_3_code 38 = .ok (.bipush 12, 2) := by decide +kernel
theorem dE_leaveOut_40 : decode prog_3_method_3_code 40 = .ok (.if_icmp .lt 5, 3) := by decide +kernel
theorem dE_leaveOut_43 : decode prog_3_method_3_code 43 = .ok (.iconst 0, 1) := by decide +kernel
theorem dE_leaveOut_44 : decode prog_3_method_3_code 44 = .ok (.ireturn, 1) := by decide +kernel
theorem dE_leaveOut_45 : decode prog_3_method_3_code 45 = .ok (.iload_n 2, 1) := by decide +kernel
theorem dE_leaveOut_46 : decode prog_3_method_3_code 46 = .ok (.istore_n 3, 1) := by decide +kernel
theorem dE_leaveOut_47 : decode prog_3_method_3_code 47 = .ok (.iload_n 3, 1) := by decide +kernel
theorem dE_leaveOut_48 : decode prog_3_method_3_code 48 = .ok (.iconst 1, 1) := by decide +kernel
theorem dE_leaveOut_49 : decode prog_3_method_3_code 49 = .ok (.iadd, 1) := by decide +kernel
theorem dE_leaveOut_50 : decode prog_3_method_3_code 50 = .ok (.aload_n 0, 1) := by decide +kernel
theorem dE_leaveOut_51 : decode prog_3_method_3_code 51 = .ok (.getfield 25, 3) := by decide +kernel
theorem dE_leaveOut_54 : decode prog_3_method_3_code 54 = .ok (.if_icmp .ge 23, 3) := by decide +kernel
theorem dE_leaveOut_57 : decode prog_3_method_3_code 57 = .ok (.aload_n 0, 1) := by decide +kernel
theorem dE_leaveOut_58 : decode prog_3_method_3_code 58 = .ok (.getfield 9, 3) := by decide +kernel
theorem dE_leaveOut_61 : decode prog_3_method_3_code 61 = .ok (.iload_n 3, 1) := by decide +kernel
theorem dE_leaveOut_62 : decode prog_3_method_3_code 62 = .ok (.aload_n 0, 1) := by decide +kernel
theorem dE_leaveOut_63 : decode prog_3_method_3_code 63 = .ok (.getfield 9, 3) := by decide +kernel
theorem dE_leaveOut_66 : decode prog_3_method_3_code 66 = .ok (.iload_n 3, 1) := by decide +kernel
theorem dE_leaveOut_67 : decode prog_3_method_3_code 67 = .ok (.iconst 1, 1) := by decide +kernel
theorem dE_leaveOut_68 : decode prog_3_method_3_code 68 = .ok (.iadd, 1) := by decide +kernel
theorem dE_leaveOut_69 : decode prog_3_method_3_code 69 = .ok (.iaload, 1) := by decide +kernel
theorem dE_leaveOut_70 : decode prog_3_method_3_code 70 = .ok (.iastore, 1) := by decide +kernel
theorem dE_leaveOut_71 : decode prog_3_method_3_code 71 = .ok (.iinc 3 1, 3) := by decide +kernel
theorem dE_leaveOut_74 : decode prog_3_method_3_code 74 = .ok (.goto (-27), 3) := by decide +kernel
theorem dE_leaveOut_77 : decode prog_3_method_3_code 77 = .ok (.aload_n 0, 1) := by decide +kernel
theorem dE_leaveOut_78 : decode prog_3_method_3_code 78 = .ok (.dup, 1) := by decide +kernel
theorem dE_leaveOut_79 : decode prog_3_method_3_code 79 = .ok (.getfield 25, 3) := by decide +kernel
theorem dE_leaveOut_82 : decode prog_3_method_3_code 82 = .ok (.iconst 1, 1) := by decide +kernel
theorem dE_leaveOut_83 : decode prog_3_method_3_code 83 = .ok (.isub, 1) := by decide +kernel
theorem dE_leaveOut_84 : decode prog_3_method_3_code 84 = .ok (.putfield 25, 3) := by decide +kernel
theorem dE_leaveOut_87 : decode prog_3_method_3_code 87 = .ok (.aload_n 0, 1) := by decide +kernel
theorem dE_leaveOut_88 : decode prog_3_method_3_code 88 = .ok (.dup, 1) := by decide +kernel
theorem dE_leaveOut_89 : decode prog_3_method_3_code 89 = .ok (.getfield 28, 3) := by decide +kernel
theorem dE_leaveOut_92 : decode prog_3_method_3_code 92 = .ok (.iconst 1, 1) := by decide +kernel
theorem dE_leaveOut_93 : decode prog_3_method_3_code 93 = .ok (.iadd, 1) := by decide +kernel
theorem dE_leaveOut_94 : decode prog_3_method_3_code 94 = .ok (.putfield 28, 3) := by decide +kernel
theorem dE_leaveOut_97 : decode prog_3_method_3_code 97 = .ok (.iconst 1, 1) := by decide +kernel
theorem dE_leaveOut_98 : decode prog_3_method_3_code 98 = .ok (.ireturn, 1) := by decide +kernel
theorem dB_exclude_0 : decode prog_1_method_5_code 0 = .ok (.aload_n 0, 1) := by decide +kernel
theorem dB_exclude_1 : decode prog_1_method_5_code 1 = .ok (.iload_n 1, 1) := by decide +kernel
theorem dB_exclude_2 : decode prog_1_method_5_code 2 = .ok (.invokevirtual 112, 3) := by decide +kernel
theorem dB_exclude_5 : decode prog_1_method_5_code 5 = .ok (.astore_n 3, 1) := by decide +kernel
theorem dB_exclude_6 : decode prog_1_method_5_code 6 = .ok (.aload_n 3, 1) := by decide +kernel
theorem dB_exclude_7 : decode prog_1_method_5_code 7 = .ok (.iload_n 2, 1) := by decide +kernel
theorem dB_exclude_8 : decode prog_1_method_5_code 8 = .ok (.invokevirtual 116, 3) := by decide +kernel
theorem dB_exclude_11 : decode prog_1_method_5_code 11 = .ok (.ifCond .ne 5, 3) := by decide +kernel
theorem dB_exclude_14 : decode prog_1_method_5_code 14 = .ok (.iconst 0, 1) := by decide +kernel
theorem dB_exclude_15 : decode prog_1_method_5_code 15 = .ok (.ireturn, 1) := by decide +kernel
theorem dB_exclude_16 : decode prog_1_method_5_code 16 = .ok (.aload_n 3, 1) := by decide +kernel
theorem dB_exclude_17 : decode prog_1_method_5_code 17 = .ok (.aload_n 0, 1) := by decide +kernel
theorem dB_exclude_18 : decode prog_1_method_5_code 18 = .ok (.getfield 20, 3) := by decide +kernel
theorem dB_exclude_21 : decode prog_1_method_5_code 21 = .ok (.invokevirtual 67, 3) := by decide +kernel
theorem dB_exclude_24 : decode prog_1_method_5_code 24 = .ok (.iconst 1, 1) := by decide +kernel
theorem dB_exclude_25 : decode prog_1_method_5_code 25 = .ok (.ireturn, 1) := by decide +kernel
theorem dB_times_0 : decode prog_1_method_6_code 0 = .ok (.aload_n 0, 1) := by decide +kernel
theorem dB_times_1 : decode prog_1_method_6_code 1 = .ok (.iload_n 1, 1) := by decide +kernel
theorem dB_times_2 : decode prog_1_method_6_code 2 = .ok (.invokevirtual 112, 3) := by decide +kernel
theorem dB_times_5 : decode prog_1_method_6_code 5 = .ok (.getfield 119, 3) := by decide +kernel
theorem dB_times_8 : decode prog_1_method_6_code 8 = .ok (.ireturn, 1) := by decide +kernel
theorem dB_findTime_0 : decode prog_1_method_15_code 0 = .ok (.aload_n 0, 1) := by decide +kernel
theorem dB_findTime_1 : decode prog_1_method_15_code 1 = .ok (.iload_n 1, 1) := by decide +kernel
theorem dB_findTime_2 : decode prog_1_method_15_code 2 = .ok (.invokevirtual 112, 3) := by decide +kernel
theorem dB_findTime_5 : decode prog_1_method_15_code 5 = .ok (.astore_n 3, 1) := by decide +kernel
theorem dB_findTime_6 : decode prog_1_method_15_code 6 = .ok (.iload_n 2, 1) := by decide +kernel
theorem dB_findTime_7 : decode prog_1_method_15_code 7 = .ok (.ifCond .lt 11, 3) := by decide +kernel
theorem dB_findTime_10 : decode prog_1_method_15_code 10 = .ok (.iload_n 2, 1) := by decide +kernel
theorem dB_findTime_11 : decode prog_1_method_15_code 11 = .ok (.aload_n 3, 1) := by decide +kernel
theorem dB_findTime_12 : decode prog_1_method_15_code 12 = .ok (.getfield 119, 3) := by decide +kernel
theorem dB_findTime_15 : decode prog_1_method_15_code 15 = .ok (.if_icmp .lt 13, 3) := by decide +kernel
theorem dB_findTime_18 : decode prog_1_method_15_code 18 = .ok (.new 163, 3) := by decide +kernel
theorem dB_findTime_21 : decode prog_1_method_15_code 21 = .ok (.dup, 1) := by decide +kernel
theorem dB_findTime_22 : decode prog_1_method_15_code 22 = .ok (.ldc 180, 2) := by decide +kernel
theorem dB_findTime_24 : decode prog_1_method_15_code 24 = .ok (.invokespecial 167, 3) := by decide +kernel
theorem dB_findTime_27 : decode prog_1_method_15_code 27 = .ok (.athrow, 1) := by decide +kernel
theorem dB_findTime_28 : decode prog_1_method_15_code 28 = .ok (.aload_n 3, 1) := by decide +kernel
theorem dB_findTime_29 : decode prog_1_method_15_code 29 = .ok (.getfield 98, 3) := by decide +kernel
theorem dB_findTime_32 : decode prog_1_method_15_code 32 = .ok (.iload_n 2, 1) := by decide +kernel
theorem dB_findTime_33 : decode prog_1_method_15_code 33 = .ok (.iaload, 1) := by decide +kernel
theorem dB_findTime_34 : decode prog_1_method_15_code 34 = .ok (.ireturn, 1) := by decide +kernel
theorem dB_day_0 : decode prog_1_method_7_code 0 = .ok (.aload_n 0, 1) := by decide +kernel
theorem dB_day_1 : decode prog_1_method_7_code 1 = .ok (.iload_n 1, 1) := by decide +kernel
theorem dB_day_2 : decode prog_1_method_7_code 2 = .ok (.iload_n 2, 1) := by decide +kernel
theorem dB_day_3 : decode prog_1_method_7_code 3 = .ok (.invokevirtual 122, 3) := by decide +kernel
theorem dB_day_6 : decode prog_1_method_7_code 6 = .ok (.ireturn, 1) := by decide +kernel
theorem dB_moment_0 : decode prog_1_method_8_code 0 = .ok (.aload_n 0, 1) := by decide +kernel
theorem dB_moment_1 : decode prog_1_method_8_code 1 = .ok (.iload_n 1, 1) := by decide +kernel
theorem dB_moment_2 : decode prog_1_method_8_code 2 = .ok (.iload_n 2, 1) := by decide +kernel
theorem dB_moment_3 : decode prog_1_method_8_code 3 = .ok (.invokevirtual 122, 3) := by decide +kernel
theorem dB_moment_6 : decode prog_1_method_8_code 6 = .ok (.istore_n 3, 1) := by decide +kernel
theorem dB_moment_7 : decode prog_1_method_8_code 7 = .ok (.aload_n 0, 1) := by decide +kernel
theorem dB_moment_8 : decode prog_1_method_8_code 8 = .ok (.getfield 20, 3) := by decide +kernel
theorem dB_moment_11 : decode prog_1_method_8_code 11 = .ok (.sipush 1440, 3) := by decide +kernel
theorem dB_moment_14 : decode prog_1_method_8_code 14 = .ok (.iload_n 3, 1) := by decide +kernel
theorem dB_moment_15 : decode prog_1_method_8_code 15 = .ok (.imul, 1) := by decide +kernel
theorem dB_moment_16 : decode prog_1_method_8_code 16 = .ok (.aload_n 0, 1) := by decide +kernel
theorem dB_moment_17 : decode prog_1_method_8_code 17 = .ok (.iload_n 1, 1) := by decide +kernel
theorem dB_moment_18 : decode prog_1_method_8_code 18 = .ok (.invokevirtual 112, 3) := by decide +kernel
theorem dB_moment_21 : decode prog_1_method_8_code 21 = .ok (.getfield 126, 3) := by decide +kernel
theorem dB_moment_24 : decode prog_1_method_8_code 24 = .ok (.iadd, 1) := by decide +kernel
theorem dB_moment_25 : decode prog_1_method_8_code 25 = .ok (.invokevirtual 129, 3) := by decide +kernel
theorem dB_moment_28 : decode prog_1_method_8_code 28 = .ok (.ireturn, 1) := by decide +kernel
theorem dZ_offsetAt_0 : decode prog_9_method_4_code 0 = .ok (.aload_n 0, 1) := by decide +kernel
theorem dZ_offsetAt_1 : decode prog_9_method_4_code 1 = .ok (.iload_n 1, 1) := by decide +kernel
theorem dZ_offsetAt_2 : decode prog_9_method_4_code 2 = .ok (.invokevirtual 43, 3) := by decide +kernel
theorem dZ_offsetAt_5 : decode prog_9_method_4_code 5 = .ok (.ifCond .eq 10, 3) := by decide +kernel
theorem dZ_offsetAt_8 : decode prog_9_method_4_code 8 = .ok (.aload_n 0, 1) := by decide +kernel
theorem dZ_offsetAt_9 : decode prog_9_method_4_code 9 = .ok (.getfield 22, 3) := by decide +kernel
theorem dZ_offsetAt_12 : decode prog_9_method_4_code 12 = .ok (.goto 7, 3) := by decide +kernel
theorem dZ_offsetAt_15 : decode prog_9_method_4_code 15 = .ok (.aload_n 0, 1) := by decide +kernel
theorem dZ_offsetAt_16 : decode prog_9_method_4_code 16 = .ok (.getfield 18, 3) := by decide +kernel
theorem dZ_offsetAt_19 : decode prog_9_method_4_code 19 = .ok (.ireturn, 1) := by decide +kernel
theorem dB_local_0 : decode prog_1_method_9_code 0 = .ok (.iload_n 1, 1) := by decide +kernel
theorem dB_local_1 : decode prog_1_method_9_code 1 = .ok (.aload_n 0, 1) := by decide +kernel
theorem dB_local_2 : decode prog_1_method_9_code 2 = .ok (.getfield 20, 3) := by decide +kernel
theorem dB_local_5 : decode prog_1_method_9_code 5 = .ok (.iload_n 1, 1) := by decide +kernel
theorem dB_local_6 : decode prog_1_method_9_code 6 = .ok (.invokevirtual 133, 3) := by decide +kernel
theorem dB_local_9 : decode prog_1_method_9_code 9 = .ok (.iadd, 1) := by decide +kernel
theorem dB_local_10 : decode prog_1_method_9_code 10 = .ok (.ireturn, 1) := by decide +kernel
theorem dB_date_0 : decode prog_1_method_10_code 0 = .ok (.iload_n 1, 1) := by decide +kernel
theorem dB_date_1 : decode prog_1_method_10_code 1 = .ok (.iload_n 2, 1) := by decide +kernel
theorem dB_date_2 : decode prog_1_method_10_code 2 = .ok (.iload_n 3, 1) := by decide +kernel
theorem dB_date_3 : decode prog_1_method_10_code 3 = .ok (.invokestatic 136, 3) := by decide +kernel
theorem dB_date_6 : decode prog_1_method_10_code 6 = .ok (.ireturn, 1) := by decide +kernel
theorem dS_open_0 : decode prog_7_method_2_code 0 = .ok (.aload_n 0, 1) := by decide +kernel
theorem dS_open_1 : decode prog_7_method_2_code 1 = .ok (.iload_n 1, 1) := by decide +kernel
theorem dS_open_2 : decode prog_7_method_2_code 2 = .ok (.putfield 22, 3) := by decide +kernel
theorem dS_open_5 : decode prog_7_method_2_code 5 = .ok (.aload_n 0, 1) := by decide +kernel
theorem dS_open_6 : decode prog_7_method_2_code 6 = .ok (.iload_n 2, 1) := by decide +kernel
theorem dS_open_7 : decode prog_7_method_2_code 7 = .ok (.putfield 25, 3) := by decide +kernel
theorem dS_open_10 : decode prog_7_method_2_code 10 = .ok (.aload_n 0, 1) := by decide +kernel
theorem dS_open_11 : decode prog_7_method_2_code 11 = .ok (.iconst 0, 1) := by decide +kernel
theorem dS_open_12 : decode prog_7_method_2_code 12 = .ok (.putfield 18, 3) := by decide +kernel
theorem dS_open_15 : decode prog_7_method_2_code 15 = .ok (.return_, 1) := by decide +kernel
theorem dB_earliestHead_0 : decode prog_1_method_16_code 0 = .ok (.iconst (-1), 1) := by decide +kernel
theorem dB_earliestHead_1 : decode prog_1_method_16_code 1 = .ok (.istore_n 1, 1) := by decide +kernel
theorem dB_earliestHead_2 : decode prog_1_method_16_code 2 = .ok (.iconst 0, 1) := by decide +kernel
theorem dB_earliestHead_3 : decode prog_1_method_16_code 3 = .ok (.istore_n 2, 1) := by decide +kernel
theorem dB_earliestHead_4 : decode prog_1_method_16_code 4 = .ok (.iconst 0, 1) := by decide +kernel
theorem dB_earliestHead_5 : decode prog_1_method_16_code 5 = .ok (.istore_n 3, 1) := by decide +kernel
theorem dB_earliestHead_6 : decode prog_1_method_16_code 6 = .ok (.iload_n 3, 1) := by decide +kernel
theorem dB_earliestHead_7 : decode prog_1_method_16_code 7 = .ok (.aload_n 0, 1) := by decide +kernel
theorem dB_earliestHead_8 : decode prog_1_method_16_code 8 = .ok (.getfield 35, 3) := by decide +kernel
theorem dB_earliestHead_11 : decode prog_1_method_16_code 11 = .ok (.if_icmp .ge 60, 3) := by decide +kernel
theorem dB_earliestHead_14 : decode prog_1_method_16_code 14 = .ok (.aload_n 0, 1) := by decide +kernel
theorem dB_earliestHead_15 : decode prog_1_method_16_code 15 = .ok (.getfield 38, 3) := by decide +kernel
theorem dB_earliestHead_18 : decode prog_1_method_16_code 18 = .ok (.iload_n 3, 1) := by decide +kernel
theorem dB_earliestHead_19 : decode prog_1_method_16_code 19 = .ok (.iaload, 1) := by decide +kernel
theorem dB_earliestHead_20 : decode prog_1_method_16_code 20 = .ok (.aload_n 0, 1) := by decide +kernel
theorem dB_earliestHead_21 : decode prog_1_method_16_code 21 = .ok (.getfield 30, 3) := by decide +kernel
theorem dB_earliestHead_24 : decode prog_1_method_16_code 24 = .ok (.iload_n 3, 1) := by decide +kernel
theorem dB_earliestHead_25 : decode prog_1_method_16_code 25 = .ok (.aaload, 1) := by decide +kernel
theorem dB_earliestHead_26 : decode prog_1_method_16_code 26 = .ok (.getfield 119, 3) := by decide +kernel
theorem dB_earliestHead_29 : decode prog_1_method_16_code 29 = .ok (.if_icmp .ge 36, 3) := by decide +kernel
theorem dB_earliestHead_32 : decode prog_1_method_16_code 32 = .ok (.aload_n 0, 1) := by decide +kernel
theorem dB_earliestHead_33 : decode prog_1_method_16_code 33 = .ok (.getfield 30, 3) := by decide +kernel
theorem dB_earliestHead_36 : decode prog_1_method_16_code 36 = .ok (.iload_n 3, 1) := by decide +kernel
theorem dB_earliestHead_37 : decode prog_1_method_16_code 37 = .ok (.aaload, 1) := by decide +kernel
theorem dB_earliestHead_38 : decode prog_1_method_16_code 38 = .ok (.getfield 153, 3) := by decide +kernel
theorem dB_earliestHead_41 : decode prog_1_method_16_code 41 = .ok (.aload_n 0, 1) := by decide +kernel
theorem dB_earliestHead_42 : decode prog_1_method_16_code 42 = .ok (.getfield 38, 3) := by decide +kernel
theorem dB_earliestHead_45 : decode prog_1_method_16_code 45 = .ok (.iload_n 3, 1) := by decide +kernel
theorem dB_earliestHead_46 : decode prog_1_method_16_code 46 = .ok (.iaload, 1) := by decide +kernel
theorem dB_earliestHead_47 : decode prog_1_method_16_code 47 = .ok (.iaload, 1) := by decide +kernel
theorem dB_earliestHead_48 : decode prog_1_method_16_code 48 = .ok (.istore 4, 2) := by decide +kernel
theorem dB_earliestHead_50 : decode prog_1_method_16_code 50 = .ok (.iload_n 1, 1) := by decide +kernel
theorem dB_earliestHead_51 : decode prog_1_method_16_code 51 = .ok (.ifCond .lt 9, 3) := by decide +kernel
theorem dB_earliestHead_54 : decode prog_1_method_16_code 54 = .ok (.iload 4, 2) := by decide +kernel
theorem dB_earliestHead_56 : decode prog_1_method_16_code 56 = .ok (.iload_n 2, 1) := by decide +kernel
theorem dB_earliestHead_57 : decode prog_1_method_16_code 57 = .ok (.if_icmp .ge 8, 3) := by decide +kernel
theorem dB_earliestHead_60 : decode prog_1_method_16_code 60 = .ok (.iload_n 3, 1) := by decide +kernel
theorem dB_earliestHead_61 : decode prog_1_method_16_code 61 = .ok (.istore_n 1, 1) := by decide +kernel
theorem dB_earliestHead_62 : decode prog_1_method_16_code 62 = .ok (.iload 4, 2) := by decide +kernel
theorem dB_earliestHead_64 : decode prog_1_method_16_code 64 = .ok (.istore_n 2, 1) := by decide +kernel
theorem dB_earliestHead_65 : decode prog_1_method_16_code 65 = .ok (.iinc 3 1, 3) := by decide +kernel
theorem dB_earliestHead_68 : decode prog_1_method_16_code 68 = .ok (.goto (-62), 3) := by decide +kernel
theorem dB_earliestHead_71 : decode prog_1_method_16_code 71 = .ok (.iload_n 1, 1) := by decide +kernel
theorem dB_earliestHead_72 : decode prog_1_method_16_code 72 = .ok (.ireturn, 1) := by decide +kernel
