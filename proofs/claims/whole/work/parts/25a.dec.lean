/-! Decoded instructions. -/
theorem dS_add_0 : decode prog_7_method_3_code 0 = .ok (.iload_n 1, 1) := by decide +kernel
theorem dS_add_1 : decode prog_7_method_3_code 1 = .ok (.aload_n 0, 1) := by decide +kernel
theorem dS_add_2 : decode prog_7_method_3_code 2 = .ok (.getfield 22, 3) := by decide +kernel
theorem dS_add_5 : decode prog_7_method_3_code 5 = .ok (.invokestatic 28, 3) := by decide +kernel
theorem dS_add_8 : decode prog_7_method_3_code 8 = .ok (.istore_n 3, 1) := by decide +kernel
theorem dS_add_9 : decode prog_7_method_3_code 9 = .ok (.iload_n 2, 1) := by decide +kernel
theorem dS_add_10 : decode prog_7_method_3_code 10 = .ok (.aload_n 0, 1) := by decide +kernel
theorem dS_add_11 : decode prog_7_method_3_code 11 = .ok (.getfield 25, 3) := by decide +kernel
theorem dS_add_14 : decode prog_7_method_3_code 14 = .ok (.invokestatic 34, 3) := by decide +kernel
theorem dS_add_17 : decode prog_7_method_3_code 17 = .ok (.istore 4, 2) := by decide +kernel
theorem dS_add_19 : decode prog_7_method_3_code 19 = .ok (.iload_n 3, 1) := by decide +kernel
theorem dS_add_20 : decode prog_7_method_3_code 20 = .ok (.iload 4, 2) := by decide +kernel
theorem dS_add_22 : decode prog_7_method_3_code 22 = .ok (.if_icmp .lt 4, 3) := by decide +kernel
theorem dS_add_25 : decode prog_7_method_3_code 25 = .ok (.return_, 1) := by decide +kernel
theorem dS_add_26 : decode prog_7_method_3_code 26 = .ok (.aload_n 0, 1) := by decide +kernel
theorem dS_add_27 : decode prog_7_method_3_code 27 = .ok (.getfield 18, 3) := by decide +kernel
theorem dS_add_30 : decode prog_7_method_3_code 30 = .ok (.ifCond .le 48, 3) := by decide +kernel
theorem dS_add_33 : decode prog_7_method_3_code 33 = .ok (.iload_n 3, 1) := by decide +kernel
theorem dS_add_34 : decode prog_7_method_3_code 34 = .ok (.aload_n 0, 1) := by decide +kernel
theorem dS_add_35 : decode prog_7_method_3_code 35 = .ok (.getfield 15, 3) := by decide +kernel
theorem dS_add_38 : decode prog_7_method_3_code 38 = .ok (.aload_n 0, 1) := by decide +kernel
theorem dS_add_39 : decode prog_7_method_3_code 39 = .ok (.getfield 18, 3) := by decide +kernel
theorem dS_add_42 : decode prog_7_method_3_code 42 = .ok (.iconst 1, 1) := by decide +kernel
theorem dS_add_43 : decode prog_7_method_3_code 43 = .ok (.isub, 1) := by decide +kernel
theorem dS_add_44 : decode prog_7_method_3_code 44 = .ok (.iaload, 1) := by decide +kernel
theorem dS_add_45 : decode prog_7_method_3_code 45 = .ok (.if_icmp .gt 33, 3) := by decide +kernel
theorem dS_add_48 : decode prog_7_method_3_code 48 = .ok (.aload_n 0, 1) := by decide +kernel
theorem dS_add_49 : decode prog_7_method_3_code 49 = .ok (.getfield 15, 3) := by decide +kernel
theorem dS_add_52 : decode prog_7_method_3_code 52 = .ok (.aload_n 0, 1) := by decide +kernel
theorem dS_add_53 : decode prog_7_method_3_code 53 = .ok (.getfield 18, 3) := by decide +kernel
theorem dS_add_56 : decode prog_7_method_3_code 56 = .ok (.iconst 1, 1) := by decide +kernel
theorem dS_add_57 : decode prog_7_method_3_code 57 = .ok (.isub, 1) := by decide +kernel
theorem dS_add_58 : decode prog_7_method_3_code 58 = .ok (.aload_n 0, 1) := by decide +kernel
theorem dS_add_59 : decode prog_7_method_3_code 59 = .ok (.getfield 15, 3) := by decide +kernel
theorem dS_add_62 : decode prog_7_method_3_code 62 = .ok (.aload_n 0, 1) := by decide +kernel
theorem dS_add_63 : decode prog_7_method_3_code 63 = .ok (.getfield 18, 3) := by decide +kernel
theorem dS_add_66 : decode prog_7_method_3_code 66 = .ok (.iconst 1, 1) := by decide +kernel
theorem dS_add_67 : decode prog_7_method_3_code 67 = .ok (.isub, 1) := by decide +kernel
theorem dS_add_68 : decode prog_7_method_3_code 68 = .ok (.iaload, 1) := by decide +kernel
theorem dS_add_69 : decode prog_7_method_3_code 69 = .ok (.iload 4, 2) := by decide +kernel
theorem dS_add_71 : decode prog_7_method_3_code 71 = .ok (.invokestatic 28, 3) := by decide +kernel
theorem dS_add_74 : decode prog_7_method_3_code 74 = .ok (.iastore, 1) := by decide +kernel
theorem dS_add_75 : decode prog_7_method_3_code 75 = .ok (.goto 46, 3) := by decide +kernel
theorem dS_add_78 : decode prog_7_method_3_code 78 = .ok (.aload_n 0, 1) := by decide +kernel
theorem dS_add_79 : decode prog_7_method_3_code 79 = .ok (.getfield 18, 3) := by decide +kernel
theorem dS_add_82 : decode prog_7_method_3_code 82 = .ok (.aload_n 0, 1) := by decide +kernel
theorem dS_add_83 : decode prog_7_method_3_code 83 = .ok (.getfield 9, 3) := by decide +kernel
theorem dS_add_86 : decode prog_7_method_3_code 86 = .ok (.arraylength, 1) := by decide +kernel
theorem dS_add_87 : decode prog_7_method_3_code 87 = .ok (.if_icmp .ge 34, 3) := by decide +kernel
theorem dS_add_90 : decode prog_7_method_3_code 90 = .ok (.aload_n 0, 1) := by decide +kernel
theorem dS_add_91 : decode prog_7_method_3_code 91 = .ok (.getfield 9, 3) := by decide +kernel
theorem dS_add_94 : decode prog_7_method_3_code 94 = .ok (.aload_n 0, 1) := by decide +kernel
theorem dS_add_95 : decode prog_7_method_3_code 95 = .ok (.getfield 18, 3) := by decide +kernel
theorem dS_add_98 : decode prog_7_method_3_code 98 = .ok (.iload_n 3, 1) := by decide +kernel
theorem dS_add_99 : decode prog_7_method_3_code 99 = .ok (.iastore, 1) := by decide +kernel
theorem dS_add_100 : decode prog_7_method_3_code 100 = .ok (.aload_n 0, 1) := by decide +kernel
theorem dS_add_101 : decode prog_7_method_3_code 101 = .ok (.getfield 15, 3) := by decide +kernel
theorem dS_add_104 : decode prog_7_method_3_code 104 = .ok (.aload_n 0, 1) := by decide +kernel
theorem dS_add_105 : decode prog_7_method_3_code 105 = .ok (.getfield 18, 3) := by decide +kernel
theorem dS_add_108 : decode prog_7_method_3_code 108 = .ok (.iload 4, 2) := by decide +kernel
theorem dS_add_110 : decode prog_7_method_3_code 110 = .ok (.iastore, 1) := by decide +kernel
theorem dS_add_111 : decode prog_7_method_3_code 111 = .ok (.aload_n 0, 1) := by decide +kernel
theorem dS_add_112 : decode prog_7_method_3_code 112 = .ok (.dup, 1) := by decide +kernel
theorem dS_add_113 : decode prog_7_method_3_code 113 = .ok (.getfield 18, 3) := by decide +kernel
theorem dS_add_116 : decode prog_7_method_3_code 116 = .ok (.iconst 1, 1) := by decide +kernel
theorem dS_add_117 : decode prog_7_method_3_code 117 = .ok (.iadd, 1) := by decide +kernel
theorem dS_add_118 : decode prog_7_method_3_code 118 = .ok (.putfield 18, 3) := by decide +kernel
theorem dS_add_121 : decode prog_7_method_3_code 121 = .ok (.return_, 1) := by decide +kernel
theorem dB_busy_0 : decode prog_1_method_11_code 0 = .ok (.iload_n 2, 1) := by decide +kernel
theorem dB_busy_1 : decode prog_1_method_11_code 1 = .ok (.iload_n 1, 1) := by decide +kernel
theorem dB_busy_2 : decode prog_1_method_11_code 2 = .ok (.if_icmp .le 15, 3) := by decide +kernel
theorem dB_busy_5 : decode prog_1_method_11_code 5 = .ok (.iload_n 2, 1) := by decide +kernel
theorem dB_busy_6 : decode prog_1_method_11_code 6 = .ok (.i2l, 1) := by decide +kernel
theorem dB_busy_7 : decode prog_1_method_11_code 7 = .ok (.iload_n 1, 1) := by decide +kernel
theorem dB_busy_8 : decode prog_1_method_11_code 8 = .ok (.i2l, 1) := by decide +kernel
theorem dB_busy_9 : decode prog_1_method_11_code 9 = .ok (.lsub, 1) := by decide +kernel
theorem dB_busy_10 : decode prog_1_method_11_code 10 = .ok (.ldc2_w 142, 3) := by decide +kernel
theorem dB_busy_13 : decode prog_1_method_11_code 13 = .ok (.lcmp, 1) := by decide +kernel
theorem dB_busy_14 : decode prog_1_method_11_code 14 = .ok (.ifCond .le 13, 3) := by decide +kernel
theorem dB_busy_17 : decode prog_1_method_11_code 17 = .ok (.new 53, 3) := by decide +kernel
theorem dB_busy_20 : decode prog_1_method_11_code 20 = .ok (.dup, 1) := by decide +kernel
theorem dB_busy_21 : decode prog_1_method_11_code 21 = .ok (.ldc 144, 2) := by decide +kernel
theorem dB_busy_23 : decode prog_1_method_11_code 23 = .ok (.invokespecial 57, 3) := by decide +kernel
theorem dB_busy_26 : decode prog_1_method_11_code 26 = .ok (.athrow, 1) := by decide +kernel
theorem dB_busy_27 : decode prog_1_method_11_code 27 = .ok (.aload_n 0, 1) := by decide +kernel
theorem dB_busy_28 : decode prog_1_method_11_code 28 = .ok (.getfield 45, 3) := by decide +kernel
theorem dB_busy_31 : decode prog_1_method_11_code 31 = .ok (.iload_n 1, 1) := by decide +kernel
theorem dB_busy_32 : decode prog_1_method_11_code 32 = .ok (.iload_n 2, 1) := by decide +kernel
theorem dB_busy_33 : decode prog_1_method_11_code 33 = .ok (.invokevirtual 146, 3) := by decide +kernel
theorem dB_busy_36 : decode prog_1_method_11_code 36 = .ok (.iconst 0, 1) := by decide +kernel
theorem dB_busy_37 : decode prog_1_method_11_code 37 = .ok (.istore_n 3, 1) := by decide +kernel
theorem dB_busy_38 : decode prog_1_method_11_code 38 = .ok (.iload_n 3, 1) := by decide +kernel
theorem dB_busy_39 : decode prog_1_method_11_code 39 = .ok (.aload_n 0, 1) := by decide +kernel
theorem dB_busy_40 : decode prog_1_method_11_code 40 = .ok (.getfield 35, 3) := by decide +kernel
theorem dB_busy_43 : decode prog_1_method_11_code 43 = .ok (.if_icmp .ge 16, 3) := by decide +kernel
theorem dB_busy_46 : decode prog_1_method_11_code 46 = .ok (.aload_n 0, 1) := by decide +kernel
theorem dB_busy_47 : decode prog_1_method_11_code 47 = .ok (.getfield 38, 3) := by decide +kernel
theorem dB_busy_50 : decode prog_1_method_11_code 50 = .ok (.iload_n 3, 1) := by decide +kernel
theorem dB_busy_51 : decode prog_1_method_11_code 51 = .ok (.iconst 0, 1) := by decide +kernel
theorem dB_busy_52 : decode prog_1_method_11_code 52 = .ok (.iastore, 1) := by decide +kernel
theorem dB_busy_53 : decode prog_1_method_11_code 53 = .ok (.iinc 3 1, 3) := by decide +kernel
theorem dB_busy_56 : decode prog_1_method_11_code 56 = .ok (.goto (-18), 3) := by decide +kernel
theorem dB_busy_59 : decode prog_1_method_11_code 59 = .ok (.iconst 0, 1) := by decide +kernel
theorem dB_busy_60 : decode prog_1_method_11_code 60 = .ok (.istore_n 3, 1) := by decide +kernel
theorem dB_busy_61 : decode prog_1_method_11_code 61 = .ok (.iload_n 3, 1) := by decide +kernel
theorem dB_busy_62 : decode prog_1_method_11_code 62 = .ok (.sipush 1600, 3) := by decide +kernel
theorem dB_busy_65 : decode prog_1_method_11_code 65 = .ok (.if_icmp .ge 76, 3) := by decide +kernel
theorem dB_busy_68 : decode prog_1_method_11_code 68 = .ok (.aload_n 0, 1) := by decide +kernel
theorem dB_busy_69 : decode prog_1_method_11_code 69 = .ok (.invokevirtual 150, 3) := by decide +kernel
theorem dB_busy_72 : decode prog_1_method_11_code 72 = .ok (.istore 4, 2) := by decide +kernel
theorem dB_busy_74 : decode prog_1_method_11_code 74 = .ok (.iload 4, 2) := by decide +kernel
theorem dB_busy_76 : decode prog_1_method_11_code 76 = .ok (.ifCond .ge 6, 3) := by decide +kernel
theorem dB_busy_79 : decode prog_1_method_11_code 79 = .ok (.goto 62, 3) := by decide +kernel
theorem dB_busy_82 : decode prog_1_method_11_code 82 = .ok (.aload_n 0, 1) := by decide +kernel
theorem dB_busy_83 : decode prog_1_method_11_code 83 = .ok (.getfield 30, 3) := by decide +kernel
theorem dB_busy_86 : decode prog_1_method_11_code 86 = .ok (.iload 4, 2) := by decide +kernel
theorem dB_busy_88 : decode prog_1_method_11_code 88 = .ok (.aaload, 1) := by decide +kernel
theorem dB_busy_89 : decode prog_1_method_11_code 89 = .ok (.getfield 153, 3) := by decide +kernel
theorem dB_busy_92 : decode prog_1_method_11_code 92 = .ok (.aload_n 0, 1) := by decide +kernel
theorem dB_busy_93 : decode prog_1_method_11_code 93 = .ok (.getfield 38, 3) := by decide +kernel
theorem dB_busy_96 : decode prog_1_method_11_code 96 = .ok (.iload 4, 2) := by decide +kernel
theorem dB_busy_98 : decode prog_1_method_11_code 98 = .ok (.iaload, 1) := by decide +kernel
theorem dB_busy_99 : decode prog_1_method_11_code 99 = .ok (.iaload, 1) := by decide +kernel
theorem dB_busy_100 : decode prog_1_method_11_code 100 = .ok (.istore 5, 2) := by decide +kernel
theorem dB_busy_102 : decode prog_1_method_11_code 102 = .ok (.aload_n 0, 1) := by decide +kernel
theorem dB_busy_103 : decode prog_1_method_11_code 103 = .ok (.getfield 45, 3) := by decide +kernel
theorem dB_busy_106 : decode prog_1_method_11_code 106 = .ok (.iload 5, 2) := by decide +kernel
theorem dB_busy_108 : decode prog_1_method_11_code 108 = .ok (.iload 5, 2) := by decide +kernel
theorem dB_busy_110 : decode prog_1_method_11_code 110 = .ok (.aload_n 0, 1) := by decide +kernel
theorem dB_busy_111 : decode prog_1_method_11_code 111 = .ok (.getfield 30, 3) := by decide +kernel
theorem dB_busy_114 : decode prog_1_method_11_code 114 = .ok (.iload 4, 2) := by decide +kernel
theorem dB_busy_116 : decode prog_1_method_11_code 116 = .ok (.aaload, 1) := by decide +kernel
theorem dB_busy_117 : decode prog_1_method_11_code 117 = .ok (.getfield 156, 3) := by decide +kernel
theorem dB_busy_120 : decode prog_1_method_11_code 120 = .ok (.iadd, 1) := by decide +kernel
theorem dB_busy_121 : decode prog_1_method_11_code 121 = .ok (.invokevirtual 159, 3) := by decide +kernel
theorem dB_busy_124 : decode prog_1_method_11_code 124 = .ok (.aload_n 0, 1) := by decide +kernel
theorem dB_busy_125 : decode prog_1_method_11_code 125 = .ok (.getfield 38, 3) := by decide +kernel
theorem dB_busy_128 : decode prog_1_method_11_code 128 = .ok (.iload 4, 2) := by decide +kernel
theorem dB_busy_130 : decode prog_1_method_11_code 130 = .ok (.dup2, 1) := by decide +kernel
theorem dB_busy_131 : decode prog_1_method_11_code 131 = .ok (.iaload, 1) := by decide +kernel
theorem dB_busy_132 : decode prog_1_method_11_code 132 = .ok (.iconst 1, 1) := by decide +kernel
theorem dB_busy_133 : decode prog_1_method_11_code 133 = .ok (.iadd, 1) := by decide +kernel
theorem dB_busy_134 : decode prog_1_method_11_code 134 = .ok (.iastore, 1) := by decide +kernel
theorem dB_busy_135 : decode prog_1_method_11_code 135 = .ok (.iinc 3 1, 3) := by decide +kernel
theorem dB_busy_138 : decode prog_1_method_11_code 138 = .ok (.goto (-77), 3) := by decide +kernel
theorem dB_busy_141 : decode prog_1_method_11_code 141 = .ok (.aload_n 0, 1) := by decide +kernel
theorem dB_busy_142 : decode prog_1_method_11_code 142 = .ok (.getfield 45, 3) := by decide +kernel
theorem dB_busy_145 : decode prog_1_method_11_code 145 = .ok (.getfield 162, 3) := by decide +kernel
theorem dB_busy_148 : decode prog_1_method_11_code 148 = .ok (.ireturn, 1) := by decide +kernel
theorem dB_span_0 : decode prog_1_method_12_code 0 = .ok (.iload_n 1, 1) := by decide +kernel
theorem dB_span_1 : decode prog_1_method_12_code 1 = .ok (.ifCond .lt 14, 3) := by decide +kernel
theorem dB_span_4 : decode prog_1_method_12_code 4 = .ok (.iload_n 1, 1) := by decide +kernel
theorem dB_span_5 : decode prog_1_method_12_code 5 = .ok (.aload_n 0, 1) := by decide +kernel
theorem dB_span_6 : decode prog_1_method_12_code 6 = .ok (.getfield 45, 3) := by decide +kernel
theorem dB_span_9 : decode prog_1_method_12_code 9 = .ok (.getfield 162, 3) := by decide +kernel
theorem dB_span_12 : decode prog_1_method_12_code 12 = .ok (.if_icmp .lt 13, 3) := by decide +kernel
theorem dB_span_15 : decode prog_1_method_12_code 15 = .ok (.new 163, 3) := by decide +kernel
theorem dB_span_18 : decode prog_1_method_12_code 18 = .ok (.dup, 1) := by decide +kernel
theorem dB_span_19 : decode prog_1_method_12_code 19 = .ok (.ldc 165, 2) := by decide +kernel
theorem dB_span_21 : decode prog_1_method_12_code 21 = .ok (.invokespecial 167, 3) := by decide +kernel
theorem dB_span_24 : decode prog_1_method_12_code 24 = .ok (.athrow, 1) := by decide +kernel
theorem dB_span_25 : decode prog_1_method_12_code 25 = .ok (.iload_n 2, 1) := by decide +kernel
theorem dB_span_26 : decode prog_1_method_12_code 26 = .ok (.ifCond .eq 15, 3) := by decide +kernel
theorem dB_span_29 : decode prog_1_method_12_code 29 = .ok (.aload_n 0, 1) := by decide +kernel
theorem dB_span_30 : decode prog_1_method_12_code 30 = .ok (.getfield 45, 3) := by decide +kernel
theorem dB_span_33 : decode prog_1_method_12_code 33 = .ok (.getfield 168, 3) := by decide +kernel
theorem dB_span_36 : decode prog_1_method_12_code 36 = .ok (.iload_n 1, 1) := by decide +kernel
theorem dB_span_37 : decode prog_1_method_12_code 37 = .ok (.iaload, 1) := by decide +kernel
theorem dB_span_38 : decode prog_1_method_12_code 38 = .ok (.goto 12, 3) := by decide +kernel
theorem dB_span_41 : decode prog_1_method_12_code 41 = .ok (.aload_n 0, 1) := by decide +kernel
theorem dB_span_42 : decode prog_1_method_12_code 42 = .ok (.getfield 45, 3) := by decide +kernel
theorem dB_span_45 : decode prog_1_method_12_code 45 = .ok (.getfield 171, 3) := by decide +kernel
theorem dB_span_48 : decode prog_1_method_12_code 48 = .ok (.iload_n 1, 1) := by decide +kernel
theorem dB_span_49 : decode prog_1_method_12_code 49 = .ok (.iaload, 1) := by decide +kernel
theorem dB_span_50 : decode prog_1_method_12_code 50 = .ok (.ireturn, 1) := by decide +kernel
theorem dB_firstShared_0 : decode prog_1_method_17_code 0 = .ok (.iconst 0, 1) := by decide +kernel
theorem dB_firstShared_1 : decode prog_1_method_17_code 1 = .ok (.istore_n 2, 1) := by decide +kernel
theorem dB_firstShared_2 : decode prog_1_method_17_code 2 = .ok (.iconst 0, 1) := by decide +kernel
theorem dB_firstShared_3 : decode prog_1_method_17_code 3 = .ok (.istore_n 3, 1) := by decide +kernel
theorem dB_firstShared_4 : decode prog_1_method_17_code 4 = .ok (.iload_n 2, 1) := by decide +kernel
theorem dB_firstShared_5 : decode prog_1_method_17_code 5 = .ok (.aload_n 0, 1) := by decide +kernel
theorem dB_firstShared_6 : decode prog_1_method_17_code 6 = .ok (.getfield 119, 3) := by decide +kernel
theorem dB_firstShared_9 : decode prog_1_method_17_code 9 = .ok (.if_icmp .ge 74, 3) := by decide +kernel
theorem dB_firstShared_12 : decode prog_1_method_17_code 12 = .ok (.iload_n 3, 1) := by decide +kernel
theorem dB_firstShared_13 : decode prog_1_method_17_code 13 = .ok (.aload_n 1, 1) := by decide +kernel
theorem dB_firstShared_14 : decode prog_1_method_17_code 14 = .ok (.getfield 119, 3) := by decide +kernel
theorem dB_firstShared_17 : decode prog_1_method_17_code 17 = .ok (.if_icmp .ge 66, 3) := by decide +kernel
theorem dB_firstShared_20 : decode prog_1_method_17_code 20 = .ok (.aload_n 0, 1) := by decide +kernel
theorem dB_firstShared_21 : decode prog_1_method_17_code 21 = .ok (.getfield 153, 3) := by decide +kernel
theorem dB_firstShared_24 : decode prog_1_method_17_code 24 = .ok (.iload_n 2, 1) := by decide +kernel
theorem dB_firstShared_25 : decode prog_1_method_17_code 25 = .ok (.iaload, 1) := by decide +kernel
theorem dB_firstShared_26 : decode prog_1_method_17_code 26 = .ok (.istore 4, 2) := by decide +kernel
theorem dB_firstShared_28 : decode prog_1_method_17_code 28 = .ok (.aload_n 1, 1) := by decide +kernel
theorem dB_firstShared_29 : decode prog_1_method_17_code 29 = .ok (.getfield 153, 3) := by decide +kernel
theorem dB_firstShared_32 : decode prog_1_method_17_code 32 = .ok (.iload_n 3, 1) := by decide +kernel
theorem dB_firstShared_33 : decode prog_1_method_17_code 33 = .ok (.iaload, 1) := by decide +kernel
theorem dB_firstShared_34 : decode prog_1_method_17_code 34 = .ok (.istore 5, 2) := by decide +kernel
theorem dB_firstShared_36 : decode prog_1_method_17_code 36 = .ok (.iload 4, 2) := by decide +kernel
theorem dB_firstShared_38 : decode prog_1_method_17_code 38 = .ok (.aload_n 0, 1) := by decide +kernel
theorem dB_firstShared_39 : decode prog_1_method_17_code 39 = .ok (.getfield 156, 3) := by decide +kernel
theorem dB_firstShared_42 : decode prog_1_method_17_code 42 = .ok (.iadd, 1) := by decide +kernel
theorem dB_firstShared_43 : decode prog_1_method_17_code 43 = .ok (.iload 5, 2) := by decide +kernel
theorem dB_firstShared_45 : decode prog_1_method_17_code 45 = .ok (.if_icmp .gt 9, 3) := by decide +kernel
theorem dB_firstShared_48 : decode prog_1_method_17_code 48 = .ok (.iinc 2 1, 3) := by decide +kernel
theorem dB_firstShared_51 : decode prog_1_method_17_code 51 = .ok (.goto 29, 3) := by decide +kernel
theorem dB_firstShared_54 : decode prog_1_method_17_code 54 = .ok (.iload 5, 2) := by decide +kernel
theorem dB_firstShared_56 : decode prog_1_method_17_code 56 = .ok (.aload_n 1, 1) := by decide +kernel
theorem dB_firstShared_57 : decode prog_1_method_17_code 57 = .ok (.getfield 156, 3) := by decide +kernel
theorem dB_firstShared_60 : decode prog_1_method_17_code 60 = .ok (.iadd, 1) := by decide +kernel
theorem dB_firstShared_61 : decode prog_1_method_17_code 61 = .ok (.iload 4, 2) := by decide +kernel
theorem dB_firstShared_63 : decode prog_1_method_17_code 63 = .ok (.if_icmp .gt 9, 3) := by decide +kernel
theorem dB_firstShared_66 : decode prog_1_method_17_code 66 = .ok (.iinc 3 1, 3) := by decide +kernel
theorem dB_firstShared_69 : decode prog_1_method_17_code 69 = .ok (.goto 11, 3) := by decide +kernel
theorem dB_firstShared_72 : decode prog_1_method_17_code 72 = .ok (.iload 4, 2) := by decide +kernel
theorem dB_firstShared_74 : decode prog_1_method_17_code 74 = .ok (.iload 5, 2) := by decide +kernel
theorem dB_firstShared_76 : decode prog_1_method_17_code 76 = .ok (.invokestatic 182, 3) := by decide +kernel
theorem dB_firstShared_79 : decode prog_1_method_17_code 79 = .ok (.ireturn, 1) := by decide +kernel
theorem dB_firstShared_80 : decode prog_1_method_17_code 80 = .ok (.goto (-76), 3) := by decide +kernel
theorem dB_firstShared_83 : decode prog_1_method_17_code 83 = .ok (.iconst (-1), 1) := by decide +kernel
theorem dB_firstShared_84 : decode prog_1_method_17_code 84 = .ok (.ireturn, 1) := by decide +kernel
theorem dB_clash_0 : decode prog_1_method_13_code 0 = .ok (.aload_n 0, 1) := by decide +kernel
theorem dB_clash_1 : decode prog_1_method_13_code 1 = .ok (.iload_n 1, 1) := by decide +kernel
theorem dB_clash_2 : decode prog_1_method_13_code 2 = .ok (.invokevirtual 112, 3) := by decide +kernel
theorem dB_clash_5 : decode prog_1_method_13_code 5 = .ok (.aload_n 0, 1) := by decide +kernel
theorem dB_clash_6 : decode prog_1_method_13_code 6 = .ok (.iload_n 2, 1) := by decide +kernel
theorem dB_clash_7 : decode prog_1_method_13_code 7 = .ok (.invokevirtual 112, 3) := by decide +kernel
theorem dB_clash_10 : decode prog_1_method_13_code 10 = .ok (.invokestatic 174, 3) := by decide +kernel
theorem dB_clash_13 : decode prog_1_method_13_code 13 = .ok (.ireturn, 1) := by decide +kernel
theorem dM_yearBegin_0 : decode prog_11_method_4_code 0 = .ok (.iload_n 0, 1) := by decide +kernel
theorem dM_yearBegin_1 : decode prog_11_method_4_code 1 = .ok (.iconst 4, 1) := by decide +kernel
theorem dM_yearBegin_2 : decode prog_11_method_4_code 2 = .ok (.idiv, 1) := by decide +kernel
theorem dM_yearBegin_3 : decode prog_11_method_4_code 3 = .ok (.sipush 1461, 3) := by decide +kernel
theorem dM_yearBegin_6 : decode prog_11_method_4_code 6 = .ok (.imul, 1) := by decide +kernel
theorem dM_yearBegin_7 : decode prog_11_method_4_code 7 = .ok (.iload_n 0, 1) := by decide +kernel
theorem dM_yearBegin_8 : decode prog_11_method_4_code 8 = .ok (.iconst 4, 1) := by decide +kernel
theorem dM_yearBegin_9 : decode prog_11_method_4_code 9 = .ok (.irem, 1) := by decide +kernel
theorem dM_yearBegin_10 : decode prog_11_method_4_code 10 = .ok (.ifCond .ne 7, 3) := by decide +kernel
theorem dM_yearBegin_13 : decode prog_11_method_4_code 13 = .ok (.iconst 0, 1) := by decide +kernel
theorem dM_yearBegin_14 : decode prog_11_method_4_code 14 = .ok (.goto 12, 3) := by decide +kernel
theorem dM_yearBegin_17 : decode prog_11_method_4_code 17 = .ok (.iload_n 0, 1) := by decide +kernel
theorem dM_yearBegin_18 : decode prog_11_method_4_code 18 = .ok (.iconst 4, 1) := by decide +kernel
theorem dM_yearBegin_19 : decode prog_11_method_4_code 19 = .ok (.irem, 1) := by decide +kernel
theorem dM_yearBegin_20 : decode prog_11_method_4_code 20 = .ok (.sipush 365, 3) := by decide +kernel
theorem dM_yearBegin_23 : decode prog_11_method_4_code 23 = .ok (.imul, 1) := by decide +kernel
theorem dM_yearBegin_24 : decode prog_11_method_4_code 24 = .ok (.iconst 1, 1) := by decide +kernel
theorem dM_yearBegin_25 : decode prog_11_method_4_code 25 = .ok (.iadd, 1) := by decide +kernel
theorem dM_yearBegin_26 : decode prog_11_method_4_code 26 = .ok (.iadd, 1) := by decide +kernel
theorem dM_yearBegin_27 : decode prog_11_method_4_code 27 = .ok (.ireturn, 1) := by decide +kernel
theorem dM_monthLength_0 : decode prog_11_method_5_code 0 = .ok (.iload_n 1, 1) := by decide +kernel
theorem dM_monthLength_1 : decode prog_11_method_5_code 1 = .ok (.iconst 2, 1) := by decide +kernel
theorem dM_monthLength_2 : decode prog_11_method_5_code 2 = .ok (.if_icmp .ne 17, 3) := by decide +kernel
theorem dM_monthLength_5 : decode prog_11_method_5_code 5 = .ok (.iload_n 0, 1) := by decide +kernel
theorem dM_monthLength_6 : decode prog_11_method_5_code 6 = .ok (.iconst 4, 1) := by decide +kernel
theorem dM_monthLength_7 : decode prog_11_method_5_code 7 = .ok (.irem, 1) := by decide +kernel
theorem dM_monthLength_8 : decode prog_11_method_5_code 8 = .ok (.ifCond .ne 8, 3) := by decide +kernel
theorem dM_monthLength_11 : decode prog_11_method_5_code 11 = .ok (.bipush 29, 2) := by decide +kernel
theorem dM_monthLength_13 : decode prog_11_method_5_code 13 = .ok (.goto 5, 3) := by decide +kernel
theorem dM_monthLength_16 : decode prog_11_method_5_code 16 = .ok (.bipush 28, 2) := by decide +kernel
theorem dM_monthLength_18 : decode prog_11_method_5_code 18 = .ok (.ireturn, 1) := by decide +kernel
theorem dM_monthLength_19 : decode prog_11_method_5_code 19 = .ok (.iload_n 1, 1) := by decide +kernel
theorem dM_monthLength_20 : decode prog_11_method_5_code 20 = .ok (.iconst 4, 1) := by decide +kernel
theorem dM_monthLength_21 : decode prog_11_method_5_code 21 = .ok (.if_icmp .eq 21, 3) := by decide +kernel
theorem dM_monthLength_24 : decode prog_11_method_5_code 24 = .ok (.iload_n 1, 1) := by decide +kernel
theorem dM_monthLength_25 : decode prog_11_method_5_code 25 = .ok (.bipush 6, 2) := by decide +kernel
theorem dM_monthLength_27 : decode prog_11_method_5_code 27 = .ok (.if_icmp .eq 15, 3) := by decide +kernel
theorem dM_monthLength_30 : decode prog_11_method_5_code 30 = .ok (.iload_n 1, 1) := by decide +kernel
theorem dM_monthLength_31 : decode prog_11_method_5_code 31 = .ok (.bipush 9, 2) := by decide +kernel
theorem dM_monthLength_33 : decode prog_11_method_5_code 33 = .ok (.if_icmp .eq 9, 3) := by decide +kernel
theorem dM_monthLength_36 : decode prog_11_method_5_code 36 = .ok (.iload_n 1, 1) := by decide +kernel
theorem dM_monthLength_37 : decode prog_11_method_5_code 37 = .ok (.bipush 11, 2) := by decide +kernel
theorem dM_monthLength_39 : decode prog_11_method_5_code 39 = .ok (.if_icmp .ne 8, 3) := by decide +kernel
theorem dM_monthLength_42 : decode prog_11_method_5_code 42 = .ok (.bipush 30, 2) := by decide +kernel
theorem dM_monthLength_44 : decode prog_11_method_5_code 44 = .ok (.goto 5, 3) := by decide +kernel
theorem dM_monthLength_47 : decode prog_11_method_5_code 47 = .ok (.bipush 31, 2) := by decide +kernel
theorem dM_monthLength_49 : decode prog_11_method_5_code 49 = .ok (.ireturn, 1) := by decide +kernel
theorem dM_dayOf_0 : decode prog_11_method_7_code 0 = .ok (.iload_n 0, 1) := by decide +kernel
theorem dM_dayOf_1 : decode prog_11_method_7_code 1 = .ok (.invokestatic 67, 3) := by decide +kernel
theorem dM_dayOf_4 : decode prog_11_method_7_code 4 = .ok (.iload_n 2, 1) := by decide +kernel
theorem dM_dayOf_5 : decode prog_11_method_7_code 5 = .ok (.iadd, 1) := by decide +kernel
theorem dM_dayOf_6 : decode prog_11_method_7_code 6 = .ok (.iconst 1, 1) := by decide +kernel
theorem dM_dayOf_7 : decode prog_11_method_7_code 7 = .ok (.isub, 1) := by decide +kernel
theorem dM_dayOf_8 : decode prog_11_method_7_code 8 = .ok (.istore_n 3, 1) := by decide +kernel
theorem dM_dayOf_9 : decode prog_11_method_7_code 9 = .ok (.iconst 1, 1) := by decide +kernel
theorem dM_dayOf_10 : decode prog_11_method_7_code 10 = .ok (.istore 4, 2) := by decide +kernel
theorem dM_dayOf_12 : decode prog_11_method_7_code 12 = .ok (.iload 4, 2) := by decide +kernel
theorem dM_dayOf_14 : decode prog_11_method_7_code 14 = .ok (.iload_n 1, 1) := by decide +kernel
theorem dM_dayOf_15 : decode prog_11_method_7_code 15 = .ok (.if_icmp .ge 18, 3) := by decide +kernel
theorem dM_dayOf_18 : decode prog_11_method_7_code 18 = .ok (.iload_n 3, 1) := by decide +kernel
theorem dM_dayOf_19 : decode prog_11_method_7_code 19 = .ok (.iload_n 0, 1) := by decide +kernel
theorem dM_dayOf_20 : decode prog_11_method_7_code 20 = .ok (.iload 4, 2) := by decide +kernel
theorem dM_dayOf_22 : decode prog_11_method_7_code 22 = .ok (.invokestatic 74, 3) := by decide +kernel
theorem dM_dayOf_25 : decode prog_11_method_7_code 25 = .ok (.iadd, 1) := by decide +kernel
theorem dM_dayOf_26 : decode prog_11_method_7_code 26 = .ok (.istore_n 3, 1) := by decide +kernel
theorem dM_dayOf_27 : decode prog_11_method_7_code 27 = .ok (.iinc 4 1, 3) := by decide +kernel
theorem dM_dayOf_30 : decode prog_11_method_7_code 30 = .ok (.goto (-18), 3) := by decide +kernel
theorem dM_dayOf_33 : decode prog_11_method_7_code 33 = .ok (.iload_n 3, 1) := by decide +kernel
theorem dM_dayOf_34 : decode prog_11_method_7_code 34 = .ok (.ireturn, 1) := by decide +kernel
theorem dM_weekday_0 : decode prog_11_method_9_code 0 = .ok (.iload_n 0, 1) := by decide +kernel
theorem dM_weekday_1 : decode prog_11_method_9_code 1 = .ok (.iconst 5, 1) := by decide +kernel
theorem dM_weekday_2 : decode prog_11_method_9_code 2 = .ok (.iadd, 1) := by decide +kernel
theorem dM_weekday_3 : decode prog_11_method_9_code 3 = .ok (.bipush 7, 2) := by decide +kernel
theorem dM_weekday_5 : decode prog_11_method_9_code 5 = .ok (.irem, 1) := by decide +kernel
theorem dM_weekday_6 : decode prog_11_method_9_code 6 = .ok (.ireturn, 1) := by decide +kernel
theorem dM_sunday_0 : decode prog_11_method_11_code 0 = .ok (.iload_n 0, 1) := by decide +kernel
theorem dM_sunday_1 : decode prog_11_method_11_code 1 = .ok (.iload_n 1, 1) := by decide +kernel
theorem dM_sunday_2 : decode prog_11_method_11_code 2 = .ok (.iconst 1, 1) := by decide +kernel
theorem dM_sunday_3 : decode prog_11_method_11_code 3 = .ok (.invokestatic 85, 3) := by decide +kernel
theorem dM_sunday_6 : decode prog_11_method_11_code 6 = .ok (.istore_n 3, 1) := by decide +kernel
theorem dM_sunday_7 : decode prog_11_method_11_code 7 = .ok (.iload_n 3, 1) := by decide +kernel
theorem dM_sunday_8 : decode prog_11_method_11_code 8 = .ok (.bipush 6, 2) := by decide +kernel
theorem dM_sunday_10 : decode prog_11_method_11_code 10 = .ok (.iadd, 1) := by decide +kernel
theorem dM_sunday_11 : decode prog_11_method_11_code 11 = .ok (.iload_n 3, 1) := by decide +kernel
theorem dM_sunday_12 : decode prog_11_method_11_code 12 = .ok (.invokestatic 89, 3) := by decide +kernel
theorem dM_sunday_15 : decode prog_11_method_11_code 15 = .ok (.isub, 1) := by decide +kernel
theorem dM_sunday_16 : decode prog_11_method_11_code 16 = .ok (.bipush 7, 2) := by decide +kernel
theorem dM_sunday_18 : decode prog_11_method_11_code 18 = .ok (.iload_n 2, 1) := by decide +kernel
theorem dM_sunday_19 : decode prog_11_method_11_code 19 = .ok (.iconst 1, 1) := by decide +kernel
theorem dM_sunday_20 : decode prog_11_method_11_code 20 = .ok (.isub, 1) := by decide +kernel
theorem dM_sunday_21 : decode prog_11_method_11_code 21 = .ok (.imul, 1) := by decide +kernel
theorem dM_sunday_22 : decode prog_11_method_11_code 22 = .ok (.iadd, 1) := by decide +kernel
theorem dM_sunday_23 : decode prog_11_method_11_code 23 = .ok (.istore 4, 2) := by decide +kernel
theorem dM_sunday_25 : decode prog_11_method_11_code 25 = .ok (.iload_n 2, 1) := by decide +kernel
theorem dM_sunday_26 : decode prog_11_method_11_code 26 = .ok (.iconst 5, 1) := by decide +kernel
theorem dM_sunday_27 : decode prog_11_method_11_code 27 = .ok (.if_icmp .ne 23, 3) := by decide +kernel
theorem dM_sunday_30 : decode prog_11_method_11_code 30 = .ok (.iload 4, 2) := by decide +kernel
theorem dM_sunday_32 : decode prog_11_method_11_code 32 = .ok (.iload_n 3, 1) := by decide +kernel
theorem dM_sunday_33 : decode prog_11_method_11_code 33 = .ok (.iload_n 0, 1) := by decide +kernel
theorem dM_sunday_34 : decode prog_11_method_11_code 34 = .ok (.iload_n 1, 1) := by decide +kernel
theorem dM_sunday_35 : decode prog_11_method_11_code 35 = .ok (.invokestatic 74, 3) := by decide +kernel
theorem dM_sunday_38 : decode prog_11_method_11_code 38 = .ok (.iadd, 1) := by decide +kernel
theorem dM_sunday_39 : decode prog_11_method_11_code 39 = .ok (.if_icmp .lt 11, 3) := by decide +kernel
theorem dM_sunday_42 : decode prog_11_method_11_code 42 = .ok (.iload 4, 2) := by decide +kernel
theorem dM_sunday_44 : decode prog_11_method_11_code 44 = .ok (.bipush 7, 2) := by decide +kernel
theorem dM_sunday_46 : decode prog_11_method_11_code 46 = .ok (.isub, 1) := by decide +kernel
theorem dM_sunday_47 : decode prog_11_method_11_code 47 = .ok (.goto 5, 3) := by decide +kernel
theorem dM_sunday_50 : decode prog_11_method_11_code 50 = .ok (.iload 4, 2) := by decide +kernel
theorem dM_sunday_52 : decode prog_11_method_11_code 52 = .ok (.ireturn, 1) := by decide +kernel
theorem dM_changes_0 : decode prog_11_method_12_code 0 = .ok (.iconst 0, 1) := by decide +kernel
theorem dM_changes_1 : decode prog_11_method_12_code 1 = .ok (.istore 5, 2) := by decide +kernel
theorem dM_changes_3 : decode prog_11_method_12_code 3 = .ok (.iload 5, 2) := by decide +kernel
theorem dM_changes_5 : decode prog_11_method_12_code 5 = .ok (.bipush 100, 2) := by decide +kernel
theorem dM_changes_7 : decode prog_11_method_12_code 7 = .ok (.if_icmp .ge 63, 3) := by decide +kernel
theorem dM_changes_10 : decode prog_11_method_12_code 10 = .ok (.aload_n 0, 1) := by decide +kernel
theorem dM_changes_11 : decode prog_11_method_12_code 11 = .ok (.getfield 13, 3) := by decide +kernel
theorem dM_changes_14 : decode prog_11_method_12_code 14 = .ok (.iload 5, 2) := by decide +kernel
theorem dM_changes_16 : decode prog_11_method_12_code 16 = .ok (.sipush 1440, 3) := by decide +kernel
theorem dM_changes_19 : decode prog_11_method_12_code 19 = .ok (.iload 5, 2) := by decide +kernel
theorem dM_changes_21 : decode prog_11_method_12_code 21 = .ok (.iload_n 1, 1) := by decide +kernel
theorem dM_changes_22 : decode prog_11_method_12_code 22 = .ok (.iload_n 2, 1) := by decide +kernel
theorem dM_changes_23 : decode prog_11_method_12_code 23 = .ok (.invokestatic 92, 3) := by decide +kernel
theorem dM_changes_26 : decode prog_11_method_12_code 26 = .ok (.imul, 1) := by decide +kernel
theorem dM_changes_27 : decode prog_11_method_12_code 27 = .ok (.bipush 120, 2) := by decide +kernel
theorem dM_changes_29 : decode prog_11_method_12_code 29 = .ok (.iadd, 1) := by decide +kernel
theorem dM_changes_30 : decode prog_11_method_12_code 30 = .ok (.aload_n 0, 1) := by decide +kernel
theorem dM_changes_31 : decode prog_11_method_12_code 31 = .ok (.getfield 95, 3) := by decide +kernel
theorem dM_changes_34 : decode prog_11_method_12_code 34 = .ok (.isub, 1) := by decide +kernel
theorem dM_changes_35 : decode prog_11_method_12_code 35 = .ok (.iastore, 1) := by decide +kernel
theorem dM_changes_36 : decode prog_11_method_12_code 36 = .ok (.aload_n 0, 1) := by decide +kernel
theorem dM_changes_37 : decode prog_11_method_12_code 37 = .ok (.getfield 16, 3) := by decide +kernel
theorem dM_changes_40 : decode prog_11_method_12_code 40 = .ok (.iload 5, 2) := by decide +kernel
theorem dM_changes_42 : decode prog_11_method_12_code 42 = .ok (.sipush 1440, 3) := by decide +kernel
theorem dM_changes_45 : decode prog_11_method_12_code 45 = .ok (.iload 5, 2) := by decide +kernel
theorem dM_changes_47 : decode prog_11_method_12_code 47 = .ok (.iload_n 3, 1) := by decide +kernel
theorem dM_changes_48 : decode prog_11_method_12_code 48 = .ok (.iload 4, 2) := by decide +kernel
theorem dM_changes_50 : decode prog_11_method_12_code 50 = .ok (.invokestatic 92, 3) := by decide +kernel
theorem dM_changes_53 : decode prog_11_method_12_code 53 = .ok (.imul, 1) := by decide +kernel
theorem dM_changes_54 : decode prog_11_method_12_code 54 = .ok (.sipush 180, 3) := by decide +kernel
theorem dM_changes_57 : decode prog_11_method_12_code 57 = .ok (.iadd, 1) := by decide +kernel
theorem dM_changes_58 : decode prog_11_method_12_code 58 = .ok (.aload_n 0, 1) := by decide +kernel
theorem dM_changes_59 : decode prog_11_method_12_code 59 = .ok (.getfield 98, 3) := by decide +kernel
theorem dM_changes_62 : decode prog_11_method_12_code 62 = .ok (.isub, 1) := by decide +kernel
theorem dM_changes_63 : decode prog_11_method_12_code 63 = .ok (.iastore, 1) := by decide +kernel
theorem dM_changes_64 : decode prog_11_method_12_code 64 = .ok (.iinc 5 1, 3) := by decide +kernel
theorem dM_changes_67 : decode prog_11_method_12_code 67 = .ok (.goto (-64), 3) := by decide +kernel
theorem dM_changes_70 : decode prog_11_method_12_code 70 = .ok (.return_, 1) := by decide +kernel
theorem dM_init_0 : decode prog_11_method_1_code 0 = .ok (.aload_n 0, 1) := by decide +kernel
theorem dM_init_1 : decode prog_11_method_1_code 1 = .ok (.invokespecial 1, 3) := by decide +kernel
theorem dM_init_4 : decode prog_11_method_1_code 4 = .ok (.aload_n 0, 1) := by decide +kernel
theorem dM_init_5 : decode prog_11_method_1_code 5 = .ok (.bipush 60, 2) := by decide +kernel
theorem dM_init_7 : decode prog_11_method_1_code 7 = .ok (.newarray .int, 2) := by decide +kernel
theorem dM_init_9 : decode prog_11_method_1_code 9 = .ok (.putfield 7, 3) := by decide +kernel
theorem dM_init_12 : decode prog_11_method_1_code 12 = .ok (.aload_n 0, 1) := by decide +kernel
theorem dM_init_13 : decode prog_11_method_1_code 13 = .ok (.bipush 100, 2) := by decide +kernel
theorem dM_init_15 : decode prog_11_method_1_code 15 = .ok (.newarray .int, 2) := by decide +kernel
theorem dM_init_17 : decode prog_11_method_1_code 17 = .ok (.putfield 13, 3) := by decide +kernel
theorem dM_init_20 : decode prog_11_method_1_code 20 = .ok (.aload_n 0, 1) := by decide +kernel
theorem dM_init_21 : decode prog_11_method_1_code 21 = .ok (.bipush 100, 2) := by decide +kernel
theorem dM_init_23 : decode prog_11_method_1_code 23 = .ok (.newarray .int, 2) := by decide +kernel
theorem dM_init_25 : decode prog_11_method_1_code 25 = .ok (.putfield 16, 3) := by decide +kernel
theorem dM_init_28 : decode prog_11_method_1_code 28 = .ok (.aload_n 0, 1) := by decide +kernel
theorem dM_init_29 : decode prog_11_method_1_code 29 = .ok (.bipush 8, 2) := by decide +kernel
theorem dM_init_31 : decode prog_11_method_1_code 31 = .ok (.newarray .int, 2) := by decide +kernel
theorem dM_init_33 : decode prog_11_method_1_code 33 = .ok (.putfield 19, 3) := by decide +kernel
theorem dM_init_36 : decode prog_11_method_1_code 36 = .ok (.aload_n 0, 1) := by decide +kernel
theorem dM_init_37 : decode prog_11_method_1_code 37 = .ok (.bipush 8, 2) := by decide +kernel
theorem dM_init_39 : decode prog_11_method_1_code 39 = .ok (.newarray .int, 2) := by decide +kernel
theorem dM_init_41 : decode prog_11_method_1_code 41 = .ok (.putfield 22, 3) := by decide +kernel
theorem dM_init_44 : decode prog_11_method_1_code 44 = .ok (.aload_n 0, 1) := by decide +kernel
theorem dM_init_45 : decode prog_11_method_1_code 45 = .ok (.sipush 1600, 3) := by decide +kernel
theorem dM_init_48 : decode prog_11_method_1_code 48 = .ok (.newarray .int, 2) := by decide +kernel
theorem dM_init_50 : decode prog_11_method_1_code 50 = .ok (.putfield 25, 3) := by decide +kernel
theorem dM_init_53 : decode prog_11_method_1_code 53 = .ok (.aload_n 0, 1) := by decide +kernel
theorem dM_init_54 : decode prog_11_method_1_code 54 = .ok (.bipush 8, 2) := by decide +kernel
theorem dM_init_56 : decode prog_11_method_1_code 56 = .ok (.newarray .int, 2) := by decide +kernel
theorem dM_init_58 : decode prog_11_method_1_code 58 = .ok (.putfield 28, 3) := by decide +kernel
theorem dM_init_61 : decode prog_11_method_1_code 61 = .ok (.aload_n 0, 1) := by decide +kernel
theorem dM_init_62 : decode prog_11_method_1_code 62 = .ok (.bipush 96, 2) := by decide +kernel
theorem dM_init_64 : decode prog_11_method_1_code 64 = .ok (.newarray .int, 2) := by decide +kernel
theorem dM_init_66 : decode prog_11_method_1_code 66 = .ok (.putfield 31, 3) := by decide +kernel
theorem dM_init_69 : decode prog_11_method_1_code 69 = .ok (.aload_n 0, 1) := by decide +kernel
theorem dM_init_70 : decode prog_11_method_1_code 70 = .ok (.bipush 8, 2) := by decide +kernel
theorem dM_init_72 : decode prog_11_method_1_code 72 = .ok (.newarray .int, 2) := by decide +kernel
theorem dM_init_74 : decode prog_11_method_1_code 74 = .ok (.putfield 34, 3) := by decide +kernel
theorem dM_init_77 : decode prog_11_method_1_code 77 = .ok (.aload_n 0, 1) := by decide +kernel
theorem dM_init_78 : decode prog_11_method_1_code 78 = .ok (.bipush 13, 2) := by decide +kernel
theorem dM_init_80 : decode prog_11_method_1_code 80 = .ok (.newarray .boolean, 2) := by decide +kernel
theorem dM_init_82 : decode prog_11_method_1_code 82 = .ok (.putfield 37, 3) := by decide +kernel
theorem dM_init_85 : decode prog_11_method_1_code 85 = .ok (.aload_n 0, 1) := by decide +kernel
theorem dM_init_86 : decode prog_11_method_1_code 86 = .ok (.bipush 8, 2) := by decide +kernel
theorem dM_init_88 : decode prog_11_method_1_code 88 = .ok (.newarray .int, 2) := by decide +kernel
theorem dM_init_90 : decode prog_11_method_1_code 90 = .ok (.putfield 41, 3) := by decide +kernel
theorem dM_init_93 : decode prog_11_method_1_code 93 = .ok (.aload_n 0, 1) := by decide +kernel
theorem dM_init_94 : decode prog_11_method_1_code 94 = .ok (.bipush 7, 2) := by decide +kernel
theorem dM_init_96 : decode prog_11_method_1_code 96 = .ok (.newarray .int, 2) := by decide +kernel
theorem dM_init_98 : decode prog_11_method_1_code 98 = .ok (.putfield 44, 3) := by decide +kernel
theorem dM_init_101 : decode prog_11_method_1_code 101 = .ok (.aload_n 0, 1) := by decide +kernel
theorem dM_init_102 : decode prog_11_method_1_code 102 = .ok (.bipush 7, 2) := by decide +kernel
theorem dM_init_104 : decode prog_11_method_1_code 104 = .ok (.newarray .int, 2) := by decide +kernel
theorem dM_init_106 : decode prog_11_method_1_code 106 = .ok (.putfield 47, 3) := by decide +kernel
theorem dM_init_109 : decode prog_11_method_1_code 109 = .ok (.aload_n 0, 1) := by decide +kernel
theorem dM_init_110 : decode prog_11_method_1_code 110 = .ok (.sipush 1600, 3) := by decide +kernel
theorem dM_init_113 : decode prog_11_method_1_code 113 = .ok (.newarray .int, 2) := by decide +kernel
theorem dM_init_115 : decode prog_11_method_1_code 115 = .ok (.putfield 50, 3) := by decide +kernel
theorem dM_init_118 : decode prog_11_method_1_code 118 = .ok (.aload_n 0, 1) := by decide +kernel
theorem dM_init_119 : decode prog_11_method_1_code 119 = .ok (.sipush 1600, 3) := by decide +kernel
theorem dM_init_122 : decode prog_11_method_1_code 122 = .ok (.newarray .int, 2) := by decide +kernel
theorem dM_init_124 : decode prog_11_method_1_code 124 = .ok (.putfield 53, 3) := by decide +kernel
theorem dM_init_127 : decode prog_11_method_1_code 127 = .ok (.aload_n 0, 1) := by decide +kernel
theorem dM_init_128 : decode prog_11_method_1_code 128 = .ok (.iconst 3, 1) := by decide +kernel
theorem dM_init_129 : decode prog_11_method_1_code 129 = .ok (.iconst 5, 1) := by decide +kernel
theorem dM_init_130 : decode prog_11_method_1_code 130 = .ok (.bipush 10, 2) := by decide +kernel
theorem dM_init_132 : decode prog_11_method_1_code 132 = .ok (.iconst 5, 1) := by decide +kernel
theorem dM_init_133 : decode prog_11_method_1_code 133 = .ok (.invokevirtual 56, 3) := by decide +kernel
theorem dM_init_136 : decode prog_11_method_1_code 136 = .ok (.return_, 1) := by decide +kernel
theorem dM_thrown_0 : decode prog_11_method_2_code 0 = .ok (.aload_n 0, 1) := by decide +kernel
theorem dM_thrown_1 : decode prog_11_method_2_code 1 = .ok (.getfield 60, 3) := by decide +kernel
theorem dM_thrown_4 : decode prog_11_method_2_code 4 = .ok (.ireturn, 1) := by decide +kernel
