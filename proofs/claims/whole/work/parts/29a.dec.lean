/-! Decoded instructions. -/
theorem dM_fill_0 : decode prog_11_method_36_code 0 = .ok (.iconst 0, 1) := by decide +kernel
theorem dM_fill_1 : decode prog_11_method_36_code 1 = .ok (.istore_n 2, 1) := by decide +kernel
theorem dM_fill_2 : decode prog_11_method_36_code 2 = .ok (.aload_n 0, 1) := by decide +kernel
theorem dM_fill_3 : decode prog_11_method_36_code 3 = .ok (.getfield 138, 3) := by decide +kernel
theorem dM_fill_6 : decode prog_11_method_36_code 6 = .ok (.ifCond .ne 7, 3) := by decide +kernel
theorem dM_fill_9 : decode prog_11_method_36_code 9 = .ok (.iconst 1, 1) := by decide +kernel
theorem dM_fill_10 : decode prog_11_method_36_code 10 = .ok (.goto 7, 3) := by decide +kernel
theorem dM_fill_13 : decode prog_11_method_36_code 13 = .ok (.aload_n 0, 1) := by decide +kernel
theorem dM_fill_14 : decode prog_11_method_36_code 14 = .ok (.getfield 197, 3) := by decide +kernel
theorem dM_fill_17 : decode prog_11_method_36_code 17 = .ok (.istore_n 3, 1) := by decide +kernel
theorem dM_fill_18 : decode prog_11_method_36_code 18 = .ok (.aload_n 0, 1) := by decide +kernel
theorem dM_fill_19 : decode prog_11_method_36_code 19 = .ok (.getfield 218, 3) := by decide +kernel
theorem dM_fill_22 : decode prog_11_method_36_code 22 = .ok (.istore 4, 2) := by decide +kernel
theorem dM_fill_24 : decode prog_11_method_36_code 24 = .ok (.iload 4, 2) := by decide +kernel
theorem dM_fill_26 : decode prog_11_method_36_code 26 = .ok (.aload_n 0, 1) := by decide +kernel
theorem dM_fill_27 : decode prog_11_method_36_code 27 = .ok (.getfield 144, 3) := by decide +kernel
theorem dM_fill_30 : decode prog_11_method_36_code 30 = .ok (.if_icmp .gt 98, 3) := by decide +kernel
theorem dM_fill_33 : decode prog_11_method_36_code 33 = .ok (.iload_n 2, 1) := by decide +kernel
theorem dM_fill_34 : decode prog_11_method_36_code 34 = .ok (.iload_n 3, 1) := by decide +kernel
theorem dM_fill_35 : decode prog_11_method_36_code 35 = .ok (.if_icmp .ge 93, 3) := by decide +kernel
theorem dM_fill_38 : decode prog_11_method_36_code 38 = .ok (.aload_n 0, 1) := by decide +kernel
theorem dM_fill_39 : decode prog_11_method_36_code 39 = .ok (.iload 4, 2) := by decide +kernel
theorem dM_fill_41 : decode prog_11_method_36_code 41 = .ok (.invokevirtual 236, 3) := by decide +kernel
theorem dM_fill_44 : decode prog_11_method_36_code 44 = .ok (.aload_n 0, 1) := by decide +kernel
theorem dM_fill_45 : decode prog_11_method_36_code 45 = .ok (.getfield 138, 3) := by decide +kernel
theorem dM_fill_48 : decode prog_11_method_36_code 48 = .ok (.ifCond .eq 12, 3) := by decide +kernel
theorem dM_fill_51 : decode prog_11_method_36_code 51 = .ok (.aload_n 0, 1) := by decide +kernel
theorem dM_fill_52 : decode prog_11_method_36_code 52 = .ok (.iload 4, 2) := by decide +kernel
theorem dM_fill_54 : decode prog_11_method_36_code 54 = .ok (.invokevirtual 240, 3) := by decide +kernel
theorem dM_fill_57 : decode prog_11_method_36_code 57 = .ok (.ifCond .eq 7, 3) := by decide +kernel
theorem dM_fill_60 : decode prog_11_method_36_code 60 = .ok (.iconst 1, 1) := by decide +kernel
theorem dM_fill_61 : decode prog_11_method_36_code 61 = .ok (.goto 4, 3) := by decide +kernel
theorem dM_fill_64 : decode prog_11_method_36_code 64 = .ok (.iconst 0, 1) := by decide +kernel
theorem dM_fill_65 : decode prog_11_method_36_code 65 = .ok (.istore 5, 2) := by decide +kernel
theorem dM_fill_67 : decode prog_11_method_36_code 67 = .ok (.iload 5, 2) := by decide +kernel
theorem dM_fill_69 : decode prog_11_method_36_code 69 = .ok (.ifCond .eq 36, 3) := by decide +kernel
theorem dM_fill_72 : decode prog_11_method_36_code 72 = .ok (.aload_n 0, 1) := by decide +kernel
theorem dM_fill_73 : decode prog_11_method_36_code 73 = .ok (.getfield 138, 3) := by decide +kernel
theorem dM_fill_76 : decode prog_11_method_36_code 76 = .ok (.ifCond .eq 12, 3) := by decide +kernel
theorem dM_fill_79 : decode prog_11_method_36_code 79 = .ok (.aload_n 0, 1) := by decide +kernel
theorem dM_fill_80 : decode prog_11_method_36_code 80 = .ok (.iload 4, 2) := by decide +kernel
theorem dM_fill_82 : decode prog_11_method_36_code 82 = .ok (.invokevirtual 243, 3) := by decide +kernel
theorem dM_fill_85 : decode prog_11_method_36_code 85 = .ok (.ifCond .eq 20, 3) := by decide +kernel
theorem dM_fill_88 : decode prog_11_method_36_code 88 = .ok (.aload_n 0, 1) := by decide +kernel
theorem dM_fill_89 : decode prog_11_method_36_code 89 = .ok (.getfield 25, 3) := by decide +kernel
theorem dM_fill_92 : decode prog_11_method_36_code 92 = .ok (.sipush 200, 3) := by decide +kernel
theorem dM_fill_95 : decode prog_11_method_36_code 95 = .ok (.iload_n 1, 1) := by decide +kernel
theorem dM_fill_96 : decode prog_11_method_36_code 96 = .ok (.imul, 1) := by decide +kernel
theorem dM_fill_97 : decode prog_11_method_36_code 97 = .ok (.iload_n 2, 1) := by decide +kernel
theorem dM_fill_98 : decode prog_11_method_36_code 98 = .ok (.iadd, 1) := by decide +kernel
theorem dM_fill_99 : decode prog_11_method_36_code 99 = .ok (.iload 4, 2) := by decide +kernel
theorem dM_fill_101 : decode prog_11_method_36_code 101 = .ok (.iastore, 1) := by decide +kernel
theorem dM_fill_102 : decode prog_11_method_36_code 102 = .ok (.iinc 2 1, 3) := by decide +kernel
theorem dM_fill_105 : decode prog_11_method_36_code 105 = .ok (.iload 5, 2) := by decide +kernel
theorem dM_fill_107 : decode prog_11_method_36_code 107 = .ok (.ifCond .eq 10, 3) := by decide +kernel
theorem dM_fill_110 : decode prog_11_method_36_code 110 = .ok (.iload 4, 2) := by decide +kernel
theorem dM_fill_112 : decode prog_11_method_36_code 112 = .ok (.iconst 1, 1) := by decide +kernel
theorem dM_fill_113 : decode prog_11_method_36_code 113 = .ok (.iadd, 1) := by decide +kernel
theorem dM_fill_114 : decode prog_11_method_36_code 114 = .ok (.goto 9, 3) := by decide +kernel
theorem dM_fill_117 : decode prog_11_method_36_code 117 = .ok (.aload_n 0, 1) := by decide +kernel
theorem dM_fill_118 : decode prog_11_method_36_code 118 = .ok (.iload 4, 2) := by decide +kernel
theorem dM_fill_120 : decode prog_11_method_36_code 120 = .ok (.invokevirtual 246, 3) := by decide +kernel
theorem dM_fill_123 : decode prog_11_method_36_code 123 = .ok (.istore 4, 2) := by decide +kernel
theorem dM_fill_125 : decode prog_11_method_36_code 125 = .ok (.goto (-101), 3) := by decide +kernel
theorem dM_fill_128 : decode prog_11_method_36_code 128 = .ok (.aload_n 0, 1) := by decide +kernel
theorem dM_fill_129 : decode prog_11_method_36_code 129 = .ok (.getfield 28, 3) := by decide +kernel
theorem dM_fill_132 : decode prog_11_method_36_code 132 = .ok (.iload_n 1, 1) := by decide +kernel
theorem dM_fill_133 : decode prog_11_method_36_code 133 = .ok (.iload_n 2, 1) := by decide +kernel
theorem dM_fill_134 : decode prog_11_method_36_code 134 = .ok (.iastore, 1) := by decide +kernel
theorem dM_fill_135 : decode prog_11_method_36_code 135 = .ok (.return_, 1) := by decide +kernel
theorem dM_event_0 : decode prog_11_method_37_code 0 = .ok (.aload_n 0, 1) := by decide +kernel
theorem dM_event_1 : decode prog_11_method_37_code 1 = .ok (.aload_n 0, 1) := by decide +kernel
theorem dM_event_2 : decode prog_11_method_37_code 2 = .ok (.getfield 249, 3) := by decide +kernel
theorem dM_event_5 : decode prog_11_method_37_code 5 = .ok (.bipush 8, 2) := by decide +kernel
theorem dM_event_7 : decode prog_11_method_37_code 7 = .ok (.if_icmp .ne 7, 3) := by decide +kernel
theorem dM_event_10 : decode prog_11_method_37_code 10 = .ok (.iconst 1, 1) := by decide +kernel
theorem dM_event_11 : decode prog_11_method_37_code 11 = .ok (.goto 4, 3) := by decide +kernel
theorem dM_event_14 : decode prog_11_method_37_code 14 = .ok (.iconst 0, 1) := by decide +kernel
theorem dM_event_15 : decode prog_11_method_37_code 15 = .ok (.putfield 60, 3) := by decide +kernel
theorem dM_event_18 : decode prog_11_method_37_code 18 = .ok (.aload_n 0, 1) := by decide +kernel
theorem dM_event_19 : decode prog_11_method_37_code 19 = .ok (.getfield 60, 3) := by decide +kernel
theorem dM_event_22 : decode prog_11_method_37_code 22 = .ok (.ifCond .le 5, 3) := by decide +kernel
theorem dM_event_25 : decode prog_11_method_37_code 25 = .ok (.iconst 0, 1) := by decide +kernel
theorem dM_event_26 : decode prog_11_method_37_code 26 = .ok (.ireturn, 1) := by decide +kernel
theorem dM_event_27 : decode prog_11_method_37_code 27 = .ok (.iload_n 1, 1) := by decide +kernel
theorem dM_event_28 : decode prog_11_method_37_code 28 = .ok (.iconst 0, 1) := by decide +kernel
theorem dM_event_29 : decode prog_11_method_37_code 29 = .ok (.ldc 214, 2) := by decide +kernel
theorem dM_event_31 : decode prog_11_method_37_code 31 = .ok (.invokestatic 101, 3) := by decide +kernel
theorem dM_event_34 : decode prog_11_method_37_code 34 = .ok (.ifCond .eq 36, 3) := by decide +kernel
theorem dM_event_37 : decode prog_11_method_37_code 37 = .ok (.iload_n 2, 1) := by decide +kernel
theorem dM_event_38 : decode prog_11_method_37_code 38 = .ok (.iconst 0, 1) := by decide +kernel
theorem dM_event_39 : decode prog_11_method_37_code 39 = .ok (.sipush 1439, 3) := by decide +kernel
theorem dM_event_42 : decode prog_11_method_37_code 42 = .ok (.invokestatic 101, 3) := by decide +kernel
theorem dM_event_45 : decode prog_11_method_37_code 45 = .ok (.ifCond .eq 25, 3) := by decide +kernel
theorem dM_event_48 : decode prog_11_method_37_code 48 = .ok (.iload_n 3, 1) := by decide +kernel
theorem dM_event_49 : decode prog_11_method_37_code 49 = .ok (.iconst 1, 1) := by decide +kernel
theorem dM_event_50 : decode prog_11_method_37_code 50 = .ok (.sipush 2880, 3) := by decide +kernel
theorem dM_event_53 : decode prog_11_method_37_code 53 = .ok (.invokestatic 101, 3) := by decide +kernel
theorem dM_event_56 : decode prog_11_method_37_code 56 = .ok (.ifCond .eq 14, 3) := by decide +kernel
theorem dM_event_59 : decode prog_11_method_37_code 59 = .ok (.aload_n 0, 1) := by decide +kernel
theorem dM_event_60 : decode prog_11_method_37_code 60 = .ok (.invokevirtual 252, 3) := by decide +kernel
theorem dM_event_63 : decode prog_11_method_37_code 63 = .ok (.ifCond .eq 7, 3) := by decide +kernel
theorem dM_event_66 : decode prog_11_method_37_code 66 = .ok (.iconst 1, 1) := by decide +kernel
theorem dM_event_67 : decode prog_11_method_37_code 67 = .ok (.goto 4, 3) := by decide +kernel
theorem dM_event_70 : decode prog_11_method_37_code 70 = .ok (.iconst 0, 1) := by decide +kernel
theorem dM_event_71 : decode prog_11_method_37_code 71 = .ok (.istore 4, 2) := by decide +kernel
theorem dM_event_73 : decode prog_11_method_37_code 73 = .ok (.aload_n 0, 1) := by decide +kernel
theorem dM_event_74 : decode prog_11_method_37_code 74 = .ok (.iconst 0, 1) := by decide +kernel
theorem dM_event_75 : decode prog_11_method_37_code 75 = .ok (.putfield 112, 3) := by decide +kernel
theorem dM_event_78 : decode prog_11_method_37_code 78 = .ok (.aload_n 0, 1) := by decide +kernel
theorem dM_event_79 : decode prog_11_method_37_code 79 = .ok (.iload 4, 2) := by decide +kernel
theorem dM_event_81 : decode prog_11_method_37_code 81 = .ok (.ifCond .eq 7, 3) := by decide +kernel
theorem dM_event_84 : decode prog_11_method_37_code 84 = .ok (.iconst 0, 1) := by decide +kernel
theorem dM_event_85 : decode prog_11_method_37_code 85 = .ok (.goto 4, 3) := by decide +kernel
theorem dM_event_88 : decode prog_11_method_37_code 88 = .ok (.iconst 2, 1) := by decide +kernel
theorem dM_event_89 : decode prog_11_method_37_code 89 = .ok (.putfield 60, 3) := by decide +kernel
theorem dM_event_92 : decode prog_11_method_37_code 92 = .ok (.iload 4, 2) := by decide +kernel
theorem dM_event_94 : decode prog_11_method_37_code 94 = .ok (.ifCond .ne 5, 3) := by decide +kernel
theorem dM_event_97 : decode prog_11_method_37_code 97 = .ok (.iconst 0, 1) := by decide +kernel
theorem dM_event_98 : decode prog_11_method_37_code 98 = .ok (.ireturn, 1) := by decide +kernel
theorem dM_event_99 : decode prog_11_method_37_code 99 = .ok (.aload_n 0, 1) := by decide +kernel
theorem dM_event_100 : decode prog_11_method_37_code 100 = .ok (.iload_n 1, 1) := by decide +kernel
theorem dM_event_101 : decode prog_11_method_37_code 101 = .ok (.invokevirtual 236, 3) := by decide +kernel
theorem dM_event_104 : decode prog_11_method_37_code 104 = .ok (.aload_n 0, 1) := by decide +kernel
theorem dM_event_105 : decode prog_11_method_37_code 105 = .ok (.iload_n 1, 1) := by decide +kernel
theorem dM_event_106 : decode prog_11_method_37_code 106 = .ok (.putfield 218, 3) := by decide +kernel
theorem dM_event_109 : decode prog_11_method_37_code 109 = .ok (.aload_n 0, 1) := by decide +kernel
theorem dM_event_110 : decode prog_11_method_37_code 110 = .ok (.aload_n 0, 1) := by decide +kernel
theorem dM_event_111 : decode prog_11_method_37_code 111 = .ok (.getfield 64, 3) := by decide +kernel
theorem dM_event_114 : decode prog_11_method_37_code 114 = .ok (.putfield 221, 3) := by decide +kernel
theorem dM_event_117 : decode prog_11_method_37_code 117 = .ok (.aload_n 0, 1) := by decide +kernel
theorem dM_event_118 : decode prog_11_method_37_code 118 = .ok (.aload_n 0, 1) := by decide +kernel
theorem dM_event_119 : decode prog_11_method_37_code 119 = .ok (.getfield 71, 3) := by decide +kernel
theorem dM_event_122 : decode prog_11_method_37_code 122 = .ok (.putfield 224, 3) := by decide +kernel
theorem dM_event_125 : decode prog_11_method_37_code 125 = .ok (.aload_n 0, 1) := by decide +kernel
theorem dM_event_126 : decode prog_11_method_37_code 126 = .ok (.aload_n 0, 1) := by decide +kernel
theorem dM_event_127 : decode prog_11_method_37_code 127 = .ok (.getfield 78, 3) := by decide +kernel
theorem dM_event_130 : decode prog_11_method_37_code 130 = .ok (.putfield 230, 3) := by decide +kernel
theorem dM_event_133 : decode prog_11_method_37_code 133 = .ok (.aload_n 0, 1) := by decide +kernel
theorem dM_event_134 : decode prog_11_method_37_code 134 = .ok (.getfield 19, 3) := by decide +kernel
theorem dM_event_137 : decode prog_11_method_37_code 137 = .ok (.aload_n 0, 1) := by decide +kernel
theorem dM_event_138 : decode prog_11_method_37_code 138 = .ok (.getfield 249, 3) := by decide +kernel
theorem dM_event_141 : decode prog_11_method_37_code 141 = .ok (.iload_n 2, 1) := by decide +kernel
theorem dM_event_142 : decode prog_11_method_37_code 142 = .ok (.iastore, 1) := by decide +kernel
theorem dM_event_143 : decode prog_11_method_37_code 143 = .ok (.aload_n 0, 1) := by decide +kernel
theorem dM_event_144 : decode prog_11_method_37_code 144 = .ok (.getfield 22, 3) := by decide +kernel
theorem dM_event_147 : decode prog_11_method_37_code 147 = .ok (.aload_n 0, 1) := by decide +kernel
theorem dM_event_148 : decode prog_11_method_37_code 148 = .ok (.getfield 249, 3) := by decide +kernel
theorem dM_event_151 : decode prog_11_method_37_code 151 = .ok (.iload_n 3, 1) := by decide +kernel
theorem dM_event_152 : decode prog_11_method_37_code 152 = .ok (.iastore, 1) := by decide +kernel
theorem dM_event_153 : decode prog_11_method_37_code 153 = .ok (.aload_n 0, 1) := by decide +kernel
theorem dM_event_154 : decode prog_11_method_37_code 154 = .ok (.getfield 34, 3) := by decide +kernel
theorem dM_event_157 : decode prog_11_method_37_code 157 = .ok (.aload_n 0, 1) := by decide +kernel
theorem dM_event_158 : decode prog_11_method_37_code 158 = .ok (.getfield 249, 3) := by decide +kernel
theorem dM_event_161 : decode prog_11_method_37_code 161 = .ok (.iconst 0, 1) := by decide +kernel
theorem dM_event_162 : decode prog_11_method_37_code 162 = .ok (.iastore, 1) := by decide +kernel
theorem dM_event_163 : decode prog_11_method_37_code 163 = .ok (.aload_n 0, 1) := by decide +kernel
theorem dM_event_164 : decode prog_11_method_37_code 164 = .ok (.aload_n 0, 1) := by decide +kernel
theorem dM_event_165 : decode prog_11_method_37_code 165 = .ok (.getfield 249, 3) := by decide +kernel
theorem dM_event_168 : decode prog_11_method_37_code 168 = .ok (.invokevirtual 255, 3) := by decide +kernel
theorem dM_event_171 : decode prog_11_method_37_code 171 = .ok (.aload_n 0, 1) := by decide +kernel
theorem dM_event_172 : decode prog_11_method_37_code 172 = .ok (.dup, 1) := by decide +kernel
theorem dM_event_173 : decode prog_11_method_37_code 173 = .ok (.getfield 249, 3) := by decide +kernel
theorem dM_event_176 : decode prog_11_method_37_code 176 = .ok (.iconst 1, 1) := by decide +kernel
theorem dM_event_177 : decode prog_11_method_37_code 177 = .ok (.iadd, 1) := by decide +kernel
theorem dM_event_178 : decode prog_11_method_37_code 178 = .ok (.putfield 249, 3) := by decide +kernel
theorem dM_event_181 : decode prog_11_method_37_code 181 = .ok (.aload_n 0, 1) := by decide +kernel
theorem dM_event_182 : decode prog_11_method_37_code 182 = .ok (.getfield 249, 3) := by decide +kernel
theorem dM_event_185 : decode prog_11_method_37_code 185 = .ok (.iconst 1, 1) := by decide +kernel
theorem dM_event_186 : decode prog_11_method_37_code 186 = .ok (.isub, 1) := by decide +kernel
theorem dM_event_187 : decode prog_11_method_37_code 187 = .ok (.ireturn, 1) := by decide +kernel
theorem dM_isExcluded_0 : decode prog_11_method_38_code 0 = .ok (.iconst 0, 1) := by decide +kernel
theorem dM_isExcluded_1 : decode prog_11_method_38_code 1 = .ok (.istore_n 3, 1) := by decide +kernel
theorem dM_isExcluded_2 : decode prog_11_method_38_code 2 = .ok (.iconst 0, 1) := by decide +kernel
theorem dM_isExcluded_3 : decode prog_11_method_38_code 3 = .ok (.istore 4, 2) := by decide +kernel
theorem dM_isExcluded_5 : decode prog_11_method_38_code 5 = .ok (.iload 4, 2) := by decide +kernel
theorem dM_isExcluded_7 : decode prog_11_method_38_code 7 = .ok (.aload_n 0, 1) := by decide +kernel
theorem dM_isExcluded_8 : decode prog_11_method_38_code 8 = .ok (.getfield 34, 3) := by decide +kernel
theorem dM_isExcluded_11 : decode prog_11_method_38_code 11 = .ok (.iload_n 1, 1) := by decide +kernel
theorem dM_isExcluded_12 : decode prog_11_method_38_code 12 = .ok (.iaload, 1) := by decide +kernel
theorem dM_isExcluded_13 : decode prog_11_method_38_code 13 = .ok (.if_icmp .ge 35, 3) := by decide +kernel
theorem dM_isExcluded_16 : decode prog_11_method_38_code 16 = .ok (.iload_n 3, 1) := by decide +kernel
theorem dM_isExcluded_17 : decode prog_11_method_38_code 17 = .ok (.ifCond .ne 19, 3) := by decide +kernel
theorem dM_isExcluded_20 : decode prog_11_method_38_code 20 = .ok (.aload_n 0, 1) := by decide +kernel
theorem dM_isExcluded_21 : decode prog_11_method_38_code 21 = .ok (.getfield 31, 3) := by decide +kernel
theorem dM_isExcluded_24 : decode prog_11_method_38_code 24 = .ok (.bipush 12, 2) := by decide +kernel
theorem dM_isExcluded_26 : decode prog_11_method_38_code 26 = .ok (.iload_n 1, 1) := by decide +kernel
theorem dM_isExcluded_27 : decode prog_11_method_38_code 27 = .ok (.imul, 1) := by decide +kernel
theorem dM_isExcluded_28 : decode prog_11_method_38_code 28 = .ok (.iload 4, 2) := by decide +kernel
theorem dM_isExcluded_30 : decode prog_11_method_38_code 30 = .ok (.iadd, 1) := by decide +kernel
theorem dM_isExcluded_31 : decode prog_11_method_38_code 31 = .ok (.iaload, 1) := by decide +kernel
theorem dM_isExcluded_32 : decode prog_11_method_38_code 32 = .ok (.iload_n 2, 1) := by decide +kernel
theorem dM_isExcluded_33 : decode prog_11_method_38_code 33 = .ok (.if_icmp .ne 7, 3) := by decide +kernel
theorem dM_isExcluded_36 : decode prog_11_method_38_code 36 = .ok (.iconst 1, 1) := by decide +kernel
theorem dM_isExcluded_37 : decode prog_11_method_38_code 37 = .ok (.goto 4, 3) := by decide +kernel
theorem dM_isExcluded_40 : decode prog_11_method_38_code 40 = .ok (.iconst 0, 1) := by decide +kernel
theorem dM_isExcluded_41 : decode prog_11_method_38_code 41 = .ok (.istore_n 3, 1) := by decide +kernel
theorem dM_isExcluded_42 : decode prog_11_method_38_code 42 = .ok (.iinc 4 1, 3) := by decide +kernel
theorem dM_isExcluded_45 : decode prog_11_method_38_code 45 = .ok (.goto (-40), 3) := by decide +kernel
theorem dM_isExcluded_48 : decode prog_11_method_38_code 48 = .ok (.iload_n 3, 1) := by decide +kernel
theorem dM_isExcluded_49 : decode prog_11_method_38_code 49 = .ok (.ireturn, 1) := by decide +kernel
theorem dM_exclude_0 : decode prog_11_method_39_code 0 = .ok (.aload_n 0, 1) := by decide +kernel
theorem dM_exclude_1 : decode prog_11_method_39_code 1 = .ok (.iload_n 1, 1) := by decide +kernel
theorem dM_exclude_2 : decode prog_11_method_39_code 2 = .ok (.ifCond .lt 11, 3) := by decide +kernel
theorem dM_exclude_5 : decode prog_11_method_39_code 5 = .ok (.iload_n 1, 1) := by decide +kernel
theorem dM_exclude_6 : decode prog_11_method_39_code 6 = .ok (.aload_n 0, 1) := by decide +kernel
theorem dM_exclude_7 : decode prog_11_method_39_code 7 = .ok (.getfield 249, 3) := by decide +kernel
theorem dM_exclude_10 : decode prog_11_method_39_code 10 = .ok (.if_icmp .lt 7, 3) := by decide +kernel
theorem dM_exclude_13 : decode prog_11_method_39_code 13 = .ok (.iconst 1, 1) := by decide +kernel
theorem dM_exclude_14 : decode prog_11_method_39_code 14 = .ok (.goto 4, 3) := by decide +kernel
theorem dM_exclude_17 : decode prog_11_method_39_code 17 = .ok (.iconst 0, 1) := by decide +kernel
theorem dM_exclude_18 : decode prog_11_method_39_code 18 = .ok (.invokevirtual 104, 3) := by decide +kernel
theorem dM_exclude_21 : decode prog_11_method_39_code 21 = .ok (.ifCond .eq 5, 3) := by decide +kernel
theorem dM_exclude_24 : decode prog_11_method_39_code 24 = .ok (.iconst 0, 1) := by decide +kernel
theorem dM_exclude_25 : decode prog_11_method_39_code 25 = .ok (.ireturn, 1) := by decide +kernel
theorem dM_exclude_26 : decode prog_11_method_39_code 26 = .ok (.iconst 0, 1) := by decide +kernel
theorem dM_exclude_27 : decode prog_11_method_39_code 27 = .ok (.istore_n 3, 1) := by decide +kernel
theorem dM_exclude_28 : decode prog_11_method_39_code 28 = .ok (.iconst 0, 1) := by decide +kernel
theorem dM_exclude_29 : decode prog_11_method_39_code 29 = .ok (.istore 4, 2) := by decide +kernel
theorem dM_exclude_31 : decode prog_11_method_39_code 31 = .ok (.iload 4, 2) := by decide +kernel
theorem dM_exclude_33 : decode prog_11_method_39_code 33 = .ok (.aload_n 0, 1) := by decide +kernel
theorem dM_exclude_34 : decode prog_11_method_39_code 34 = .ok (.getfield 28, 3) := by decide +kernel
theorem dM_exclude_37 : decode prog_11_method_39_code 37 = .ok (.iload_n 1, 1) := by decide +kernel
theorem dM_exclude_38 : decode prog_11_method_39_code 38 = .ok (.iaload, 1) := by decide +kernel
theorem dM_exclude_39 : decode prog_11_method_39_code 39 = .ok (.if_icmp .ge 36, 3) := by decide +kernel
theorem dM_exclude_42 : decode prog_11_method_39_code 42 = .ok (.iload_n 3, 1) := by decide +kernel
theorem dM_exclude_43 : decode prog_11_method_39_code 43 = .ok (.ifCond .ne 20, 3) := by decide +kernel
theorem dM_exclude_46 : decode prog_11_method_39_code 46 = .ok (.aload_n 0, 1) := by decide +kernel
theorem dM_exclude_47 : decode prog_11_method_39_code 47 = .ok (.getfield 25, 3) := by decide +kernel
theorem dM_exclude_50 : decode prog_11_method_39_code 50 = .ok (.sipush 200, 3) := by decide +kernel
theorem dM_exclude_53 : decode prog_11_method_39_code 53 = .ok (.iload_n 1, 1) := by decide +kernel
theorem dM_exclude_54 : decode prog_11_method_39_code 54 = .ok (.imul, 1) := by decide +kernel
theorem dM_exclude_55 : decode prog_11_method_39_code 55 = .ok (.iload 4, 2) := by decide +kernel
theorem dM_exclude_57 : decode prog_11_method_39_code 57 = .ok (.iadd, 1) := by decide +kernel
theorem dM_exclude_58 : decode prog_11_method_39_code 58 = .ok (.iaload, 1) := by decide +kernel
theorem dM_exclude_59 : decode prog_11_method_39_code 59 = .ok (.iload_n 2, 1) := by decide +kernel
theorem dM_exclude_60 : decode prog_11_method_39_code 60 = .ok (.if_icmp .ne 7, 3) := by decide +kernel
theorem dM_exclude_63 : decode prog_11_method_39_code 63 = .ok (.iconst 1, 1) := by decide +kernel
theorem dM_exclude_64 : decode prog_11_method_39_code 64 = .ok (.goto 4, 3) := by decide +kernel
theorem dM_exclude_67 : decode prog_11_method_39_code 67 = .ok (.iconst 0, 1) := by decide +kernel
theorem dM_exclude_68 : decode prog_11_method_39_code 68 = .ok (.istore_n 3, 1) := by decide +kernel
theorem dM_exclude_69 : decode prog_11_method_39_code 69 = .ok (.iinc 4 1, 3) := by decide +kernel
theorem dM_exclude_72 : decode prog_11_method_39_code 72 = .ok (.goto (-41), 3) := by decide +kernel
theorem dM_exclude_75 : decode prog_11_method_39_code 75 = .ok (.iload_n 3, 1) := by decide +kernel
theorem dM_exclude_76 : decode prog_11_method_39_code 76 = .ok (.ifCond .eq 23, 3) := by decide +kernel
theorem dM_exclude_79 : decode prog_11_method_39_code 79 = .ok (.aload_n 0, 1) := by decide +kernel
theorem dM_exclude_80 : decode prog_11_method_39_code 80 = .ok (.getfield 34, 3) := by decide +kernel
theorem dM_exclude_83 : decode prog_11_method_39_code 83 = .ok (.iload_n 1, 1) := by decide +kernel
theorem dM_exclude_84 : decode prog_11_method_39_code 84 = .ok (.iaload, 1) := by decide +kernel
theorem dM_exclude_85 : decode prog_11_method_39_code 85 = .ok (.bipush 12, 2) := by decide +kernel
theorem dM_exclude_87 : decode prog_11_method_39_code 87 = .ok (.if_icmp .eq 12, 3) := by decide +kernel
theorem dM_exclude_90 : decode prog_11_method_39_code 90 = .ok (.aload_n 0, 1) := by decide +kernel
theorem dM_exclude_91 : decode prog_11_method_39_code 91 = .ok (.iload_n 1, 1) := by decide +kernel
theorem dM_exclude_92 : decode prog_11_method_39_code 92 = .ok (.iload_n 2, 1) := by decide +kernel
theorem dM_exclude_93 : decode prog_11_method_39_code 93 = .ok (.invokevirtual 258, 3) := by decide +kernel
theorem dM_exclude_96 : decode prog_11_method_39_code 96 = .ok (.ifCond .eq 5, 3) := by decide +kernel
theorem dM_exclude_99 : decode prog_11_method_39_code 99 = .ok (.iconst 0, 1) := by decide +kernel
theorem dM_exclude_100 : decode prog_11_method_39_code 100 = .ok (.ireturn, 1) := by decide +kernel
theorem dM_exclude_101 : decode prog_11_method_39_code 101 = .ok (.aload_n 0, 1) := by decide +kernel
theorem dM_exclude_102 : decode prog_11_method_39_code 102 = .ok (.getfield 31, 3) := by decide +kernel
theorem dM_exclude_105 : decode prog_11_method_39_code 105 = .ok (.bipush 12, 2) := by decide +kernel
theorem dM_exclude_107 : decode prog_11_method_39_code 107 = .ok (.iload_n 1, 1) := by decide +kernel
theorem dM_exclude_108 : decode prog_11_method_39_code 108 = .ok (.imul, 1) := by decide +kernel
theorem dM_exclude_109 : decode prog_11_method_39_code 109 = .ok (.aload_n 0, 1) := by decide +kernel
theorem dM_exclude_110 : decode prog_11_method_39_code 110 = .ok (.getfield 34, 3) := by decide +kernel
theorem dM_exclude_113 : decode prog_11_method_39_code 113 = .ok (.iload_n 1, 1) := by decide +kernel
theorem dM_exclude_114 : decode prog_11_method_39_code 114 = .ok (.iaload, 1) := by decide +kernel
theorem dM_exclude_115 : decode prog_11_method_39_code 115 = .ok (.iadd, 1) := by decide +kernel
theorem dM_exclude_116 : decode prog_11_method_39_code 116 = .ok (.iload_n 2, 1) := by decide +kernel
theorem dM_exclude_117 : decode prog_11_method_39_code 117 = .ok (.iastore, 1) := by decide +kernel
theorem dM_exclude_118 : decode prog_11_method_39_code 118 = .ok (.aload_n 0, 1) := by decide +kernel
theorem dM_exclude_119 : decode prog_11_method_39_code 119 = .ok (.getfield 34, 3) := by decide +kernel
theorem dM_exclude_122 : decode prog_11_method_39_code 122 = .ok (.iload_n 1, 1) := by decide +kernel
theorem dM_exclude_123 : decode prog_11_method_39_code 123 = .ok (.dup2, 1) := by decide +kernel
theorem dM_exclude_124 : decode prog_11_method_39_code 124 = .ok (.iaload, 1) := by decide +kernel
theorem dM_exclude_125 : decode prog_11_method_39_code 125 = .ok (.iconst 1, 1) := by decide +kernel
theorem dM_exclude_126 : decode prog_11_method_39_code 126 = .ok (.iadd, 1) := by decide +kernel
theorem dM_exclude_127 : decode prog_11_method_39_code 127 = .ok (.iastore, 1) := by decide +kernel
theorem dM_exclude_128 : decode prog_11_method_39_code 128 = .ok (.iconst 1, 1) := by decide +kernel
theorem dM_exclude_129 : decode prog_11_method_39_code 129 = .ok (.ireturn, 1) := by decide +kernel
theorem dM_times_0 : decode prog_11_method_40_code 0 = .ok (.aload_n 0, 1) := by decide +kernel
theorem dM_times_1 : decode prog_11_method_40_code 1 = .ok (.iload_n 1, 1) := by decide +kernel
theorem dM_times_2 : decode prog_11_method_40_code 2 = .ok (.ifCond .lt 11, 3) := by decide +kernel
theorem dM_times_5 : decode prog_11_method_40_code 5 = .ok (.iload_n 1, 1) := by decide +kernel
theorem dM_times_6 : decode prog_11_method_40_code 6 = .ok (.aload_n 0, 1) := by decide +kernel
theorem dM_times_7 : decode prog_11_method_40_code 7 = .ok (.getfield 249, 3) := by decide +kernel
theorem dM_times_10 : decode prog_11_method_40_code 10 = .ok (.if_icmp .lt 7, 3) := by decide +kernel
theorem dM_times_13 : decode prog_11_method_40_code 13 = .ok (.iconst 1, 1) := by decide +kernel
theorem dM_times_14 : decode prog_11_method_40_code 14 = .ok (.goto 4, 3) := by decide +kernel
theorem dM_times_17 : decode prog_11_method_40_code 17 = .ok (.iconst 0, 1) := by decide +kernel
theorem dM_times_18 : decode prog_11_method_40_code 18 = .ok (.invokevirtual 104, 3) := by decide +kernel
theorem dM_times_21 : decode prog_11_method_40_code 21 = .ok (.ifCond .eq 7, 3) := by decide +kernel
theorem dM_times_24 : decode prog_11_method_40_code 24 = .ok (.iconst 0, 1) := by decide +kernel
theorem dM_times_25 : decode prog_11_method_40_code 25 = .ok (.goto 16, 3) := by decide +kernel
theorem dM_times_28 : decode prog_11_method_40_code 28 = .ok (.aload_n 0, 1) := by decide +kernel
theorem dM_times_29 : decode prog_11_method_40_code 29 = .ok (.getfield 28, 3) := by decide +kernel
theorem dM_times_32 : decode prog_11_method_40_code 32 = .ok (.iload_n 1, 1) := by decide +kernel
theorem dM_times_33 : decode prog_11_method_40_code 33 = .ok (.iaload, 1) := by decide +kernel
theorem dM_times_34 : decode prog_11_method_40_code 34 = .ok (.aload_n 0, 1) := by decide +kernel
theorem dM_times_35 : decode prog_11_method_40_code 35 = .ok (.getfield 34, 3) := by decide +kernel
theorem dM_times_38 : decode prog_11_method_40_code 38 = .ok (.iload_n 1, 1) := by decide +kernel
theorem dM_times_39 : decode prog_11_method_40_code 39 = .ok (.iaload, 1) := by decide +kernel
theorem dM_times_40 : decode prog_11_method_40_code 40 = .ok (.isub, 1) := by decide +kernel
theorem dM_times_41 : decode prog_11_method_40_code 41 = .ok (.ireturn, 1) := by decide +kernel
theorem dM_timeDay_0 : decode prog_11_method_41_code 0 = .ok (.iload_n 1, 1) := by decide +kernel
theorem dM_timeDay_1 : decode prog_11_method_41_code 1 = .ok (.ifCond .lt 32, 3) := by decide +kernel
theorem dM_timeDay_4 : decode prog_11_method_41_code 4 = .ok (.iload_n 1, 1) := by decide +kernel
theorem dM_timeDay_5 : decode prog_11_method_41_code 5 = .ok (.aload_n 0, 1) := by decide +kernel
theorem dM_timeDay_6 : decode prog_11_method_41_code 6 = .ok (.getfield 249, 3) := by decide +kernel
theorem dM_timeDay_9 : decode prog_11_method_41_code 9 = .ok (.if_icmp .ge 24, 3) := by decide +kernel
theorem dM_timeDay_12 : decode prog_11_method_41_code 12 = .ok (.iload_n 2, 1) := by decide +kernel
theorem dM_timeDay_13 : decode prog_11_method_41_code 13 = .ok (.ifCond .lt 20, 3) := by decide +kernel
theorem dM_timeDay_16 : decode prog_11_method_41_code 16 = .ok (.iload_n 2, 1) := by decide +kernel
theorem dM_timeDay_17 : decode prog_11_method_41_code 17 = .ok (.aload_n 0, 1) := by decide +kernel
theorem dM_timeDay_18 : decode prog_11_method_41_code 18 = .ok (.getfield 28, 3) := by decide +kernel
theorem dM_timeDay_21 : decode prog_11_method_41_code 21 = .ok (.iload_n 1, 1) := by decide +kernel
theorem dM_timeDay_22 : decode prog_11_method_41_code 22 = .ok (.iaload, 1) := by decide +kernel
theorem dM_timeDay_23 : decode prog_11_method_41_code 23 = .ok (.aload_n 0, 1) := by decide +kernel
theorem dM_timeDay_24 : decode prog_11_method_41_code 24 = .ok (.getfield 34, 3) := by decide +kernel
theorem dM_timeDay_27 : decode prog_11_method_41_code 27 = .ok (.iload_n 1, 1) := by decide +kernel
theorem dM_timeDay_28 : decode prog_11_method_41_code 28 = .ok (.iaload, 1) := by decide +kernel
theorem dM_timeDay_29 : decode prog_11_method_41_code 29 = .ok (.isub, 1) := by decide +kernel
theorem dM_timeDay_30 : decode prog_11_method_41_code 30 = .ok (.if_icmp .lt 5, 3) := by decide +kernel
theorem dM_timeDay_33 : decode prog_11_method_41_code 33 = .ok (.iconst (-1), 1) := by decide +kernel
theorem dM_timeDay_34 : decode prog_11_method_41_code 34 = .ok (.ireturn, 1) := by decide +kernel
theorem dM_timeDay_35 : decode prog_11_method_41_code 35 = .ok (.iconst (-1), 1) := by decide +kernel
theorem dM_timeDay_36 : decode prog_11_method_41_code 36 = .ok (.istore_n 3, 1) := by decide +kernel
theorem dM_timeDay_37 : decode prog_11_method_41_code 37 = .ok (.iload_n 2, 1) := by decide +kernel
theorem dM_timeDay_38 : decode prog_11_method_41_code 38 = .ok (.istore 4, 2) := by decide +kernel
theorem dM_timeDay_40 : decode prog_11_method_41_code 40 = .ok (.iload 4, 2) := by decide +kernel
theorem dM_timeDay_42 : decode prog_11_method_41_code 42 = .ok (.ifCond .lt 38, 3) := by decide +kernel
theorem dM_timeDay_45 : decode prog_11_method_41_code 45 = .ok (.iinc 3 1, 3) := by decide +kernel
theorem dM_timeDay_48 : decode prog_11_method_41_code 48 = .ok (.aload_n 0, 1) := by decide +kernel
theorem dM_timeDay_49 : decode prog_11_method_41_code 49 = .ok (.iload_n 1, 1) := by decide +kernel
theorem dM_timeDay_50 : decode prog_11_method_41_code 50 = .ok (.aload_n 0, 1) := by decide +kernel
theorem dM_timeDay_51 : decode prog_11_method_41_code 51 = .ok (.getfield 25, 3) := by decide +kernel
theorem dM_timeDay_54 : decode prog_11_method_41_code 54 = .ok (.sipush 200, 3) := by decide +kernel
theorem dM_timeDay_57 : decode prog_11_method_41_code 57 = .ok (.iload_n 1, 1) := by decide +kernel
theorem dM_timeDay_58 : decode prog_11_method_41_code 58 = .ok (.imul, 1) := by decide +kernel
theorem dM_timeDay_59 : decode prog_11_method_41_code 59 = .ok (.iload_n 3, 1) := by decide +kernel
theorem dM_timeDay_60 : decode prog_11_method_41_code 60 = .ok (.iadd, 1) := by decide +kernel
theorem dM_timeDay_61 : decode prog_11_method_41_code 61 = .ok (.iaload, 1) := by decide +kernel
theorem dM_timeDay_62 : decode prog_11_method_41_code 62 = .ok (.invokevirtual 258, 3) := by decide +kernel
theorem dM_timeDay_65 : decode prog_11_method_41_code 65 = .ok (.ifCond .eq 9, 3) := by decide +kernel
theorem dM_timeDay_68 : decode prog_11_method_41_code 68 = .ok (.iinc 3 1, 3) := by decide +kernel
theorem dM_timeDay_71 : decode prog_11_method_41_code 71 = .ok (.goto (-23), 3) := by decide +kernel
theorem dM_timeDay_74 : decode prog_11_method_41_code 74 = .ok (.iinc 4 (-1), 3) := by decide +kernel
theorem dM_timeDay_77 : decode prog_11_method_41_code 77 = .ok (.goto (-37), 3) := by decide +kernel
theorem dM_timeDay_80 : decode prog_11_method_41_code 80 = .ok (.aload_n 0, 1) := by decide +kernel
theorem dM_timeDay_81 : decode prog_11_method_41_code 81 = .ok (.getfield 25, 3) := by decide +kernel
theorem dM_timeDay_84 : decode prog_11_method_41_code 84 = .ok (.sipush 200, 3) := by decide +kernel
theorem dM_timeDay_87 : decode prog_11_method_41_code 87 = .ok (.iload_n 1, 1) := by decide +kernel
theorem dM_timeDay_88 : decode prog_11_method_41_code 88 = .ok (.imul, 1) := by decide +kernel
theorem dM_timeDay_89 : decode prog_11_method_41_code 89 = .ok (.iload_n 3, 1) := by decide +kernel
theorem dM_timeDay_90 : decode prog_11_method_41_code 90 = .ok (.iadd, 1) := by decide +kernel
theorem dM_timeDay_91 : decode prog_11_method_41_code 91 = .ok (.iaload, 1) := by decide +kernel
theorem dM_timeDay_92 : decode prog_11_method_41_code 92 = .ok (.ireturn, 1) := by decide +kernel
theorem dM_day_0 : decode prog_11_method_42_code 0 = .ok (.aload_n 0, 1) := by decide +kernel
theorem dM_day_1 : decode prog_11_method_42_code 1 = .ok (.iload_n 1, 1) := by decide +kernel
theorem dM_day_2 : decode prog_11_method_42_code 2 = .ok (.iload_n 2, 1) := by decide +kernel
theorem dM_day_3 : decode prog_11_method_42_code 3 = .ok (.invokevirtual 262, 3) := by decide +kernel
theorem dM_day_6 : decode prog_11_method_42_code 6 = .ok (.istore_n 3, 1) := by decide +kernel
theorem dM_day_7 : decode prog_11_method_42_code 7 = .ok (.aload_n 0, 1) := by decide +kernel
theorem dM_day_8 : decode prog_11_method_42_code 8 = .ok (.iload_n 3, 1) := by decide +kernel
theorem dM_day_9 : decode prog_11_method_42_code 9 = .ok (.ifCond .ge 7, 3) := by decide +kernel
theorem dM_day_12 : decode prog_11_method_42_code 12 = .ok (.iconst 1, 1) := by decide +kernel
theorem dM_day_13 : decode prog_11_method_42_code 13 = .ok (.goto 4, 3) := by decide +kernel
theorem dM_day_16 : decode prog_11_method_42_code 16 = .ok (.iconst 0, 1) := by decide +kernel
theorem dM_day_17 : decode prog_11_method_42_code 17 = .ok (.invokevirtual 104, 3) := by decide +kernel
theorem dM_day_20 : decode prog_11_method_42_code 20 = .ok (.ifCond .eq 7, 3) := by decide +kernel
theorem dM_day_23 : decode prog_11_method_42_code 23 = .ok (.iconst 0, 1) := by decide +kernel
theorem dM_day_24 : decode prog_11_method_42_code 24 = .ok (.goto 4, 3) := by decide +kernel
theorem dM_day_27 : decode prog_11_method_42_code 27 = .ok (.iload_n 3, 1) := by decide +kernel
theorem dM_day_28 : decode prog_11_method_42_code 28 = .ok (.ireturn, 1) := by decide +kernel
theorem dM_moment_0 : decode prog_11_method_43_code 0 = .ok (.aload_n 0, 1) := by decide +kernel
theorem dM_moment_1 : decode prog_11_method_43_code 1 = .ok (.iload_n 1, 1) := by decide +kernel
theorem dM_moment_2 : decode prog_11_method_43_code 2 = .ok (.iload_n 2, 1) := by decide +kernel
theorem dM_moment_3 : decode prog_11_method_43_code 3 = .ok (.invokevirtual 262, 3) := by decide +kernel
theorem dM_moment_6 : decode prog_11_method_43_code 6 = .ok (.istore_n 3, 1) := by decide +kernel
theorem dM_moment_7 : decode prog_11_method_43_code 7 = .ok (.aload_n 0, 1) := by decide +kernel
theorem dM_moment_8 : decode prog_11_method_43_code 8 = .ok (.iload_n 3, 1) := by decide +kernel
theorem dM_moment_9 : decode prog_11_method_43_code 9 = .ok (.ifCond .ge 7, 3) := by decide +kernel
theorem dM_moment_12 : decode prog_11_method_43_code 12 = .ok (.iconst 1, 1) := by decide +kernel
theorem dM_moment_13 : decode prog_11_method_43_code 13 = .ok (.goto 4, 3) := by decide +kernel
theorem dM_moment_16 : decode prog_11_method_43_code 16 = .ok (.iconst 0, 1) := by decide +kernel
theorem dM_moment_17 : decode prog_11_method_43_code 17 = .ok (.invokevirtual 104, 3) := by decide +kernel
theorem dM_moment_20 : decode prog_11_method_43_code 20 = .ok (.ifCond .eq 7, 3) := by decide +kernel
theorem dM_moment_23 : decode prog_11_method_43_code 23 = .ok (.iconst 0, 1) := by decide +kernel
theorem dM_moment_24 : decode prog_11_method_43_code 24 = .ok (.goto 19, 3) := by decide +kernel
theorem dM_moment_27 : decode prog_11_method_43_code 27 = .ok (.aload_n 0, 1) := by decide +kernel
theorem dM_moment_28 : decode prog_11_method_43_code 28 = .ok (.sipush 1440, 3) := by decide +kernel
theorem dM_moment_31 : decode prog_11_method_43_code 31 = .ok (.iload_n 3, 1) := by decide +kernel
theorem dM_moment_32 : decode prog_11_method_43_code 32 = .ok (.imul, 1) := by decide +kernel
theorem dM_moment_33 : decode prog_11_method_43_code 33 = .ok (.aload_n 0, 1) := by decide +kernel
theorem dM_moment_34 : decode prog_11_method_43_code 34 = .ok (.getfield 19, 3) := by decide +kernel
theorem dM_moment_37 : decode prog_11_method_43_code 37 = .ok (.iload_n 1, 1) := by decide +kernel
theorem dM_moment_38 : decode prog_11_method_43_code 38 = .ok (.iaload, 1) := by decide +kernel
theorem dM_moment_39 : decode prog_11_method_43_code 39 = .ok (.iadd, 1) := by decide +kernel
theorem dM_moment_40 : decode prog_11_method_43_code 40 = .ok (.invokevirtual 265, 3) := by decide +kernel
theorem dM_moment_43 : decode prog_11_method_43_code 43 = .ok (.ireturn, 1) := by decide +kernel
theorem dM_least_0 : decode prog_11_method_44_code 0 = .ok (.iload_n 0, 1) := by decide +kernel
theorem dM_least_1 : decode prog_11_method_44_code 1 = .ok (.iload_n 1, 1) := by decide +kernel
theorem dM_least_2 : decode prog_11_method_44_code 2 = .ok (.if_icmp .ge 7, 3) := by decide +kernel
theorem dM_least_5 : decode prog_11_method_44_code 5 = .ok (.iload_n 0, 1) := by decide +kernel
theorem dM_least_6 : decode prog_11_method_44_code 6 = .ok (.goto 4, 3) := by decide +kernel
theorem dM_least_9 : decode prog_11_method_44_code 9 = .ok (.iload_n 1, 1) := by decide +kernel
theorem dM_least_10 : decode prog_11_method_44_code 10 = .ok (.ireturn, 1) := by decide +kernel
theorem dM_greatest_0 : decode prog_11_method_45_code 0 = .ok (.iload_n 0, 1) := by decide +kernel
theorem dM_greatest_1 : decode prog_11_method_45_code 1 = .ok (.iload_n 1, 1) := by decide +kernel
theorem dM_greatest_2 : decode prog_11_method_45_code 2 = .ok (.if_icmp .le 7, 3) := by decide +kernel
theorem dM_greatest_5 : decode prog_11_method_45_code 5 = .ok (.iload_n 0, 1) := by decide +kernel
theorem dM_greatest_6 : decode prog_11_method_45_code 6 = .ok (.goto 4, 3) := by decide +kernel
theorem dM_greatest_9 : decode prog_11_method_45_code 9 = .ok (.iload_n 1, 1) := by decide +kernel
theorem dM_greatest_10 : decode prog_11_method_45_code 10 = .ok (.ireturn, 1) := by decide +kernel
