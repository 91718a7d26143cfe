/-! Decoded instructions. -/
theorem dM_readRule_0 : decode prog_11_method_30_code 0 = .ok (.aload_n 0, 1) := by decide +kernel
theorem dM_readRule_1 : decode prog_11_method_30_code 1 = .ok (.iconst 0, 1) := by decide +kernel
theorem dM_readRule_2 : decode prog_11_method_30_code 2 = .ok (.putfield 115, 3) := by decide +kernel
theorem dM_readRule_5 : decode prog_11_method_30_code 5 = .ok (.aload_n 0, 1) := by decide +kernel
theorem dM_readRule_6 : decode prog_11_method_30_code 6 = .ok (.iconst 0, 1) := by decide +kernel
theorem dM_readRule_7 : decode prog_11_method_30_code 7 = .ok (.putfield 138, 3) := by decide +kernel
theorem dM_readRule_10 : decode prog_11_method_30_code 10 = .ok (.aload_n 0, 1) := by decide +kernel
theorem dM_readRule_11 : decode prog_11_method_30_code 11 = .ok (.iconst 1, 1) := by decide +kernel
theorem dM_readRule_12 : decode prog_11_method_30_code 12 = .ok (.putfield 192, 3) := by decide +kernel
theorem dM_readRule_15 : decode prog_11_method_30_code 15 = .ok (.aload_n 0, 1) := by decide +kernel
theorem dM_readRule_16 : decode prog_11_method_30_code 16 = .ok (.sipush 200, 3) := by decide +kernel
theorem dM_readRule_19 : decode prog_11_method_30_code 19 = .ok (.putfield 197, 3) := by decide +kernel
theorem dM_readRule_22 : decode prog_11_method_30_code 22 = .ok (.aload_n 0, 1) := by decide +kernel
theorem dM_readRule_23 : decode prog_11_method_30_code 23 = .ok (.ldc 214, 2) := by decide +kernel
theorem dM_readRule_25 : decode prog_11_method_30_code 25 = .ok (.putfield 144, 3) := by decide +kernel
theorem dM_readRule_28 : decode prog_11_method_30_code 28 = .ok (.aload_n 0, 1) := by decide +kernel
theorem dM_readRule_29 : decode prog_11_method_30_code 29 = .ok (.iconst 0, 1) := by decide +kernel
theorem dM_readRule_30 : decode prog_11_method_30_code 30 = .ok (.putfield 174, 3) := by decide +kernel
theorem dM_readRule_33 : decode prog_11_method_30_code 33 = .ok (.iconst 0, 1) := by decide +kernel
theorem dM_readRule_34 : decode prog_11_method_30_code 34 = .ok (.istore_n 1, 1) := by decide +kernel
theorem dM_readRule_35 : decode prog_11_method_30_code 35 = .ok (.iload_n 1, 1) := by decide +kernel
theorem dM_readRule_36 : decode prog_11_method_30_code 36 = .ok (.bipush 13, 2) := by decide +kernel
theorem dM_readRule_38 : decode prog_11_method_30_code 38 = .ok (.if_icmp .ge 16, 3) := by decide +kernel
theorem dM_readRule_41 : decode prog_11_method_30_code 41 = .ok (.aload_n 0, 1) := by decide +kernel
theorem dM_readRule_42 : decode prog_11_method_30_code 42 = .ok (.getfield 37, 3) := by decide +kernel
theorem dM_readRule_45 : decode prog_11_method_30_code 45 = .ok (.iload_n 1, 1) := by decide +kernel
theorem dM_readRule_46 : decode prog_11_method_30_code 46 = .ok (.iconst 0, 1) := by decide +kernel
theorem dM_readRule_47 : decode prog_11_method_30_code 47 = .ok (.bastore, 1) := by decide +kernel
theorem dM_readRule_48 : decode prog_11_method_30_code 48 = .ok (.iinc 1 1, 3) := by decide +kernel
theorem dM_readRule_51 : decode prog_11_method_30_code 51 = .ok (.goto (-16), 3) := by decide +kernel
theorem dM_readRule_54 : decode prog_11_method_30_code 54 = .ok (.aload_n 0, 1) := by decide +kernel
theorem dM_readRule_55 : decode prog_11_method_30_code 55 = .ok (.iconst 0, 1) := by decide +kernel
theorem dM_readRule_56 : decode prog_11_method_30_code 56 = .ok (.putfield 171, 3) := by decide +kernel
theorem dM_readRule_59 : decode prog_11_method_30_code 59 = .ok (.aload_n 0, 1) := by decide +kernel
theorem dM_readRule_60 : decode prog_11_method_30_code 60 = .ok (.iconst 0, 1) := by decide +kernel
theorem dM_readRule_61 : decode prog_11_method_30_code 61 = .ok (.putfield 168, 3) := by decide +kernel
theorem dM_readRule_64 : decode prog_11_method_30_code 64 = .ok (.aload_n 0, 1) := by decide +kernel
theorem dM_readRule_65 : decode prog_11_method_30_code 65 = .ok (.getfield 112, 3) := by decide +kernel
theorem dM_readRule_68 : decode prog_11_method_30_code 68 = .ok (.ifCond .ne 5, 3) := by decide +kernel
theorem dM_readRule_71 : decode prog_11_method_30_code 71 = .ok (.iconst 1, 1) := by decide +kernel
theorem dM_readRule_72 : decode prog_11_method_30_code 72 = .ok (.ireturn, 1) := by decide +kernel
theorem dM_readRule_73 : decode prog_11_method_30_code 73 = .ok (.iconst 0, 1) := by decide +kernel
theorem dM_readRule_74 : decode prog_11_method_30_code 74 = .ok (.istore_n 1, 1) := by decide +kernel
theorem dM_readRule_75 : decode prog_11_method_30_code 75 = .ok (.iconst 1, 1) := by decide +kernel
theorem dM_readRule_76 : decode prog_11_method_30_code 76 = .ok (.istore_n 2, 1) := by decide +kernel
theorem dM_readRule_77 : decode prog_11_method_30_code 77 = .ok (.iload_n 2, 1) := by decide +kernel
theorem dM_readRule_78 : decode prog_11_method_30_code 78 = .ok (.ifCond .eq 34, 3) := by decide +kernel
theorem dM_readRule_81 : decode prog_11_method_30_code 81 = .ok (.aload_n 0, 1) := by decide +kernel
theorem dM_readRule_82 : decode prog_11_method_30_code 82 = .ok (.invokevirtual 215, 3) := by decide +kernel
theorem dM_readRule_85 : decode prog_11_method_30_code 85 = .ok (.istore_n 3, 1) := by decide +kernel
theorem dM_readRule_86 : decode prog_11_method_30_code 86 = .ok (.iload_n 3, 1) := by decide +kernel
theorem dM_readRule_87 : decode prog_11_method_30_code 87 = .ok (.ifCond .eq 9, 3) := by decide +kernel
theorem dM_readRule_90 : decode prog_11_method_30_code 90 = .ok (.iload_n 1, 1) := by decide +kernel
theorem dM_readRule_91 : decode prog_11_method_30_code 91 = .ok (.iload_n 3, 1) := by decide +kernel
theorem dM_readRule_92 : decode prog_11_method_30_code 92 = .ok (.iand, 1) := by decide +kernel
theorem dM_readRule_93 : decode prog_11_method_30_code 93 = .ok (.ifCond .eq 5, 3) := by decide +kernel
theorem dM_readRule_96 : decode prog_11_method_30_code 96 = .ok (.iconst 0, 1) := by decide +kernel
theorem dM_readRule_97 : decode prog_11_method_30_code 97 = .ok (.ireturn, 1) := by decide +kernel
theorem dM_readRule_98 : decode prog_11_method_30_code 98 = .ok (.iload_n 1, 1) := by decide +kernel
theorem dM_readRule_99 : decode prog_11_method_30_code 99 = .ok (.iload_n 3, 1) := by decide +kernel
theorem dM_readRule_100 : decode prog_11_method_30_code 100 = .ok (.ior, 1) := by decide +kernel
theorem dM_readRule_101 : decode prog_11_method_30_code 101 = .ok (.istore_n 1, 1) := by decide +kernel
theorem dM_readRule_102 : decode prog_11_method_30_code 102 = .ok (.aload_n 0, 1) := by decide +kernel
theorem dM_readRule_103 : decode prog_11_method_30_code 103 = .ok (.bipush 59, 2) := by decide +kernel
theorem dM_readRule_105 : decode prog_11_method_30_code 105 = .ok (.invokevirtual 161, 3) := by decide +kernel
theorem dM_readRule_108 : decode prog_11_method_30_code 108 = .ok (.istore_n 2, 1) := by decide +kernel
theorem dM_readRule_109 : decode prog_11_method_30_code 109 = .ok (.goto (-32), 3) := by decide +kernel
theorem dM_readRule_112 : decode prog_11_method_30_code 112 = .ok (.iconst 1, 1) := by decide +kernel
theorem dM_readRule_113 : decode prog_11_method_30_code 113 = .ok (.istore_n 3, 1) := by decide +kernel
theorem dM_readRule_114 : decode prog_11_method_30_code 114 = .ok (.iconst 0, 1) := by decide +kernel
theorem dM_readRule_115 : decode prog_11_method_30_code 115 = .ok (.istore 4, 2) := by decide +kernel
theorem dM_readRule_117 : decode prog_11_method_30_code 117 = .ok (.iload 4, 2) := by decide +kernel
theorem dM_readRule_119 : decode prog_11_method_30_code 119 = .ok (.aload_n 0, 1) := by decide +kernel
theorem dM_readRule_120 : decode prog_11_method_30_code 120 = .ok (.getfield 168, 3) := by decide +kernel
theorem dM_readRule_123 : decode prog_11_method_30_code 123 = .ok (.if_icmp .ge 29, 3) := by decide +kernel
theorem dM_readRule_126 : decode prog_11_method_30_code 126 = .ok (.iload_n 3, 1) := by decide +kernel
theorem dM_readRule_127 : decode prog_11_method_30_code 127 = .ok (.ifCond .eq 17, 3) := by decide +kernel
theorem dM_readRule_130 : decode prog_11_method_30_code 130 = .ok (.aload_n 0, 1) := by decide +kernel
theorem dM_readRule_131 : decode prog_11_method_30_code 131 = .ok (.getfield 47, 3) := by decide +kernel
theorem dM_readRule_134 : decode prog_11_method_30_code 134 = .ok (.iload 4, 2) := by decide +kernel
theorem dM_readRule_136 : decode prog_11_method_30_code 136 = .ok (.iaload, 1) := by decide +kernel
theorem dM_readRule_137 : decode prog_11_method_30_code 137 = .ok (.ifCond .ne 7, 3) := by decide +kernel
theorem dM_readRule_140 : decode prog_11_method_30_code 140 = .ok (.iconst 1, 1) := by decide +kernel
theorem dM_readRule_141 : decode prog_11_method_30_code 141 = .ok (.goto 4, 3) := by decide +kernel
theorem dM_readRule_144 : decode prog_11_method_30_code 144 = .ok (.iconst 0, 1) := by decide +kernel
theorem dM_readRule_145 : decode prog_11_method_30_code 145 = .ok (.istore_n 3, 1) := by decide +kernel
theorem dM_readRule_146 : decode prog_11_method_30_code 146 = .ok (.iinc 4 1, 3) := by decide +kernel
theorem dM_readRule_149 : decode prog_11_method_30_code 149 = .ok (.goto (-32), 3) := by decide +kernel
theorem dM_readRule_152 : decode prog_11_method_30_code 152 = .ok (.aload_n 0, 1) := by decide +kernel
theorem dM_readRule_153 : decode prog_11_method_30_code 153 = .ok (.getfield 115, 3) := by decide +kernel
theorem dM_readRule_156 : decode prog_11_method_30_code 156 = .ok (.aload_n 0, 1) := by decide +kernel
theorem dM_readRule_157 : decode prog_11_method_30_code 157 = .ok (.getfield 112, 3) := by decide +kernel
theorem dM_readRule_160 : decode prog_11_method_30_code 160 = .ok (.if_icmp .ne 50, 3) := by decide +kernel
theorem dM_readRule_163 : decode prog_11_method_30_code 163 = .ok (.iload_n 1, 1) := by decide +kernel
theorem dM_readRule_164 : decode prog_11_method_30_code 164 = .ok (.iconst 1, 1) := by decide +kernel
theorem dM_readRule_165 : decode prog_11_method_30_code 165 = .ok (.iand, 1) := by decide +kernel
theorem dM_readRule_166 : decode prog_11_method_30_code 166 = .ok (.iconst 1, 1) := by decide +kernel
theorem dM_readRule_167 : decode prog_11_method_30_code 167 = .ok (.if_icmp .ne 43, 3) := by decide +kernel
theorem dM_readRule_170 : decode prog_11_method_30_code 170 = .ok (.iload_n 1, 1) := by decide +kernel
theorem dM_readRule_171 : decode prog_11_method_30_code 171 = .ok (.bipush 12, 2) := by decide +kernel
theorem dM_readRule_173 : decode prog_11_method_30_code 173 = .ok (.iand, 1) := by decide +kernel
theorem dM_readRule_174 : decode prog_11_method_30_code 174 = .ok (.bipush 12, 2) := by decide +kernel
theorem dM_readRule_176 : decode prog_11_method_30_code 176 = .ok (.if_icmp .eq 34, 3) := by decide +kernel
theorem dM_readRule_179 : decode prog_11_method_30_code 179 = .ok (.iload_n 3, 1) := by decide +kernel
theorem dM_readRule_180 : decode prog_11_method_30_code 180 = .ok (.ifCond .ne 11, 3) := by decide +kernel
theorem dM_readRule_183 : decode prog_11_method_30_code 183 = .ok (.aload_n 0, 1) := by decide +kernel
theorem dM_readRule_184 : decode prog_11_method_30_code 184 = .ok (.getfield 138, 3) := by decide +kernel
theorem dM_readRule_187 : decode prog_11_method_30_code 187 = .ok (.iconst 2, 1) := by decide +kernel
theorem dM_readRule_188 : decode prog_11_method_30_code 188 = .ok (.if_icmp .le 22, 3) := by decide +kernel
theorem dM_readRule_191 : decode prog_11_method_30_code 191 = .ok (.aload_n 0, 1) := by decide +kernel
theorem dM_readRule_192 : decode prog_11_method_30_code 192 = .ok (.getfield 138, 3) := by decide +kernel
theorem dM_readRule_195 : decode prog_11_method_30_code 195 = .ok (.iconst 2, 1) := by decide +kernel
theorem dM_readRule_196 : decode prog_11_method_30_code 196 = .ok (.if_icmp .ne 10, 3) := by decide +kernel
theorem dM_readRule_199 : decode prog_11_method_30_code 199 = .ok (.iload_n 1, 1) := by decide +kernel
theorem dM_readRule_200 : decode prog_11_method_30_code 200 = .ok (.bipush 32, 2) := by decide +kernel
theorem dM_readRule_202 : decode prog_11_method_30_code 202 = .ok (.iand, 1) := by decide +kernel
theorem dM_readRule_203 : decode prog_11_method_30_code 203 = .ok (.ifCond .ne 7, 3) := by decide +kernel
theorem dM_readRule_206 : decode prog_11_method_30_code 206 = .ok (.iconst 1, 1) := by decide +kernel
theorem dM_readRule_207 : decode prog_11_method_30_code 207 = .ok (.goto 4, 3) := by decide +kernel
theorem dM_readRule_210 : decode prog_11_method_30_code 210 = .ok (.iconst 0, 1) := by decide +kernel
theorem dM_readRule_211 : decode prog_11_method_30_code 211 = .ok (.ireturn, 1) := by decide +kernel
theorem dM_byMonthDay_0 : decode prog_11_method_31_code 0 = .ok (.aload_n 0, 1) := by decide +kernel
theorem dM_byMonthDay_1 : decode prog_11_method_31_code 1 = .ok (.getfield 171, 3) := by decide +kernel
theorem dM_byMonthDay_4 : decode prog_11_method_31_code 4 = .ok (.ifCond .ne 7, 3) := by decide +kernel
theorem dM_byMonthDay_7 : decode prog_11_method_31_code 7 = .ok (.iconst 1, 1) := by decide +kernel
theorem dM_byMonthDay_8 : decode prog_11_method_31_code 8 = .ok (.goto 4, 3) := by decide +kernel
theorem dM_byMonthDay_11 : decode prog_11_method_31_code 11 = .ok (.iconst 0, 1) := by decide +kernel
theorem dM_byMonthDay_12 : decode prog_11_method_31_code 12 = .ok (.istore_n 1, 1) := by decide +kernel
theorem dM_byMonthDay_13 : decode prog_11_method_31_code 13 = .ok (.aload_n 0, 1) := by decide +kernel
theorem dM_byMonthDay_14 : decode prog_11_method_31_code 14 = .ok (.getfield 64, 3) := by decide +kernel
theorem dM_byMonthDay_17 : decode prog_11_method_31_code 17 = .ok (.aload_n 0, 1) := by decide +kernel
theorem dM_byMonthDay_18 : decode prog_11_method_31_code 18 = .ok (.getfield 71, 3) := by decide +kernel
theorem dM_byMonthDay_21 : decode prog_11_method_31_code 21 = .ok (.invokestatic 74, 3) := by decide +kernel
theorem dM_byMonthDay_24 : decode prog_11_method_31_code 24 = .ok (.istore_n 2, 1) := by decide +kernel
theorem dM_byMonthDay_25 : decode prog_11_method_31_code 25 = .ok (.iconst 0, 1) := by decide +kernel
theorem dM_byMonthDay_26 : decode prog_11_method_31_code 26 = .ok (.istore_n 3, 1) := by decide +kernel
theorem dM_byMonthDay_27 : decode prog_11_method_31_code 27 = .ok (.iload_n 3, 1) := by decide +kernel
theorem dM_byMonthDay_28 : decode prog_11_method_31_code 28 = .ok (.aload_n 0, 1) := by decide +kernel
theorem dM_byMonthDay_29 : decode prog_11_method_31_code 29 = .ok (.getfield 171, 3) := by decide +kernel
theorem dM_byMonthDay_32 : decode prog_11_method_31_code 32 = .ok (.if_icmp .ge 61, 3) := by decide +kernel
theorem dM_byMonthDay_35 : decode prog_11_method_31_code 35 = .ok (.iload_n 1, 1) := by decide +kernel
theorem dM_byMonthDay_36 : decode prog_11_method_31_code 36 = .ok (.ifCond .ne 45, 3) := by decide +kernel
theorem dM_byMonthDay_39 : decode prog_11_method_31_code 39 = .ok (.aload_n 0, 1) := by decide +kernel
theorem dM_byMonthDay_40 : decode prog_11_method_31_code 40 = .ok (.getfield 41, 3) := by decide +kernel
theorem dM_byMonthDay_43 : decode prog_11_method_31_code 43 = .ok (.iload_n 3, 1) := by decide +kernel
theorem dM_byMonthDay_44 : decode prog_11_method_31_code 44 = .ok (.iaload, 1) := by decide +kernel
theorem dM_byMonthDay_45 : decode prog_11_method_31_code 45 = .ok (.ifCond .le 19, 3) := by decide +kernel
theorem dM_byMonthDay_48 : decode prog_11_method_31_code 48 = .ok (.aload_n 0, 1) := by decide +kernel
theorem dM_byMonthDay_49 : decode prog_11_method_31_code 49 = .ok (.getfield 41, 3) := by decide +kernel
theorem dM_byMonthDay_52 : decode prog_11_method_31_code 52 = .ok (.iload_n 3, 1) := by decide +kernel
theorem dM_byMonthDay_53 : decode prog_11_method_31_code 53 = .ok (.iaload, 1) := by decide +kernel
theorem dM_byMonthDay_54 : decode prog_11_method_31_code 54 = .ok (.aload_n 0, 1) := by decide +kernel
theorem dM_byMonthDay_55 : decode prog_11_method_31_code 55 = .ok (.getfield 78, 3) := by decide +kernel
theorem dM_byMonthDay_58 : decode prog_11_method_31_code 58 = .ok (.if_icmp .ne 27, 3) := by decide +kernel
theorem dM_byMonthDay_61 : decode prog_11_method_31_code 61 = .ok (.goto 20, 3) := by decide +kernel
theorem dM_byMonthDay_64 : decode prog_11_method_31_code 64 = .ok (.iload_n 2, 1) := by decide +kernel
theorem dM_byMonthDay_65 : decode prog_11_method_31_code 65 = .ok (.iconst 1, 1) := by decide +kernel
theorem dM_byMonthDay_66 : decode prog_11_method_31_code 66 = .ok (.iadd, 1) := by decide +kernel
theorem dM_byMonthDay_67 : decode prog_11_method_31_code 67 = .ok (.aload_n 0, 1) := by decide +kernel
theorem dM_byMonthDay_68 : decode prog_11_method_31_code 68 = .ok (.getfield 41, 3) := by decide +kernel
theorem dM_byMonthDay_71 : decode prog_11_method_31_code 71 = .ok (.iload_n 3, 1) := by decide +kernel
theorem dM_byMonthDay_72 : decode prog_11_method_31_code 72 = .ok (.iaload, 1) := by decide +kernel
theorem dM_byMonthDay_73 : decode prog_11_method_31_code 73 = .ok (.iadd, 1) := by decide +kernel
theorem dM_byMonthDay_74 : decode prog_11_method_31_code 74 = .ok (.aload_n 0, 1) := by decide +kernel
theorem dM_byMonthDay_75 : decode prog_11_method_31_code 75 = .ok (.getfield 78, 3) := by decide +kernel
theorem dM_byMonthDay_78 : decode prog_11_method_31_code 78 = .ok (.if_icmp .ne 7, 3) := by decide +kernel
theorem dM_byMonthDay_81 : decode prog_11_method_31_code 81 = .ok (.iconst 1, 1) := by decide +kernel
theorem dM_byMonthDay_82 : decode prog_11_method_31_code 82 = .ok (.goto 4, 3) := by decide +kernel
theorem dM_byMonthDay_85 : decode prog_11_method_31_code 85 = .ok (.iconst 0, 1) := by decide +kernel
theorem dM_byMonthDay_86 : decode prog_11_method_31_code 86 = .ok (.istore_n 1, 1) := by decide +kernel
theorem dM_byMonthDay_87 : decode prog_11_method_31_code 87 = .ok (.iinc 3 1, 3) := by decide +kernel
theorem dM_byMonthDay_90 : decode prog_11_method_31_code 90 = .ok (.goto (-63), 3) := by decide +kernel
theorem dM_byMonthDay_93 : decode prog_11_method_31_code 93 = .ok (.iload_n 1, 1) := by decide +kernel
theorem dM_byMonthDay_94 : decode prog_11_method_31_code 94 = .ok (.ireturn, 1) := by decide +kernel
theorem dM_byWeekday_0 : decode prog_11_method_32_code 0 = .ok (.aload_n 0, 1) := by decide +kernel
theorem dM_byWeekday_1 : decode prog_11_method_32_code 1 = .ok (.getfield 168, 3) := by decide +kernel
theorem dM_byWeekday_4 : decode prog_11_method_32_code 4 = .ok (.ifCond .ne 7, 3) := by decide +kernel
theorem dM_byWeekday_7 : decode prog_11_method_32_code 7 = .ok (.iconst 1, 1) := by decide +kernel
theorem dM_byWeekday_8 : decode prog_11_method_32_code 8 = .ok (.goto 4, 3) := by decide +kernel
theorem dM_byWeekday_11 : decode prog_11_method_32_code 11 = .ok (.iconst 0, 1) := by decide +kernel
theorem dM_byWeekday_12 : decode prog_11_method_32_code 12 = .ok (.istore_n 2, 1) := by decide +kernel
theorem dM_byWeekday_13 : decode prog_11_method_32_code 13 = .ok (.iload_n 1, 1) := by decide +kernel
theorem dM_byWeekday_14 : decode prog_11_method_32_code 14 = .ok (.invokestatic 89, 3) := by decide +kernel
theorem dM_byWeekday_17 : decode prog_11_method_32_code 17 = .ok (.istore_n 3, 1) := by decide +kernel
theorem dM_byWeekday_18 : decode prog_11_method_32_code 18 = .ok (.aload_n 0, 1) := by decide +kernel
theorem dM_byWeekday_19 : decode prog_11_method_32_code 19 = .ok (.getfield 78, 3) := by decide +kernel
theorem dM_byWeekday_22 : decode prog_11_method_32_code 22 = .ok (.bipush 6, 2) := by decide +kernel
theorem dM_byWeekday_24 : decode prog_11_method_32_code 24 = .ok (.iadd, 1) := by decide +kernel
theorem dM_byWeekday_25 : decode prog_11_method_32_code 25 = .ok (.bipush 7, 2) := by decide +kernel
theorem dM_byWeekday_27 : decode prog_11_method_32_code 27 = .ok (.idiv, 1) := by decide +kernel
theorem dM_byWeekday_28 : decode prog_11_method_32_code 28 = .ok (.istore 4, 2) := by decide +kernel
theorem dM_byWeekday_30 : decode prog_11_method_32_code 30 = .ok (.aload_n 0, 1) := by decide +kernel
theorem dM_byWeekday_31 : decode prog_11_method_32_code 31 = .ok (.getfield 64, 3) := by decide +kernel
theorem dM_byWeekday_34 : decode prog_11_method_32_code 34 = .ok (.aload_n 0, 1) := by decide +kernel
theorem dM_byWeekday_35 : decode prog_11_method_32_code 35 = .ok (.getfield 71, 3) := by decide +kernel
theorem dM_byWeekday_38 : decode prog_11_method_32_code 38 = .ok (.invokestatic 74, 3) := by decide +kernel
theorem dM_byWeekday_41 : decode prog_11_method_32_code 41 = .ok (.aload_n 0, 1) := by decide +kernel
theorem dM_byWeekday_42 : decode prog_11_method_32_code 42 = .ok (.getfield 78, 3) := by decide +kernel
theorem dM_byWeekday_45 : decode prog_11_method_32_code 45 = .ok (.isub, 1) := by decide +kernel
theorem dM_byWeekday_46 : decode prog_11_method_32_code 46 = .ok (.bipush 7, 2) := by decide +kernel
theorem dM_byWeekday_48 : decode prog_11_method_32_code 48 = .ok (.idiv, 1) := by decide +kernel
theorem dM_byWeekday_49 : decode prog_11_method_32_code 49 = .ok (.iconst 1, 1) := by decide +kernel
theorem dM_byWeekday_50 : decode prog_11_method_32_code 50 = .ok (.iadd, 1) := by decide +kernel
theorem dM_byWeekday_51 : decode prog_11_method_32_code 51 = .ok (.istore 5, 2) := by decide +kernel
theorem dM_byWeekday_53 : decode prog_11_method_32_code 53 = .ok (.iconst 0, 1) := by decide +kernel
theorem dM_byWeekday_54 : decode prog_11_method_32_code 54 = .ok (.istore 6, 2) := by decide +kernel
theorem dM_byWeekday_56 : decode prog_11_method_32_code 56 = .ok (.iload 6, 2) := by decide +kernel
theorem dM_byWeekday_58 : decode prog_11_method_32_code 58 = .ok (.aload_n 0, 1) := by decide +kernel
theorem dM_byWeekday_59 : decode prog_11_method_32_code 59 = .ok (.getfield 168, 3) := by decide +kernel
theorem dM_byWeekday_62 : decode prog_11_method_32_code 62 = .ok (.if_icmp .ge 65, 3) := by decide +kernel
theorem dM_byWeekday_65 : decode prog_11_method_32_code 65 = .ok (.iload_n 2, 1) := by decide +kernel
theorem dM_byWeekday_66 : decode prog_11_method_32_code 66 = .ok (.ifCond .ne 49, 3) := by decide +kernel
theorem dM_byWeekday_69 : decode prog_11_method_32_code 69 = .ok (.aload_n 0, 1) := by decide +kernel
theorem dM_byWeekday_70 : decode prog_11_method_32_code 70 = .ok (.getfield 44, 3) := by decide +kernel
theorem dM_byWeekday_73 : decode prog_11_method_32_code 73 = .ok (.iload 6, 2) := by decide +kernel
theorem dM_byWeekday_75 : decode prog_11_method_32_code 75 = .ok (.iaload, 1) := by decide +kernel
theorem dM_byWeekday_76 : decode prog_11_method_32_code 76 = .ok (.iload_n 3, 1) := by decide +kernel
theorem dM_byWeekday_77 : decode prog_11_method_32_code 77 = .ok (.if_icmp .ne 42, 3) := by decide +kernel
theorem dM_byWeekday_80 : decode prog_11_method_32_code 80 = .ok (.aload_n 0, 1) := by decide +kernel
theorem dM_byWeekday_81 : decode prog_11_method_32_code 81 = .ok (.getfield 47, 3) := by decide +kernel
theorem dM_byWeekday_84 : decode prog_11_method_32_code 84 = .ok (.iload 6, 2) := by decide +kernel
theorem dM_byWeekday_86 : decode prog_11_method_32_code 86 = .ok (.iaload, 1) := by decide +kernel
theorem dM_byWeekday_87 : decode prog_11_method_32_code 87 = .ok (.ifCond .eq 28, 3) := by decide +kernel
theorem dM_byWeekday_90 : decode prog_11_method_32_code 90 = .ok (.aload_n 0, 1) := by decide +kernel
theorem dM_byWeekday_91 : decode prog_11_method_32_code 91 = .ok (.getfield 47, 3) := by decide +kernel
theorem dM_byWeekday_94 : decode prog_11_method_32_code 94 = .ok (.iload 6, 2) := by decide +kernel
theorem dM_byWeekday_96 : decode prog_11_method_32_code 96 = .ok (.iaload, 1) := by decide +kernel
theorem dM_byWeekday_97 : decode prog_11_method_32_code 97 = .ok (.iload 4, 2) := by decide +kernel
theorem dM_byWeekday_99 : decode prog_11_method_32_code 99 = .ok (.if_icmp .eq 16, 3) := by decide +kernel
theorem dM_byWeekday_102 : decode prog_11_method_32_code 102 = .ok (.aload_n 0, 1) := by decide +kernel
theorem dM_byWeekday_103 : decode prog_11_method_32_code 103 = .ok (.getfield 47, 3) := by decide +kernel
theorem dM_byWeekday_106 : decode prog_11_method_32_code 106 = .ok (.iload 6, 2) := by decide +kernel
theorem dM_byWeekday_108 : decode prog_11_method_32_code 108 = .ok (.iaload, 1) := by decide +kernel
theorem dM_byWeekday_109 : decode prog_11_method_32_code 109 = .ok (.iload 5, 2) := by decide +kernel
theorem dM_byWeekday_111 : decode prog_11_method_32_code 111 = .ok (.ineg, 1) := by decide +kernel
theorem dM_byWeekday_112 : decode prog_11_method_32_code 112 = .ok (.if_icmp .ne 7, 3) := by decide +kernel
theorem dM_byWeekday_115 : decode prog_11_method_32_code 115 = .ok (.iconst 1, 1) := by decide +kernel
theorem dM_byWeekday_116 : decode prog_11_method_32_code 116 = .ok (.goto 4, 3) := by decide +kernel
theorem dM_byWeekday_119 : decode prog_11_method_32_code 119 = .ok (.iconst 0, 1) := by decide +kernel
theorem dM_byWeekday_120 : decode prog_11_method_32_code 120 = .ok (.istore_n 2, 1) := by decide +kernel
theorem dM_byWeekday_121 : decode prog_11_method_32_code 121 = .ok (.iinc 6 1, 3) := by decide +kernel
theorem dM_byWeekday_124 : decode prog_11_method_32_code 124 = .ok (.goto (-68), 3) := by decide +kernel
theorem dM_byWeekday_127 : decode prog_11_method_32_code 127 = .ok (.iload_n 2, 1) := by decide +kernel
theorem dM_byWeekday_128 : decode prog_11_method_32_code 128 = .ok (.ireturn, 1) := by decide +kernel
theorem dM_inPeriod_0 : decode prog_11_method_33_code 0 = .ok (.iconst 0, 1) := by decide +kernel
theorem dM_inPeriod_1 : decode prog_11_method_33_code 1 = .ok (.istore_n 2, 1) := by decide +kernel
theorem dM_inPeriod_2 : decode prog_11_method_33_code 2 = .ok (.aload_n 0, 1) := by decide +kernel
theorem dM_inPeriod_3 : decode prog_11_method_33_code 3 = .ok (.getfield 138, 3) := by decide +kernel
theorem dM_inPeriod_6 : decode prog_11_method_33_code 6 = .ok (.iconst 1, 1) := by decide +kernel
theorem dM_inPeriod_7 : decode prog_11_method_33_code 7 = .ok (.if_icmp .ne 10, 3) := by decide +kernel
theorem dM_inPeriod_10 : decode prog_11_method_33_code 10 = .ok (.iload_n 1, 1) := by decide +kernel
theorem dM_inPeriod_11 : decode prog_11_method_33_code 11 = .ok (.aload_n 0, 1) := by decide +kernel
theorem dM_inPeriod_12 : decode prog_11_method_33_code 12 = .ok (.getfield 218, 3) := by decide +kernel
theorem dM_inPeriod_15 : decode prog_11_method_33_code 15 = .ok (.isub, 1) := by decide +kernel
theorem dM_inPeriod_16 : decode prog_11_method_33_code 16 = .ok (.istore_n 2, 1) := by decide +kernel
theorem dM_inPeriod_17 : decode prog_11_method_33_code 17 = .ok (.aload_n 0, 1) := by decide +kernel
theorem dM_inPeriod_18 : decode prog_11_method_33_code 18 = .ok (.getfield 138, 3) := by decide +kernel
theorem dM_inPeriod_21 : decode prog_11_method_33_code 21 = .ok (.iconst 2, 1) := by decide +kernel
theorem dM_inPeriod_22 : decode prog_11_method_33_code 22 = .ok (.if_icmp .ne 26, 3) := by decide +kernel
theorem dM_inPeriod_25 : decode prog_11_method_33_code 25 = .ok (.iload_n 1, 1) := by decide +kernel
theorem dM_inPeriod_26 : decode prog_11_method_33_code 26 = .ok (.iload_n 1, 1) := by decide +kernel
theorem dM_inPeriod_27 : decode prog_11_method_33_code 27 = .ok (.invokestatic 89, 3) := by decide +kernel
theorem dM_inPeriod_30 : decode prog_11_method_33_code 30 = .ok (.isub, 1) := by decide +kernel
theorem dM_inPeriod_31 : decode prog_11_method_33_code 31 = .ok (.aload_n 0, 1) := by decide +kernel
theorem dM_inPeriod_32 : decode prog_11_method_33_code 32 = .ok (.getfield 218, 3) := by decide +kernel
theorem dM_inPeriod_35 : decode prog_11_method_33_code 35 = .ok (.isub, 1) := by decide +kernel
theorem dM_inPeriod_36 : decode prog_11_method_33_code 36 = .ok (.aload_n 0, 1) := by decide +kernel
theorem dM_inPeriod_37 : decode prog_11_method_33_code 37 = .ok (.getfield 218, 3) := by decide +kernel
theorem dM_inPeriod_40 : decode prog_11_method_33_code 40 = .ok (.invokestatic 89, 3) := by decide +kernel
theorem dM_inPeriod_43 : decode prog_11_method_33_code 43 = .ok (.iadd, 1) := by decide +kernel
theorem dM_inPeriod_44 : decode prog_11_method_33_code 44 = .ok (.bipush 7, 2) := by decide +kernel
theorem dM_inPeriod_46 : decode prog_11_method_33_code 46 = .ok (.idiv, 1) := by decide +kernel
theorem dM_inPeriod_47 : decode prog_11_method_33_code 47 = .ok (.istore_n 2, 1) := by decide +kernel
theorem dM_inPeriod_48 : decode prog_11_method_33_code 48 = .ok (.aload_n 0, 1) := by decide +kernel
theorem dM_inPeriod_49 : decode prog_11_method_33_code 49 = .ok (.getfield 138, 3) := by decide +kernel
theorem dM_inPeriod_52 : decode prog_11_method_33_code 52 = .ok (.iconst 3, 1) := by decide +kernel
theorem dM_inPeriod_53 : decode prog_11_method_33_code 53 = .ok (.if_icmp .ne 26, 3) := by decide +kernel
theorem dM_inPeriod_56 : decode prog_11_method_33_code 56 = .ok (.bipush 12, 2) := by decide +kernel
theorem dM_inPeriod_58 : decode prog_11_method_33_code 58 = .ok (.aload_n 0, 1) := by decide +kernel
theorem dM_inPeriod_59 : decode prog_11_method_33_code 59 = .ok (.getfield 64, 3) := by decide +kernel
theorem dM_inPeriod_62 : decode prog_11_method_33_code 62 = .ok (.aload_n 0, 1) := by decide +kernel
theorem dM_inPeriod_63 : decode prog_11_method_33_code 63 = .ok (.getfield 221, 3) := by decide +kernel
theorem dM_inPeriod_66 : decode prog_11_method_33_code 66 = .ok (.isub, 1) := by decide +kernel
theorem dM_inPeriod_67 : decode prog_11_method_33_code 67 = .ok (.imul, 1) := by decide +kernel
theorem dM_inPeriod_68 : decode prog_11_method_33_code 68 = .ok (.aload_n 0, 1) := by decide +kernel
theorem dM_inPeriod_69 : decode prog_11_method_33_code 69 = .ok (.getfield 71, 3) := by decide +kernel
theorem dM_inPeriod_72 : decode prog_11_method_33_code 72 = .ok (.iadd, 1) := by decide +kernel
theorem dM_inPeriod_73 : decode prog_11_method_33_code 73 = .ok (.aload_n 0, 1) := by decide +kernel
theorem dM_inPeriod_74 : decode prog_11_method_33_code 74 = .ok (.getfield 224, 3) := by decide +kernel
theorem dM_inPeriod_77 : decode prog_11_method_33_code 77 = .ok (.isub, 1) := by decide +kernel
theorem dM_inPeriod_78 : decode prog_11_method_33_code 78 = .ok (.istore_n 2, 1) := by decide +kernel
theorem dM_inPeriod_79 : decode prog_11_method_33_code 79 = .ok (.aload_n 0, 1) := by decide +kernel
theorem dM_inPeriod_80 : decode prog_11_method_33_code 80 = .ok (.getfield 138, 3) := by decide +kernel
theorem dM_inPeriod_83 : decode prog_11_method_33_code 83 = .ok (.iconst 4, 1) := by decide +kernel
theorem dM_inPeriod_84 : decode prog_11_method_33_code 84 = .ok (.if_icmp .ne 13, 3) := by decide +kernel
theorem dM_inPeriod_87 : decode prog_11_method_33_code 87 = .ok (.aload_n 0, 1) := by decide +kernel
theorem dM_inPeriod_88 : decode prog_11_method_33_code 88 = .ok (.getfield 64, 3) := by decide +kernel
theorem dM_inPeriod_91 : decode prog_11_method_33_code 91 = .ok (.aload_n 0, 1) := by decide +kernel
theorem dM_inPeriod_92 : decode prog_11_method_33_code 92 = .ok (.getfield 221, 3) := by decide +kernel
theorem dM_inPeriod_95 : decode prog_11_method_33_code 95 = .ok (.isub, 1) := by decide +kernel
theorem dM_inPeriod_96 : decode prog_11_method_33_code 96 = .ok (.istore_n 2, 1) := by decide +kernel
theorem dM_inPeriod_97 : decode prog_11_method_33_code 97 = .ok (.iload_n 2, 1) := by decide +kernel
theorem dM_inPeriod_98 : decode prog_11_method_33_code 98 = .ok (.aload_n 0, 1) := by decide +kernel
theorem dM_inPeriod_99 : decode prog_11_method_33_code 99 = .ok (.getfield 192, 3) := by decide +kernel
theorem dM_inPeriod_102 : decode prog_11_method_33_code 102 = .ok (.irem, 1) := by decide +kernel
theorem dM_inPeriod_103 : decode prog_11_method_33_code 103 = .ok (.ifCond .ne 7, 3) := by decide +kernel
theorem dM_inPeriod_106 : decode prog_11_method_33_code 106 = .ok (.iconst 1, 1) := by decide +kernel
theorem dM_inPeriod_107 : decode prog_11_method_33_code 107 = .ok (.goto 4, 3) := by decide +kernel
theorem dM_inPeriod_110 : decode prog_11_method_33_code 110 = .ok (.iconst 0, 1) := by decide +kernel
theorem dM_inPeriod_111 : decode prog_11_method_33_code 111 = .ok (.ireturn, 1) := by decide +kernel
theorem dM_means_0 : decode prog_11_method_34_code 0 = .ok (.aload_n 0, 1) := by decide +kernel
theorem dM_means_1 : decode prog_11_method_34_code 1 = .ok (.getfield 174, 3) := by decide +kernel
theorem dM_means_4 : decode prog_11_method_34_code 4 = .ok (.ifCond .eq 15, 3) := by decide +kernel
theorem dM_means_7 : decode prog_11_method_34_code 7 = .ok (.aload_n 0, 1) := by decide +kernel
theorem dM_means_8 : decode prog_11_method_34_code 8 = .ok (.getfield 37, 3) := by decide +kernel
theorem dM_means_11 : decode prog_11_method_34_code 11 = .ok (.aload_n 0, 1) := by decide +kernel
theorem dM_means_12 : decode prog_11_method_34_code 12 = .ok (.getfield 71, 3) := by decide +kernel
theorem dM_means_15 : decode prog_11_method_34_code 15 = .ok (.baload, 1) := by decide +kernel
theorem dM_means_16 : decode prog_11_method_34_code 16 = .ok (.goto 27, 3) := by decide +kernel
theorem dM_means_19 : decode prog_11_method_34_code 19 = .ok (.aload_n 0, 1) := by decide +kernel
theorem dM_means_20 : decode prog_11_method_34_code 20 = .ok (.getfield 138, 3) := by decide +kernel
theorem dM_means_23 : decode prog_11_method_34_code 23 = .ok (.iconst 4, 1) := by decide +kernel
theorem dM_means_24 : decode prog_11_method_34_code 24 = .ok (.if_icmp .ne 14, 3) := by decide +kernel
theorem dM_means_27 : decode prog_11_method_34_code 27 = .ok (.aload_n 0, 1) := by decide +kernel
theorem dM_means_28 : decode prog_11_method_34_code 28 = .ok (.getfield 71, 3) := by decide +kernel
theorem dM_means_31 : decode prog_11_method_34_code 31 = .ok (.aload_n 0, 1) := by decide +kernel
theorem dM_means_32 : decode prog_11_method_34_code 32 = .ok (.getfield 224, 3) := by decide +kernel
theorem dM_means_35 : decode prog_11_method_34_code 35 = .ok (.if_icmp .ne 7, 3) := by decide +kernel
theorem dM_means_38 : decode prog_11_method_34_code 38 = .ok (.iconst 1, 1) := by decide +kernel
theorem dM_means_39 : decode prog_11_method_34_code 39 = .ok (.goto 4, 3) := by decide +kernel
theorem dM_means_42 : decode prog_11_method_34_code 42 = .ok (.iconst 0, 1) := by decide +kernel
theorem dM_means_43 : decode prog_11_method_34_code 43 = .ok (.istore_n 2, 1) := by decide +kernel
theorem dM_means_44 : decode prog_11_method_34_code 44 = .ok (.iload_n 2, 1) := by decide +kernel
theorem dM_means_45 : decode prog_11_method_34_code 45 = .ok (.ifCond .ne 5, 3) := by decide +kernel
theorem dM_means_48 : decode prog_11_method_34_code 48 = .ok (.iconst 0, 1) := by decide +kernel
theorem dM_means_49 : decode prog_11_method_34_code 49 = .ok (.ireturn, 1) := by decide +kernel
theorem dM_means_50 : decode prog_11_method_34_code 50 = .ok (.aload_n 0, 1) := by decide +kernel
theorem dM_means_51 : decode prog_11_method_34_code 51 = .ok (.getfield 138, 3) := by decide +kernel
theorem dM_means_54 : decode prog_11_method_34_code 54 = .ok (.iconst 2, 1) := by decide +kernel
theorem dM_means_55 : decode prog_11_method_34_code 55 = .ok (.if_icmp .ne 38, 3) := by decide +kernel
theorem dM_means_58 : decode prog_11_method_34_code 58 = .ok (.aload_n 0, 1) := by decide +kernel
theorem dM_means_59 : decode prog_11_method_34_code 59 = .ok (.getfield 168, 3) := by decide +kernel
theorem dM_means_62 : decode prog_11_method_34_code 62 = .ok (.ifCond .ne 25, 3) := by decide +kernel
theorem dM_means_65 : decode prog_11_method_34_code 65 = .ok (.iload_n 1, 1) := by decide +kernel
theorem dM_means_66 : decode prog_11_method_34_code 66 = .ok (.invokestatic 89, 3) := by decide +kernel
theorem dM_means_69 : decode prog_11_method_34_code 69 = .ok (.aload_n 0, 1) := by decide +kernel
theorem dM_means_70 : decode prog_11_method_34_code 70 = .ok (.getfield 218, 3) := by decide +kernel
theorem dM_means_73 : decode prog_11_method_34_code 73 = .ok (.invokestatic 89, 3) := by decide +kernel
theorem dM_means_76 : decode prog_11_method_34_code 76 = .ok (.if_icmp .ne 7, 3) := by decide +kernel
theorem dM_means_79 : decode prog_11_method_34_code 79 = .ok (.iconst 1, 1) := by decide +kernel
theorem dM_means_80 : decode prog_11_method_34_code 80 = .ok (.goto 12, 3) := by decide +kernel
theorem dM_means_83 : decode prog_11_method_34_code 83 = .ok (.iconst 0, 1) := by decide +kernel
theorem dM_means_84 : decode prog_11_method_34_code 84 = .ok (.goto 8, 3) := by decide +kernel
theorem dM_means_87 : decode prog_11_method_34_code 87 = .ok (.aload_n 0, 1) := by decide +kernel
theorem dM_means_88 : decode prog_11_method_34_code 88 = .ok (.iload_n 1, 1) := by decide +kernel
theorem dM_means_89 : decode prog_11_method_34_code 89 = .ok (.invokevirtual 227, 3) := by decide +kernel
theorem dM_means_92 : decode prog_11_method_34_code 92 = .ok (.ireturn, 1) := by decide +kernel
theorem dM_means_93 : decode prog_11_method_34_code 93 = .ok (.aload_n 0, 1) := by decide +kernel
theorem dM_means_94 : decode prog_11_method_34_code 94 = .ok (.getfield 138, 3) := by decide +kernel
theorem dM_means_97 : decode prog_11_method_34_code 97 = .ok (.iconst 1, 1) := by decide +kernel
theorem dM_means_98 : decode prog_11_method_34_code 98 = .ok (.if_icmp .eq 34, 3) := by decide +kernel
theorem dM_means_101 : decode prog_11_method_34_code 101 = .ok (.aload_n 0, 1) := by decide +kernel
theorem dM_means_102 : decode prog_11_method_34_code 102 = .ok (.getfield 171, 3) := by decide +kernel
theorem dM_means_105 : decode prog_11_method_34_code 105 = .ok (.ifCond .ne 27, 3) := by decide +kernel
theorem dM_means_108 : decode prog_11_method_34_code 108 = .ok (.aload_n 0, 1) := by decide +kernel
theorem dM_means_109 : decode prog_11_method_34_code 109 = .ok (.getfield 168, 3) := by decide +kernel
theorem dM_means_112 : decode prog_11_method_34_code 112 = .ok (.ifCond .ne 20, 3) := by decide +kernel
theorem dM_means_115 : decode prog_11_method_34_code 115 = .ok (.aload_n 0, 1) := by decide +kernel
theorem dM_means_116 : decode prog_11_method_34_code 116 = .ok (.getfield 78, 3) := by decide +kernel
theorem dM_means_119 : decode prog_11_method_34_code 119 = .ok (.aload_n 0, 1) := by decide +kernel
theorem dM_means_120 : decode prog_11_method_34_code 120 = .ok (.getfield 230, 3) := by decide +kernel
theorem dM_means_123 : decode prog_11_method_34_code 123 = .ok (.if_icmp .ne 7, 3) := by decide +kernel
theorem dM_means_126 : decode prog_11_method_34_code 126 = .ok (.iconst 1, 1) := by decide +kernel
theorem dM_means_127 : decode prog_11_method_34_code 127 = .ok (.goto 4, 3) := by decide +kernel
theorem dM_means_130 : decode prog_11_method_34_code 130 = .ok (.iconst 0, 1) := by decide +kernel
theorem dM_means_131 : decode prog_11_method_34_code 131 = .ok (.ireturn, 1) := by decide +kernel
theorem dM_means_132 : decode prog_11_method_34_code 132 = .ok (.aload_n 0, 1) := by decide +kernel
theorem dM_means_133 : decode prog_11_method_34_code 133 = .ok (.invokevirtual 233, 3) := by decide +kernel
theorem dM_means_136 : decode prog_11_method_34_code 136 = .ok (.ifCond .eq 15, 3) := by decide +kernel
theorem dM_means_139 : decode prog_11_method_34_code 139 = .ok (.aload_n 0, 1) := by decide +kernel
theorem dM_means_140 : decode prog_11_method_34_code 140 = .ok (.iload_n 1, 1) := by decide +kernel
theorem dM_means_141 : decode prog_11_method_34_code 141 = .ok (.invokevirtual 227, 3) := by decide +kernel
theorem dM_means_144 : decode prog_11_method_34_code 144 = .ok (.ifCond .eq 7, 3) := by decide +kernel
theorem dM_means_147 : decode prog_11_method_34_code 147 = .ok (.iconst 1, 1) := by decide +kernel
theorem dM_means_148 : decode prog_11_method_34_code 148 = .ok (.goto 4, 3) := by decide +kernel
theorem dM_means_151 : decode prog_11_method_34_code 151 = .ok (.iconst 0, 1) := by decide +kernel
theorem dM_means_152 : decode prog_11_method_34_code 152 = .ok (.ireturn, 1) := by decide +kernel
theorem dM_behindPeriod_0 : decode prog_11_method_35_code 0 = .ok (.aload_n 0, 1) := by decide +kernel
theorem dM_behindPeriod_1 : decode prog_11_method_35_code 1 = .ok (.getfield 138, 3) := by decide +kernel
theorem dM_behindPeriod_4 : decode prog_11_method_35_code 4 = .ok (.iconst 1, 1) := by decide +kernel
theorem dM_behindPeriod_5 : decode prog_11_method_35_code 5 = .ok (.if_icmp .ne 22, 3) := by decide +kernel
theorem dM_behindPeriod_8 : decode prog_11_method_35_code 8 = .ok (.iload_n 1, 1) := by decide +kernel
theorem dM_behindPeriod_9 : decode prog_11_method_35_code 9 = .ok (.aload_n 0, 1) := by decide +kernel
theorem dM_behindPeriod_10 : decode prog_11_method_35_code 10 = .ok (.getfield 192, 3) := by decide +kernel
theorem dM_behindPeriod_13 : decode prog_11_method_35_code 13 = .ok (.iadd, 1) := by decide +kernel
theorem dM_behindPeriod_14 : decode prog_11_method_35_code 14 = .ok (.iload_n 1, 1) := by decide +kernel
theorem dM_behindPeriod_15 : decode prog_11_method_35_code 15 = .ok (.aload_n 0, 1) := by decide +kernel
theorem dM_behindPeriod_16 : decode prog_11_method_35_code 16 = .ok (.getfield 218, 3) := by decide +kernel
theorem dM_behindPeriod_19 : decode prog_11_method_35_code 19 = .ok (.isub, 1) := by decide +kernel
theorem dM_behindPeriod_20 : decode prog_11_method_35_code 20 = .ok (.aload_n 0, 1) := by decide +kernel
theorem dM_behindPeriod_21 : decode prog_11_method_35_code 21 = .ok (.getfield 192, 3) := by decide +kernel
theorem dM_behindPeriod_24 : decode prog_11_method_35_code 24 = .ok (.irem, 1) := by decide +kernel
theorem dM_behindPeriod_25 : decode prog_11_method_35_code 25 = .ok (.isub, 1) := by decide +kernel
theorem dM_behindPeriod_26 : decode prog_11_method_35_code 26 = .ok (.ireturn, 1) := by decide +kernel
theorem dM_behindPeriod_27 : decode prog_11_method_35_code 27 = .ok (.aload_n 0, 1) := by decide +kernel
theorem dM_behindPeriod_28 : decode prog_11_method_35_code 28 = .ok (.getfield 138, 3) := by decide +kernel
theorem dM_behindPeriod_31 : decode prog_11_method_35_code 31 = .ok (.iconst 2, 1) := by decide +kernel
theorem dM_behindPeriod_32 : decode prog_11_method_35_code 32 = .ok (.if_icmp .ne 13, 3) := by decide +kernel
theorem dM_behindPeriod_35 : decode prog_11_method_35_code 35 = .ok (.iload_n 1, 1) := by decide +kernel
theorem dM_behindPeriod_36 : decode prog_11_method_35_code 36 = .ok (.bipush 7, 2) := by decide +kernel
theorem dM_behindPeriod_38 : decode prog_11_method_35_code 38 = .ok (.iadd, 1) := by decide +kernel
theorem dM_behindPeriod_39 : decode prog_11_method_35_code 39 = .ok (.iload_n 1, 1) := by decide +kernel
theorem dM_behindPeriod_40 : decode prog_11_method_35_code 40 = .ok (.invokestatic 89, 3) := by decide +kernel
theorem dM_behindPeriod_43 : decode prog_11_method_35_code 43 = .ok (.isub, 1) := by decide +kernel
theorem dM_behindPeriod_44 : decode prog_11_method_35_code 44 = .ok (.ireturn, 1) := by decide +kernel
theorem dM_behindPeriod_45 : decode prog_11_method_35_code 45 = .ok (.aload_n 0, 1) := by decide +kernel
theorem dM_behindPeriod_46 : decode prog_11_method_35_code 46 = .ok (.getfield 138, 3) := by decide +kernel
theorem dM_behindPeriod_49 : decode prog_11_method_35_code 49 = .ok (.iconst 3, 1) := by decide +kernel
theorem dM_behindPeriod_50 : decode prog_11_method_35_code 50 = .ok (.if_icmp .ne 26, 3) := by decide +kernel
theorem dM_behindPeriod_53 : decode prog_11_method_35_code 53 = .ok (.iload_n 1, 1) := by decide +kernel
theorem dM_behindPeriod_54 : decode prog_11_method_35_code 54 = .ok (.aload_n 0, 1) := by decide +kernel
theorem dM_behindPeriod_55 : decode prog_11_method_35_code 55 = .ok (.getfield 78, 3) := by decide +kernel
theorem dM_behindPeriod_58 : decode prog_11_method_35_code 58 = .ok (.isub, 1) := by decide +kernel
theorem dM_behindPeriod_59 : decode prog_11_method_35_code 59 = .ok (.iconst 1, 1) := by decide +kernel
theorem dM_behindPeriod_60 : decode prog_11_method_35_code 60 = .ok (.iadd, 1) := by decide +kernel
theorem dM_behindPeriod_61 : decode prog_11_method_35_code 61 = .ok (.aload_n 0, 1) := by decide +kernel
theorem dM_behindPeriod_62 : decode prog_11_method_35_code 62 = .ok (.getfield 64, 3) := by decide +kernel
theorem dM_behindPeriod_65 : decode prog_11_method_35_code 65 = .ok (.aload_n 0, 1) := by decide +kernel
theorem dM_behindPeriod_66 : decode prog_11_method_35_code 66 = .ok (.getfield 71, 3) := by decide +kernel
theorem dM_behindPeriod_69 : decode prog_11_method_35_code 69 = .ok (.invokestatic 74, 3) := by decide +kernel
theorem dM_behindPeriod_72 : decode prog_11_method_35_code 72 = .ok (.iadd, 1) := by decide +kernel
theorem dM_behindPeriod_73 : decode prog_11_method_35_code 73 = .ok (.goto 12, 3) := by decide +kernel
theorem dM_behindPeriod_76 : decode prog_11_method_35_code 76 = .ok (.aload_n 0, 1) := by decide +kernel
theorem dM_behindPeriod_77 : decode prog_11_method_35_code 77 = .ok (.getfield 64, 3) := by decide +kernel
theorem dM_behindPeriod_80 : decode prog_11_method_35_code 80 = .ok (.iconst 1, 1) := by decide +kernel
theorem dM_behindPeriod_81 : decode prog_11_method_35_code 81 = .ok (.iadd, 1) := by decide +kernel
theorem dM_behindPeriod_82 : decode prog_11_method_35_code 82 = .ok (.invokestatic 67, 3) := by decide +kernel
theorem dM_behindPeriod_85 : decode prog_11_method_35_code 85 = .ok (.ireturn, 1) := by decide +kernel
