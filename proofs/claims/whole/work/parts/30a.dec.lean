/-! Decoded instructions. -/
theorem dM_join_0 : decode prog_11_method_46_code 0 = .ok (.iconst 0, 1) := by decide +kernel
theorem dM_join_1 : decode prog_11_method_46_code 1 = .ok (.istore_n 3, 1) := by decide +kernel
theorem dM_join_2 : decode prog_11_method_46_code 2 = .ok (.iload_n 3, 1) := by decide +kernel
theorem dM_join_3 : decode prog_11_method_46_code 3 = .ok (.aload_n 0, 1) := by decide +kernel
theorem dM_join_4 : decode prog_11_method_46_code 4 = .ok (.getfield 268, 3) := by decide +kernel
theorem dM_join_7 : decode prog_11_method_46_code 7 = .ok (.if_icmp .ge 19, 3) := by decide +kernel
theorem dM_join_10 : decode prog_11_method_46_code 10 = .ok (.aload_n 0, 1) := by decide +kernel
theorem dM_join_11 : decode prog_11_method_46_code 11 = .ok (.getfield 53, 3) := by decide +kernel
theorem dM_join_14 : decode prog_11_method_46_code 14 = .ok (.iload_n 3, 1) := by decide +kernel
theorem dM_join_15 : decode prog_11_method_46_code 15 = .ok (.iaload, 1) := by decide +kernel
theorem dM_join_16 : decode prog_11_method_46_code 16 = .ok (.iload_n 1, 1) := by decide +kernel
theorem dM_join_17 : decode prog_11_method_46_code 17 = .ok (.if_icmp .ge 9, 3) := by decide +kernel
theorem dM_join_20 : decode prog_11_method_46_code 20 = .ok (.iinc 3 1, 3) := by decide +kernel
theorem dM_join_23 : decode prog_11_method_46_code 23 = .ok (.goto (-21), 3) := by decide +kernel
theorem dM_join_26 : decode prog_11_method_46_code 26 = .ok (.iload_n 3, 1) := by decide +kernel
theorem dM_join_27 : decode prog_11_method_46_code 27 = .ok (.istore 4, 2) := by decide +kernel
theorem dM_join_29 : decode prog_11_method_46_code 29 = .ok (.iload_n 1, 1) := by decide +kernel
theorem dM_join_30 : decode prog_11_method_46_code 30 = .ok (.istore 5, 2) := by decide +kernel
theorem dM_join_32 : decode prog_11_method_46_code 32 = .ok (.iload_n 2, 1) := by decide +kernel
theorem dM_join_33 : decode prog_11_method_46_code 33 = .ok (.istore 6, 2) := by decide +kernel
theorem dM_join_35 : decode prog_11_method_46_code 35 = .ok (.iload 4, 2) := by decide +kernel
theorem dM_join_37 : decode prog_11_method_46_code 37 = .ok (.aload_n 0, 1) := by decide +kernel
theorem dM_join_38 : decode prog_11_method_46_code 38 = .ok (.getfield 268, 3) := by decide +kernel
theorem dM_join_41 : decode prog_11_method_46_code 41 = .ok (.if_icmp .ge 48, 3) := by decide +kernel
theorem dM_join_44 : decode prog_11_method_46_code 44 = .ok (.aload_n 0, 1) := by decide +kernel
theorem dM_join_45 : decode prog_11_method_46_code 45 = .ok (.getfield 50, 3) := by decide +kernel
theorem dM_join_48 : decode prog_11_method_46_code 48 = .ok (.iload 4, 2) := by decide +kernel
theorem dM_join_50 : decode prog_11_method_46_code 50 = .ok (.iaload, 1) := by decide +kernel
theorem dM_join_51 : decode prog_11_method_46_code 51 = .ok (.iload_n 2, 1) := by decide +kernel
theorem dM_join_52 : decode prog_11_method_46_code 52 = .ok (.if_icmp .gt 37, 3) := by decide +kernel
theorem dM_join_55 : decode prog_11_method_46_code 55 = .ok (.iload 5, 2) := by decide +kernel
theorem dM_join_57 : decode prog_11_method_46_code 57 = .ok (.aload_n 0, 1) := by decide +kernel
theorem dM_join_58 : decode prog_11_method_46_code 58 = .ok (.getfield 50, 3) := by decide +kernel
theorem dM_join_61 : decode prog_11_method_46_code 61 = .ok (.iload 4, 2) := by decide +kernel
theorem dM_join_63 : decode prog_11_method_46_code 63 = .ok (.iaload, 1) := by decide +kernel
theorem dM_join_64 : decode prog_11_method_46_code 64 = .ok (.invokestatic 271, 3) := by decide +kernel
theorem dM_join_67 : decode prog_11_method_46_code 67 = .ok (.istore 5, 2) := by decide +kernel
theorem dM_join_69 : decode prog_11_method_46_code 69 = .ok (.iload 6, 2) := by decide +kernel
theorem dM_join_71 : decode prog_11_method_46_code 71 = .ok (.aload_n 0, 1) := by decide +kernel
theorem dM_join_72 : decode prog_11_method_46_code 72 = .ok (.getfield 53, 3) := by decide +kernel
theorem dM_join_75 : decode prog_11_method_46_code 75 = .ok (.iload 4, 2) := by decide +kernel
theorem dM_join_77 : decode prog_11_method_46_code 77 = .ok (.iaload, 1) := by decide +kernel
theorem dM_join_78 : decode prog_11_method_46_code 78 = .ok (.invokestatic 274, 3) := by decide +kernel
theorem dM_join_81 : decode prog_11_method_46_code 81 = .ok (.istore 6, 2) := by decide +kernel
theorem dM_join_83 : decode prog_11_method_46_code 83 = .ok (.iinc 4 1, 3) := by decide +kernel
theorem dM_join_86 : decode prog_11_method_46_code 86 = .ok (.goto (-51), 3) := by decide +kernel
theorem dM_join_89 : decode prog_11_method_46_code 89 = .ok (.iload_n 3, 1) := by decide +kernel
theorem dM_join_90 : decode prog_11_method_46_code 90 = .ok (.iconst 1, 1) := by decide +kernel
theorem dM_join_91 : decode prog_11_method_46_code 91 = .ok (.iadd, 1) := by decide +kernel
theorem dM_join_92 : decode prog_11_method_46_code 92 = .ok (.iload 4, 2) := by decide +kernel
theorem dM_join_94 : decode prog_11_method_46_code 94 = .ok (.isub, 1) := by decide +kernel
theorem dM_join_95 : decode prog_11_method_46_code 95 = .ok (.istore 7, 2) := by decide +kernel
theorem dM_join_97 : decode prog_11_method_46_code 97 = .ok (.iload 7, 2) := by decide +kernel
theorem dM_join_99 : decode prog_11_method_46_code 99 = .ok (.iconst 1, 1) := by decide +kernel
theorem dM_join_100 : decode prog_11_method_46_code 100 = .ok (.if_icmp .ne 53, 3) := by decide +kernel
theorem dM_join_103 : decode prog_11_method_46_code 103 = .ok (.aload_n 0, 1) := by decide +kernel
theorem dM_join_104 : decode prog_11_method_46_code 104 = .ok (.getfield 268, 3) := by decide +kernel
theorem dM_join_107 : decode prog_11_method_46_code 107 = .ok (.istore 8, 2) := by decide +kernel
theorem dM_join_109 : decode prog_11_method_46_code 109 = .ok (.iload 8, 2) := by decide +kernel
theorem dM_join_111 : decode prog_11_method_46_code 111 = .ok (.iload_n 3, 1) := by decide +kernel
theorem dM_join_112 : decode prog_11_method_46_code 112 = .ok (.if_icmp .le 41, 3) := by decide +kernel
theorem dM_join_115 : decode prog_11_method_46_code 115 = .ok (.aload_n 0, 1) := by decide +kernel
theorem dM_join_116 : decode prog_11_method_46_code 116 = .ok (.getfield 50, 3) := by decide +kernel
theorem dM_join_119 : decode prog_11_method_46_code 119 = .ok (.iload 8, 2) := by decide +kernel
theorem dM_join_121 : decode prog_11_method_46_code 121 = .ok (.aload_n 0, 1) := by decide +kernel
theorem dM_join_122 : decode prog_11_method_46_code 122 = .ok (.getfield 50, 3) := by decide +kernel
theorem dM_join_125 : decode prog_11_method_46_code 125 = .ok (.iload 8, 2) := by decide +kernel
theorem dM_join_127 : decode prog_11_method_46_code 127 = .ok (.iconst 1, 1) := by decide +kernel
theorem dM_join_128 : decode prog_11_method_46_code 128 = .ok (.isub, 1) := by decide +kernel
theorem dM_join_129 : decode prog_11_method_46_code 129 = .ok (.iaload, 1) := by decide +kernel
theorem dM_join_130 : decode prog_11_method_46_code 130 = .ok (.iastore, 1) := by decide +kernel
theorem dM_join_131 : decode prog_11_method_46_code 131 = .ok (.aload_n 0, 1) := by decide +kernel
theorem dM_join_132 : decode prog_11_method_46_code 132 = .ok (.getfield 53, 3) := by decide +kernel
theorem dM_join_135 : decode prog_11_method_46_code 135 = .ok (.iload 8, 2) := by decide +kernel
theorem dM_join_137 : decode prog_11_method_46_code 137 = .ok (.aload_n 0, 1) := by decide +kernel
theorem dM_join_138 : decode prog_11_method_46_code 138 = .ok (.getfield 53, 3) := by decide +kernel
theorem dM_join_141 : decode prog_11_method_46_code 141 = .ok (.iload 8, 2) := by decide +kernel
theorem dM_join_143 : decode prog_11_method_46_code 143 = .ok (.iconst 1, 1) := by decide +kernel
theorem dM_join_144 : decode prog_11_method_46_code 144 = .ok (.isub, 1) := by decide +kernel
theorem dM_join_145 : decode prog_11_method_46_code 145 = .ok (.iaload, 1) := by decide +kernel
theorem dM_join_146 : decode prog_11_method_46_code 146 = .ok (.iastore, 1) := by decide +kernel
theorem dM_join_147 : decode prog_11_method_46_code 147 = .ok (.iinc 8 (-1), 3) := by decide +kernel
theorem dM_join_150 : decode prog_11_method_46_code 150 = .ok (.goto (-41), 3) := by decide +kernel
theorem dM_join_153 : decode prog_11_method_46_code 153 = .ok (.iload 4, 2) := by decide +kernel
theorem dM_join_155 : decode prog_11_method_46_code 155 = .ok (.istore 8, 2) := by decide +kernel
theorem dM_join_157 : decode prog_11_method_46_code 157 = .ok (.iload 8, 2) := by decide +kernel
theorem dM_join_159 : decode prog_11_method_46_code 159 = .ok (.aload_n 0, 1) := by decide +kernel
theorem dM_join_160 : decode prog_11_method_46_code 160 = .ok (.getfield 268, 3) := by decide +kernel
theorem dM_join_163 : decode prog_11_method_46_code 163 = .ok (.if_icmp .ge 48, 3) := by decide +kernel
theorem dM_join_166 : decode prog_11_method_46_code 166 = .ok (.iload 7, 2) := by decide +kernel
theorem dM_join_168 : decode prog_11_method_46_code 168 = .ok (.ifCond .ge 43, 3) := by decide +kernel
theorem dM_join_171 : decode prog_11_method_46_code 171 = .ok (.aload_n 0, 1) := by decide +kernel
theorem dM_join_172 : decode prog_11_method_46_code 172 = .ok (.getfield 50, 3) := by decide +kernel
theorem dM_join_175 : decode prog_11_method_46_code 175 = .ok (.iload 8, 2) := by decide +kernel
theorem dM_join_177 : decode prog_11_method_46_code 177 = .ok (.iload 7, 2) := by decide +kernel
theorem dM_join_179 : decode prog_11_method_46_code 179 = .ok (.iadd, 1) := by decide +kernel
theorem dM_join_180 : decode prog_11_method_46_code 180 = .ok (.aload_n 0, 1) := by decide +kernel
theorem dM_join_181 : decode prog_11_method_46_code 181 = .ok (.getfield 50, 3) := by decide +kernel
theorem dM_join_184 : decode prog_11_method_46_code 184 = .ok (.iload 8, 2) := by decide +kernel
theorem dM_join_186 : decode prog_11_method_46_code 186 = .ok (.iaload, 1) := by decide +kernel
theorem dM_join_187 : decode prog_11_method_46_code 187 = .ok (.iastore, 1) := by decide +kernel
theorem dM_join_188 : decode prog_11_method_46_code 188 = .ok (.aload_n 0, 1) := by decide +kernel
theorem dM_join_189 : decode prog_11_method_46_code 189 = .ok (.getfield 53, 3) := by decide +kernel
theorem dM_join_192 : decode prog_11_method_46_code 192 = .ok (.iload 8, 2) := by decide +kernel
theorem dM_join_194 : decode prog_11_method_46_code 194 = .ok (.iload 7, 2) := by decide +kernel
theorem dM_join_196 : decode prog_11_method_46_code 196 = .ok (.iadd, 1) := by decide +kernel
theorem dM_join_197 : decode prog_11_method_46_code 197 = .ok (.aload_n 0, 1) := by decide +kernel
theorem dM_join_198 : decode prog_11_method_46_code 198 = .ok (.getfield 53, 3) := by decide +kernel
theorem dM_join_201 : decode prog_11_method_46_code 201 = .ok (.iload 8, 2) := by decide +kernel
theorem dM_join_203 : decode prog_11_method_46_code 203 = .ok (.iaload, 1) := by decide +kernel
theorem dM_join_204 : decode prog_11_method_46_code 204 = .ok (.iastore, 1) := by decide +kernel
theorem dM_join_205 : decode prog_11_method_46_code 205 = .ok (.iinc 8 1, 3) := by decide +kernel
theorem dM_join_208 : decode prog_11_method_46_code 208 = .ok (.goto (-51), 3) := by decide +kernel
theorem dM_join_211 : decode prog_11_method_46_code 211 = .ok (.aload_n 0, 1) := by decide +kernel
theorem dM_join_212 : decode prog_11_method_46_code 212 = .ok (.getfield 50, 3) := by decide +kernel
theorem dM_join_215 : decode prog_11_method_46_code 215 = .ok (.iload_n 3, 1) := by decide +kernel
theorem dM_join_216 : decode prog_11_method_46_code 216 = .ok (.iload 5, 2) := by decide +kernel
theorem dM_join_218 : decode prog_11_method_46_code 218 = .ok (.iastore, 1) := by decide +kernel
theorem dM_join_219 : decode prog_11_method_46_code 219 = .ok (.aload_n 0, 1) := by decide +kernel
theorem dM_join_220 : decode prog_11_method_46_code 220 = .ok (.getfield 53, 3) := by decide +kernel
theorem dM_join_223 : decode prog_11_method_46_code 223 = .ok (.iload_n 3, 1) := by decide +kernel
theorem dM_join_224 : decode prog_11_method_46_code 224 = .ok (.iload 6, 2) := by decide +kernel
theorem dM_join_226 : decode prog_11_method_46_code 226 = .ok (.iastore, 1) := by decide +kernel
theorem dM_join_227 : decode prog_11_method_46_code 227 = .ok (.aload_n 0, 1) := by decide +kernel
theorem dM_join_228 : decode prog_11_method_46_code 228 = .ok (.dup, 1) := by decide +kernel
theorem dM_join_229 : decode prog_11_method_46_code 229 = .ok (.getfield 268, 3) := by decide +kernel
theorem dM_join_232 : decode prog_11_method_46_code 232 = .ok (.iload 7, 2) := by decide +kernel
theorem dM_join_234 : decode prog_11_method_46_code 234 = .ok (.iadd, 1) := by decide +kernel
theorem dM_join_235 : decode prog_11_method_46_code 235 = .ok (.putfield 268, 3) := by decide +kernel
theorem dM_join_238 : decode prog_11_method_46_code 238 = .ok (.return_, 1) := by decide +kernel
theorem dM_busy_0 : decode prog_11_method_47_code 0 = .ok (.aload_n 0, 1) := by decide +kernel
theorem dM_busy_1 : decode prog_11_method_47_code 1 = .ok (.iload_n 2, 1) := by decide +kernel
theorem dM_busy_2 : decode prog_11_method_47_code 2 = .ok (.iload_n 1, 1) := by decide +kernel
theorem dM_busy_3 : decode prog_11_method_47_code 3 = .ok (.if_icmp .le 15, 3) := by decide +kernel
theorem dM_busy_6 : decode prog_11_method_47_code 6 = .ok (.iload_n 2, 1) := by decide +kernel
theorem dM_busy_7 : decode prog_11_method_47_code 7 = .ok (.i2l, 1) := by decide +kernel
theorem dM_busy_8 : decode prog_11_method_47_code 8 = .ok (.iload_n 1, 1) := by decide +kernel
theorem dM_busy_9 : decode prog_11_method_47_code 9 = .ok (.i2l, 1) := by decide +kernel
theorem dM_busy_10 : decode prog_11_method_47_code 10 = .ok (.lsub, 1) := by decide +kernel
theorem dM_busy_11 : decode prog_11_method_47_code 11 = .ok (.ldc2_w 277, 3) := by decide +kernel
theorem dM_busy_14 : decode prog_11_method_47_code 14 = .ok (.lcmp, 1) := by decide +kernel
theorem dM_busy_15 : decode prog_11_method_47_code 15 = .ok (.ifCond .le 7, 3) := by decide +kernel
theorem dM_busy_18 : decode prog_11_method_47_code 18 = .ok (.iconst 1, 1) := by decide +kernel
theorem dM_busy_19 : decode prog_11_method_47_code 19 = .ok (.goto 4, 3) := by decide +kernel
theorem dM_busy_22 : decode prog_11_method_47_code 22 = .ok (.iconst 0, 1) := by decide +kernel
theorem dM_busy_23 : decode prog_11_method_47_code 23 = .ok (.invokevirtual 104, 3) := by decide +kernel
theorem dM_busy_26 : decode prog_11_method_47_code 26 = .ok (.ifCond .eq 5, 3) := by decide +kernel
theorem dM_busy_29 : decode prog_11_method_47_code 29 = .ok (.iconst 0, 1) := by decide +kernel
theorem dM_busy_30 : decode prog_11_method_47_code 30 = .ok (.ireturn, 1) := by decide +kernel
theorem dM_busy_31 : decode prog_11_method_47_code 31 = .ok (.aload_n 0, 1) := by decide +kernel
theorem dM_busy_32 : decode prog_11_method_47_code 32 = .ok (.iconst 0, 1) := by decide +kernel
theorem dM_busy_33 : decode prog_11_method_47_code 33 = .ok (.putfield 268, 3) := by decide +kernel
theorem dM_busy_36 : decode prog_11_method_47_code 36 = .ok (.iconst 0, 1) := by decide +kernel
theorem dM_busy_37 : decode prog_11_method_47_code 37 = .ok (.istore_n 3, 1) := by decide +kernel
theorem dM_busy_38 : decode prog_11_method_47_code 38 = .ok (.iload_n 3, 1) := by decide +kernel
theorem dM_busy_39 : decode prog_11_method_47_code 39 = .ok (.aload_n 0, 1) := by decide +kernel
theorem dM_busy_40 : decode prog_11_method_47_code 40 = .ok (.getfield 249, 3) := by decide +kernel
theorem dM_busy_43 : decode prog_11_method_47_code 43 = .ok (.if_icmp .ge 111, 3) := by decide +kernel
theorem dM_busy_46 : decode prog_11_method_47_code 46 = .ok (.iconst 0, 1) := by decide +kernel
theorem dM_busy_47 : decode prog_11_method_47_code 47 = .ok (.istore 4, 2) := by decide +kernel
theorem dM_busy_49 : decode prog_11_method_47_code 49 = .ok (.iload 4, 2) := by decide +kernel
theorem dM_busy_51 : decode prog_11_method_47_code 51 = .ok (.aload_n 0, 1) := by decide +kernel
theorem dM_busy_52 : decode prog_11_method_47_code 52 = .ok (.getfield 28, 3) := by decide +kernel
theorem dM_busy_55 : decode prog_11_method_47_code 55 = .ok (.iload_n 3, 1) := by decide +kernel
theorem dM_busy_56 : decode prog_11_method_47_code 56 = .ok (.iaload, 1) := by decide +kernel
theorem dM_busy_57 : decode prog_11_method_47_code 57 = .ok (.if_icmp .ge 91, 3) := by decide +kernel
theorem dM_busy_60 : decode prog_11_method_47_code 60 = .ok (.aload_n 0, 1) := by decide +kernel
theorem dM_busy_61 : decode prog_11_method_47_code 61 = .ok (.getfield 25, 3) := by decide +kernel
theorem dM_busy_64 : decode prog_11_method_47_code 64 = .ok (.sipush 200, 3) := by decide +kernel
theorem dM_busy_67 : decode prog_11_method_47_code 67 = .ok (.iload_n 3, 1) := by decide +kernel
theorem dM_busy_68 : decode prog_11_method_47_code 68 = .ok (.imul, 1) := by decide +kernel
theorem dM_busy_69 : decode prog_11_method_47_code 69 = .ok (.iload 4, 2) := by decide +kernel
theorem dM_busy_71 : decode prog_11_method_47_code 71 = .ok (.iadd, 1) := by decide +kernel
theorem dM_busy_72 : decode prog_11_method_47_code 72 = .ok (.iaload, 1) := by decide +kernel
theorem dM_busy_73 : decode prog_11_method_47_code 73 = .ok (.istore 5, 2) := by decide +kernel
theorem dM_busy_75 : decode prog_11_method_47_code 75 = .ok (.aload_n 0, 1) := by decide +kernel
theorem dM_busy_76 : decode prog_11_method_47_code 76 = .ok (.sipush 1440, 3) := by decide +kernel
theorem dM_busy_79 : decode prog_11_method_47_code 79 = .ok (.iload 5, 2) := by decide +kernel
theorem dM_busy_81 : decode prog_11_method_47_code 81 = .ok (.imul, 1) := by decide +kernel
theorem dM_busy_82 : decode prog_11_method_47_code 82 = .ok (.aload_n 0, 1) := by decide +kernel
theorem dM_busy_83 : decode prog_11_method_47_code 83 = .ok (.getfield 19, 3) := by decide +kernel
theorem dM_busy_86 : decode prog_11_method_47_code 86 = .ok (.iload_n 3, 1) := by decide +kernel
theorem dM_busy_87 : decode prog_11_method_47_code 87 = .ok (.iaload, 1) := by decide +kernel
theorem dM_busy_88 : decode prog_11_method_47_code 88 = .ok (.iadd, 1) := by decide +kernel
theorem dM_busy_89 : decode prog_11_method_47_code 89 = .ok (.invokevirtual 265, 3) := by decide +kernel
theorem dM_busy_92 : decode prog_11_method_47_code 92 = .ok (.istore 6, 2) := by decide +kernel
theorem dM_busy_94 : decode prog_11_method_47_code 94 = .ok (.iload 6, 2) := by decide +kernel
theorem dM_busy_96 : decode prog_11_method_47_code 96 = .ok (.iload_n 1, 1) := by decide +kernel
theorem dM_busy_97 : decode prog_11_method_47_code 97 = .ok (.invokestatic 274, 3) := by decide +kernel
theorem dM_busy_100 : decode prog_11_method_47_code 100 = .ok (.istore 7, 2) := by decide +kernel
theorem dM_busy_102 : decode prog_11_method_47_code 102 = .ok (.iload 6, 2) := by decide +kernel
theorem dM_busy_104 : decode prog_11_method_47_code 104 = .ok (.aload_n 0, 1) := by decide +kernel
theorem dM_busy_105 : decode prog_11_method_47_code 105 = .ok (.getfield 22, 3) := by decide +kernel
theorem dM_busy_108 : decode prog_11_method_47_code 108 = .ok (.iload_n 3, 1) := by decide +kernel
theorem dM_busy_109 : decode prog_11_method_47_code 109 = .ok (.iaload, 1) := by decide +kernel
theorem dM_busy_110 : decode prog_11_method_47_code 110 = .ok (.iadd, 1) := by decide +kernel
theorem dM_busy_111 : decode prog_11_method_47_code 111 = .ok (.iload_n 2, 1) := by decide +kernel
theorem dM_busy_112 : decode prog_11_method_47_code 112 = .ok (.invokestatic 271, 3) := by decide +kernel
theorem dM_busy_115 : decode prog_11_method_47_code 115 = .ok (.istore 8, 2) := by decide +kernel
theorem dM_busy_117 : decode prog_11_method_47_code 117 = .ok (.iload 7, 2) := by decide +kernel
theorem dM_busy_119 : decode prog_11_method_47_code 119 = .ok (.iload 8, 2) := by decide +kernel
theorem dM_busy_121 : decode prog_11_method_47_code 121 = .ok (.if_icmp .ge 21, 3) := by decide +kernel
theorem dM_busy_124 : decode prog_11_method_47_code 124 = .ok (.aload_n 0, 1) := by decide +kernel
theorem dM_busy_125 : decode prog_11_method_47_code 125 = .ok (.iload_n 3, 1) := by decide +kernel
theorem dM_busy_126 : decode prog_11_method_47_code 126 = .ok (.iload 5, 2) := by decide +kernel
theorem dM_busy_128 : decode prog_11_method_47_code 128 = .ok (.invokevirtual 258, 3) := by decide +kernel
theorem dM_busy_131 : decode prog_11_method_47_code 131 = .ok (.ifCond .ne 11, 3) := by decide +kernel
theorem dM_busy_134 : decode prog_11_method_47_code 134 = .ok (.aload_n 0, 1) := by decide +kernel
theorem dM_busy_135 : decode prog_11_method_47_code 135 = .ok (.iload 7, 2) := by decide +kernel
theorem dM_busy_137 : decode prog_11_method_47_code 137 = .ok (.iload 8, 2) := by decide +kernel
theorem dM_busy_139 : decode prog_11_method_47_code 139 = .ok (.invokevirtual 279, 3) := by decide +kernel
theorem dM_busy_142 : decode prog_11_method_47_code 142 = .ok (.iinc 4 1, 3) := by decide +kernel
theorem dM_busy_145 : decode prog_11_method_47_code 145 = .ok (.goto (-96), 3) := by decide +kernel
theorem dM_busy_148 : decode prog_11_method_47_code 148 = .ok (.iinc 3 1, 3) := by decide +kernel
theorem dM_busy_151 : decode prog_11_method_47_code 151 = .ok (.goto (-113), 3) := by decide +kernel
theorem dM_busy_154 : decode prog_11_method_47_code 154 = .ok (.aload_n 0, 1) := by decide +kernel
theorem dM_busy_155 : decode prog_11_method_47_code 155 = .ok (.getfield 268, 3) := by decide +kernel
theorem dM_busy_158 : decode prog_11_method_47_code 158 = .ok (.ireturn, 1) := by decide +kernel
theorem dM_span_0 : decode prog_11_method_48_code 0 = .ok (.aload_n 0, 1) := by decide +kernel
theorem dM_span_1 : decode prog_11_method_48_code 1 = .ok (.iload_n 1, 1) := by decide +kernel
theorem dM_span_2 : decode prog_11_method_48_code 2 = .ok (.ifCond .lt 11, 3) := by decide +kernel
theorem dM_span_5 : decode prog_11_method_48_code 5 = .ok (.iload_n 1, 1) := by decide +kernel
theorem dM_span_6 : decode prog_11_method_48_code 6 = .ok (.aload_n 0, 1) := by decide +kernel
theorem dM_span_7 : decode prog_11_method_48_code 7 = .ok (.getfield 268, 3) := by decide +kernel
theorem dM_span_10 : decode prog_11_method_48_code 10 = .ok (.if_icmp .lt 7, 3) := by decide +kernel
theorem dM_span_13 : decode prog_11_method_48_code 13 = .ok (.iconst 1, 1) := by decide +kernel
theorem dM_span_14 : decode prog_11_method_48_code 14 = .ok (.goto 4, 3) := by decide +kernel
theorem dM_span_17 : decode prog_11_method_48_code 17 = .ok (.iconst 0, 1) := by decide +kernel
theorem dM_span_18 : decode prog_11_method_48_code 18 = .ok (.invokevirtual 104, 3) := by decide +kernel
theorem dM_span_21 : decode prog_11_method_48_code 21 = .ok (.ifCond .eq 5, 3) := by decide +kernel
theorem dM_span_24 : decode prog_11_method_48_code 24 = .ok (.iconst 0, 1) := by decide +kernel
theorem dM_span_25 : decode prog_11_method_48_code 25 = .ok (.ireturn, 1) := by decide +kernel
theorem dM_span_26 : decode prog_11_method_48_code 26 = .ok (.iload_n 2, 1) := by decide +kernel
theorem dM_span_27 : decode prog_11_method_48_code 27 = .ok (.ifCond .eq 12, 3) := by decide +kernel
theorem dM_span_30 : decode prog_11_method_48_code 30 = .ok (.aload_n 0, 1) := by decide +kernel
theorem dM_span_31 : decode prog_11_method_48_code 31 = .ok (.getfield 53, 3) := by decide +kernel
theorem dM_span_34 : decode prog_11_method_48_code 34 = .ok (.iload_n 1, 1) := by decide +kernel
theorem dM_span_35 : decode prog_11_method_48_code 35 = .ok (.iaload, 1) := by decide +kernel
theorem dM_span_36 : decode prog_11_method_48_code 36 = .ok (.goto 9, 3) := by decide +kernel
theorem dM_span_39 : decode prog_11_method_48_code 39 = .ok (.aload_n 0, 1) := by decide +kernel
theorem dM_span_40 : decode prog_11_method_48_code 40 = .ok (.getfield 50, 3) := by decide +kernel
theorem dM_span_43 : decode prog_11_method_48_code 43 = .ok (.iload_n 1, 1) := by decide +kernel
theorem dM_span_44 : decode prog_11_method_48_code 44 = .ok (.iaload, 1) := by decide +kernel
theorem dM_span_45 : decode prog_11_method_48_code 45 = .ok (.ireturn, 1) := by decide +kernel
theorem dM_clash_0 : decode prog_11_method_49_code 0 = .ok (.aload_n 0, 1) := by decide +kernel
theorem dM_clash_1 : decode prog_11_method_49_code 1 = .ok (.iload_n 1, 1) := by decide +kernel
theorem dM_clash_2 : decode prog_11_method_49_code 2 = .ok (.ifCond .lt 23, 3) := by decide +kernel
theorem dM_clash_5 : decode prog_11_method_49_code 5 = .ok (.iload_n 1, 1) := by decide +kernel
theorem dM_clash_6 : decode prog_11_method_49_code 6 = .ok (.aload_n 0, 1) := by decide +kernel
theorem dM_clash_7 : decode prog_11_method_49_code 7 = .ok (.getfield 249, 3) := by decide +kernel
theorem dM_clash_10 : decode prog_11_method_49_code 10 = .ok (.if_icmp .ge 15, 3) := by decide +kernel
theorem dM_clash_13 : decode prog_11_method_49_code 13 = .ok (.iload_n 2, 1) := by decide +kernel
theorem dM_clash_14 : decode prog_11_method_49_code 14 = .ok (.ifCond .lt 11, 3) := by decide +kernel
theorem dM_clash_17 : decode prog_11_method_49_code 17 = .ok (.iload_n 2, 1) := by decide +kernel
theorem dM_clash_18 : decode prog_11_method_49_code 18 = .ok (.aload_n 0, 1) := by decide +kernel
theorem dM_clash_19 : decode prog_11_method_49_code 19 = .ok (.getfield 249, 3) := by decide +kernel
theorem dM_clash_22 : decode prog_11_method_49_code 22 = .ok (.if_icmp .lt 7, 3) := by decide +kernel
theorem dM_clash_25 : decode prog_11_method_49_code 25 = .ok (.iconst 1, 1) := by decide +kernel
theorem dM_clash_26 : decode prog_11_method_49_code 26 = .ok (.goto 4, 3) := by decide +kernel
theorem dM_clash_29 : decode prog_11_method_49_code 29 = .ok (.iconst 0, 1) := by decide +kernel
theorem dM_clash_30 : decode prog_11_method_49_code 30 = .ok (.invokevirtual 104, 3) := by decide +kernel
theorem dM_clash_33 : decode prog_11_method_49_code 33 = .ok (.ifCond .eq 5, 3) := by decide +kernel
theorem dM_clash_36 : decode prog_11_method_49_code 36 = .ok (.iconst 0, 1) := by decide +kernel
theorem dM_clash_37 : decode prog_11_method_49_code 37 = .ok (.ireturn, 1) := by decide +kernel
theorem dM_clash_38 : decode prog_11_method_49_code 38 = .ok (.iconst (-1), 1) := by decide +kernel
theorem dM_clash_39 : decode prog_11_method_49_code 39 = .ok (.istore_n 3, 1) := by decide +kernel
theorem dM_clash_40 : decode prog_11_method_49_code 40 = .ok (.iconst 0, 1) := by decide +kernel
theorem dM_clash_41 : decode prog_11_method_49_code 41 = .ok (.istore 4, 2) := by decide +kernel
theorem dM_clash_43 : decode prog_11_method_49_code 43 = .ok (.iconst 0, 1) := by decide +kernel
theorem dM_clash_44 : decode prog_11_method_49_code 44 = .ok (.istore 5, 2) := by decide +kernel
theorem dM_clash_46 : decode prog_11_method_49_code 46 = .ok (.iload 5, 2) := by decide +kernel
theorem dM_clash_48 : decode prog_11_method_49_code 48 = .ok (.aload_n 0, 1) := by decide +kernel
theorem dM_clash_49 : decode prog_11_method_49_code 49 = .ok (.getfield 28, 3) := by decide +kernel
theorem dM_clash_52 : decode prog_11_method_49_code 52 = .ok (.iload_n 1, 1) := by decide +kernel
theorem dM_clash_53 : decode prog_11_method_49_code 53 = .ok (.iaload, 1) := by decide +kernel
theorem dM_clash_54 : decode prog_11_method_49_code 54 = .ok (.if_icmp .ge 220, 3) := by decide +kernel
theorem dM_clash_57 : decode prog_11_method_49_code 57 = .ok (.aload_n 0, 1) := by decide +kernel
theorem dM_clash_58 : decode prog_11_method_49_code 58 = .ok (.getfield 25, 3) := by decide +kernel
theorem dM_clash_61 : decode prog_11_method_49_code 61 = .ok (.sipush 200, 3) := by decide +kernel
theorem dM_clash_64 : decode prog_11_method_49_code 64 = .ok (.iload_n 1, 1) := by decide +kernel
theorem dM_clash_65 : decode prog_11_method_49_code 65 = .ok (.imul, 1) := by decide +kernel
theorem dM_clash_66 : decode prog_11_method_49_code 66 = .ok (.iload 5, 2) := by decide +kernel
theorem dM_clash_68 : decode prog_11_method_49_code 68 = .ok (.iadd, 1) := by decide +kernel
theorem dM_clash_69 : decode prog_11_method_49_code 69 = .ok (.iaload, 1) := by decide +kernel
theorem dM_clash_70 : decode prog_11_method_49_code 70 = .ok (.istore 6, 2) := by decide +kernel
theorem dM_clash_72 : decode prog_11_method_49_code 72 = .ok (.aload_n 0, 1) := by decide +kernel
theorem dM_clash_73 : decode prog_11_method_49_code 73 = .ok (.sipush 1440, 3) := by decide +kernel
theorem dM_clash_76 : decode prog_11_method_49_code 76 = .ok (.iload 6, 2) := by decide +kernel
theorem dM_clash_78 : decode prog_11_method_49_code 78 = .ok (.imul, 1) := by decide +kernel
theorem dM_clash_79 : decode prog_11_method_49_code 79 = .ok (.aload_n 0, 1) := by decide +kernel
theorem dM_clash_80 : decode prog_11_method_49_code 80 = .ok (.getfield 19, 3) := by decide +kernel
theorem dM_clash_83 : decode prog_11_method_49_code 83 = .ok (.iload_n 1, 1) := by decide +kernel
theorem dM_clash_84 : decode prog_11_method_49_code 84 = .ok (.iaload, 1) := by decide +kernel
theorem dM_clash_85 : decode prog_11_method_49_code 85 = .ok (.iadd, 1) := by decide +kernel
theorem dM_clash_86 : decode prog_11_method_49_code 86 = .ok (.invokevirtual 265, 3) := by decide +kernel
theorem dM_clash_89 : decode prog_11_method_49_code 89 = .ok (.istore 7, 2) := by decide +kernel
theorem dM_clash_91 : decode prog_11_method_49_code 91 = .ok (.iconst 0, 1) := by decide +kernel
theorem dM_clash_92 : decode prog_11_method_49_code 92 = .ok (.istore 8, 2) := by decide +kernel
theorem dM_clash_94 : decode prog_11_method_49_code 94 = .ok (.iload 8, 2) := by decide +kernel
theorem dM_clash_96 : decode prog_11_method_49_code 96 = .ok (.aload_n 0, 1) := by decide +kernel
theorem dM_clash_97 : decode prog_11_method_49_code 97 = .ok (.getfield 28, 3) := by decide +kernel
theorem dM_clash_100 : decode prog_11_method_49_code 100 = .ok (.iload_n 2, 1) := by decide +kernel
theorem dM_clash_101 : decode prog_11_method_49_code 101 = .ok (.iaload, 1) := by decide +kernel
theorem dM_clash_102 : decode prog_11_method_49_code 102 = .ok (.if_icmp .ge 166, 3) := by decide +kernel
theorem dM_clash_105 : decode prog_11_method_49_code 105 = .ok (.aload_n 0, 1) := by decide +kernel
theorem dM_clash_106 : decode prog_11_method_49_code 106 = .ok (.iload_n 1, 1) := by decide +kernel
theorem dM_clash_107 : decode prog_11_method_49_code 107 = .ok (.iload 6, 2) := by decide +kernel
theorem dM_clash_109 : decode prog_11_method_49_code 109 = .ok (.invokevirtual 258, 3) := by decide +kernel
theorem dM_clash_112 : decode prog_11_method_49_code 112 = .ok (.ifCond .ne 156, 3) := by decide +kernel
theorem dM_clash_115 : decode prog_11_method_49_code 115 = .ok (.aload_n 0, 1) := by decide +kernel
theorem dM_clash_116 : decode prog_11_method_49_code 116 = .ok (.getfield 25, 3) := by decide +kernel
theorem dM_clash_119 : decode prog_11_method_49_code 119 = .ok (.sipush 200, 3) := by decide +kernel
theorem dM_clash_122 : decode prog_11_method_49_code 122 = .ok (.iload_n 2, 1) := by decide +kernel
theorem dM_clash_123 : decode prog_11_method_49_code 123 = .ok (.imul, 1) := by decide +kernel
theorem dM_clash_124 : decode prog_11_method_49_code 124 = .ok (.iload 8, 2) := by decide +kernel
theorem dM_clash_126 : decode prog_11_method_49_code 126 = .ok (.iadd, 1) := by decide +kernel
theorem dM_clash_127 : decode prog_11_method_49_code 127 = .ok (.iaload, 1) := by decide +kernel
theorem dM_clash_128 : decode prog_11_method_49_code 128 = .ok (.istore 9, 2) := by decide +kernel
theorem dM_clash_130 : decode prog_11_method_49_code 130 = .ok (.iload 9, 2) := by decide +kernel
theorem dM_clash_132 : decode prog_11_method_49_code 132 = .ok (.iload 6, 2) := by decide +kernel
theorem dM_clash_134 : decode prog_11_method_49_code 134 = .ok (.iconst 4, 1) := by decide +kernel
theorem dM_clash_135 : decode prog_11_method_49_code 135 = .ok (.iadd, 1) := by decide +kernel
theorem dM_clash_136 : decode prog_11_method_49_code 136 = .ok (.if_icmp .gt 126, 3) := by decide +kernel
theorem dM_clash_139 : decode prog_11_method_49_code 139 = .ok (.iload 9, 2) := by decide +kernel
theorem dM_clash_141 : decode prog_11_method_49_code 141 = .ok (.iload 6, 2) := by decide +kernel
theorem dM_clash_143 : decode prog_11_method_49_code 143 = .ok (.iconst 4, 1) := by decide +kernel
theorem dM_clash_144 : decode prog_11_method_49_code 144 = .ok (.isub, 1) := by decide +kernel
theorem dM_clash_145 : decode prog_11_method_49_code 145 = .ok (.if_icmp .lt 117, 3) := by decide +kernel
theorem dM_clash_148 : decode prog_11_method_49_code 148 = .ok (.aload_n 0, 1) := by decide +kernel
theorem dM_clash_149 : decode prog_11_method_49_code 149 = .ok (.iload_n 2, 1) := by decide +kernel
theorem dM_clash_150 : decode prog_11_method_49_code 150 = .ok (.iload 9, 2) := by decide +kernel
theorem dM_clash_152 : decode prog_11_method_49_code 152 = .ok (.invokevirtual 258, 3) := by decide +kernel
theorem dM_clash_155 : decode prog_11_method_49_code 155 = .ok (.ifCond .eq 6, 3) := by decide +kernel
theorem dM_clash_158 : decode prog_11_method_49_code 158 = .ok (.goto 104, 3) := by decide +kernel
theorem dM_clash_161 : decode prog_11_method_49_code 161 = .ok (.aload_n 0, 1) := by decide +kernel
theorem dM_clash_162 : decode prog_11_method_49_code 162 = .ok (.sipush 1440, 3) := by decide +kernel
theorem dM_clash_165 : decode prog_11_method_49_code 165 = .ok (.iload 9, 2) := by decide +kernel
theorem dM_clash_167 : decode prog_11_method_49_code 167 = .ok (.imul, 1) := by decide +kernel
theorem dM_clash_168 : decode prog_11_method_49_code 168 = .ok (.aload_n 0, 1) := by decide +kernel
theorem dM_clash_169 : decode prog_11_method_49_code 169 = .ok (.getfield 19, 3) := by decide +kernel
theorem dM_clash_172 : decode prog_11_method_49_code 172 = .ok (.iload_n 2, 1) := by decide +kernel
theorem dM_clash_173 : decode prog_11_method_49_code 173 = .ok (.iaload, 1) := by decide +kernel
theorem dM_clash_174 : decode prog_11_method_49_code 174 = .ok (.iadd, 1) := by decide +kernel
theorem dM_clash_175 : decode prog_11_method_49_code 175 = .ok (.invokevirtual 265, 3) := by decide +kernel
theorem dM_clash_178 : decode prog_11_method_49_code 178 = .ok (.istore 10, 2) := by decide +kernel
theorem dM_clash_180 : decode prog_11_method_49_code 180 = .ok (.iload 7, 2) := by decide +kernel
theorem dM_clash_182 : decode prog_11_method_49_code 182 = .ok (.iload 10, 2) := by decide +kernel
theorem dM_clash_184 : decode prog_11_method_49_code 184 = .ok (.invokestatic 274, 3) := by decide +kernel
theorem dM_clash_187 : decode prog_11_method_49_code 187 = .ok (.istore 11, 2) := by decide +kernel
theorem dM_clash_189 : decode prog_11_method_49_code 189 = .ok (.iload 11, 2) := by decide +kernel
theorem dM_clash_191 : decode prog_11_method_49_code 191 = .ok (.iload 7, 2) := by decide +kernel
theorem dM_clash_193 : decode prog_11_method_49_code 193 = .ok (.aload_n 0, 1) := by decide +kernel
theorem dM_clash_194 : decode prog_11_method_49_code 194 = .ok (.getfield 22, 3) := by decide +kernel
theorem dM_clash_197 : decode prog_11_method_49_code 197 = .ok (.iload_n 1, 1) := by decide +kernel
theorem dM_clash_198 : decode prog_11_method_49_code 198 = .ok (.iaload, 1) := by decide +kernel
theorem dM_clash_199 : decode prog_11_method_49_code 199 = .ok (.iadd, 1) := by decide +kernel
theorem dM_clash_200 : decode prog_11_method_49_code 200 = .ok (.iload 10, 2) := by decide +kernel
theorem dM_clash_202 : decode prog_11_method_49_code 202 = .ok (.aload_n 0, 1) := by decide +kernel
theorem dM_clash_203 : decode prog_11_method_49_code 203 = .ok (.getfield 22, 3) := by decide +kernel
theorem dM_clash_206 : decode prog_11_method_49_code 206 = .ok (.iload_n 2, 1) := by decide +kernel
theorem dM_clash_207 : decode prog_11_method_49_code 207 = .ok (.iaload, 1) := by decide +kernel
theorem dM_clash_208 : decode prog_11_method_49_code 208 = .ok (.iadd, 1) := by decide +kernel
theorem dM_clash_209 : decode prog_11_method_49_code 209 = .ok (.invokestatic 271, 3) := by decide +kernel
theorem dM_clash_212 : decode prog_11_method_49_code 212 = .ok (.if_icmp .ge 7, 3) := by decide +kernel
theorem dM_clash_215 : decode prog_11_method_49_code 215 = .ok (.iconst 1, 1) := by decide +kernel
theorem dM_clash_216 : decode prog_11_method_49_code 216 = .ok (.goto 4, 3) := by decide +kernel
theorem dM_clash_219 : decode prog_11_method_49_code 219 = .ok (.iconst 0, 1) := by decide +kernel
theorem dM_clash_220 : decode prog_11_method_49_code 220 = .ok (.istore 12, 2) := by decide +kernel
theorem dM_clash_222 : decode prog_11_method_49_code 222 = .ok (.iload 12, 2) := by decide +kernel
theorem dM_clash_224 : decode prog_11_method_49_code 224 = .ok (.ifCond .eq 19, 3) := by decide +kernel
theorem dM_clash_227 : decode prog_11_method_49_code 227 = .ok (.iload 4, 2) := by decide +kernel
theorem dM_clash_229 : decode prog_11_method_49_code 229 = .ok (.ifCond .eq 9, 3) := by decide +kernel
theorem dM_clash_232 : decode prog_11_method_49_code 232 = .ok (.iload 11, 2) := by decide +kernel
theorem dM_clash_234 : decode prog_11_method_49_code 234 = .ok (.iload_n 3, 1) := by decide +kernel
theorem dM_clash_235 : decode prog_11_method_49_code 235 = .ok (.if_icmp .ge 8, 3) := by decide +kernel
theorem dM_clash_238 : decode prog_11_method_49_code 238 = .ok (.iload 11, 2) := by decide +kernel
theorem dM_clash_240 : decode prog_11_method_49_code 240 = .ok (.goto 4, 3) := by decide +kernel
theorem dM_clash_243 : decode prog_11_method_49_code 243 = .ok (.iload_n 3, 1) := by decide +kernel
theorem dM_clash_244 : decode prog_11_method_49_code 244 = .ok (.istore_n 3, 1) := by decide +kernel
theorem dM_clash_245 : decode prog_11_method_49_code 245 = .ok (.iload 4, 2) := by decide +kernel
theorem dM_clash_247 : decode prog_11_method_49_code 247 = .ok (.ifCond .ne 8, 3) := by decide +kernel
theorem dM_clash_250 : decode prog_11_method_49_code 250 = .ok (.iload 12, 2) := by decide +kernel
theorem dM_clash_252 : decode prog_11_method_49_code 252 = .ok (.ifCond .eq 7, 3) := by decide +kernel
theorem dM_clash_255 : decode prog_11_method_49_code 255 = .ok (.iconst 1, 1) := by decide +kernel
theorem dM_clash_256 : decode prog_11_method_49_code 256 = .ok (.goto 4, 3) := by decide +kernel
theorem dM_clash_259 : decode prog_11_method_49_code 259 = .ok (.iconst 0, 1) := by decide +kernel
theorem dM_clash_260 : decode prog_11_method_49_code 260 = .ok (.istore 4, 2) := by decide +kernel
theorem dM_clash_262 : decode prog_11_method_49_code 262 = .ok (.iinc 8 1, 3) := by decide +kernel
theorem dM_clash_265 : decode prog_11_method_49_code 265 = .ok (.goto (-171), 3) := by decide +kernel
theorem dM_clash_268 : decode prog_11_method_49_code 268 = .ok (.iinc 5 1, 3) := by decide +kernel
theorem dM_clash_271 : decode prog_11_method_49_code 271 = .ok (.goto (-225), 3) := by decide +kernel
theorem dM_clash_274 : decode prog_11_method_49_code 274 = .ok (.iload_n 3, 1) := by decide +kernel
theorem dM_clash_275 : decode prog_11_method_49_code 275 = .ok (.ireturn, 1) := by decide +kernel
theorem dL_zone_0 : decode method_3_code 0 = .ok (.aload_n 0, 1) := by decide +kernel
theorem dL_zone_1 : decode method_3_code 1 = .ok (.iload_n 1, 1) := by decide +kernel
theorem dL_zone_2 : decode method_3_code 2 = .ok (.iload_n 2, 1) := by decide +kernel
theorem dL_zone_3 : decode method_3_code 3 = .ok (.iload_n 3, 1) := by decide +kernel
theorem dL_zone_4 : decode method_3_code 4 = .ok (.iload 4, 2) := by decide +kernel
theorem dL_zone_6 : decode method_3_code 6 = .ok (.iload 5, 2) := by decide +kernel
theorem dL_zone_8 : decode method_3_code 8 = .ok (.iload 6, 2) := by decide +kernel
theorem dL_zone_10 : decode method_3_code 10 = .ok (.invokevirtual 7, 3) := by decide +kernel
theorem dL_zone_13 : decode method_3_code 13 = .ok (.goto 7, 3) := by decide +kernel
theorem dL_zone_16 : decode method_3_code 16 = .ok (.astore 7, 2) := by decide +kernel
theorem dL_zone_18 : decode method_3_code 18 = .ok (.iconst 1, 1) := by decide +kernel
theorem dL_zone_19 : decode method_3_code 19 = .ok (.ireturn, 1) := by decide +kernel
theorem dL_zone_20 : decode method_3_code 20 = .ok (.iconst 0, 1) := by decide +kernel
theorem dL_zone_21 : decode method_3_code 21 = .ok (.ireturn, 1) := by decide +kernel
theorem dL_event_0 : decode method_4_code 0 = .ok (.aload 4, 2) := by decide +kernel
theorem dL_event_2 : decode method_4_code 2 = .ok (.iconst 0, 1) := by decide +kernel
theorem dL_event_3 : decode method_4_code 3 = .ok (.aload_n 0, 1) := by decide +kernel
theorem dL_event_4 : decode method_4_code 4 = .ok (.iload_n 1, 1) := by decide +kernel
theorem dL_event_5 : decode method_4_code 5 = .ok (.iload_n 2, 1) := by decide +kernel
theorem dL_event_6 : decode method_4_code 6 = .ok (.iload_n 3, 1) := by decide +kernel
theorem dL_event_7 : decode method_4_code 7 = .ok (.invokevirtual 15, 3) := by decide +kernel
theorem dL_event_10 : decode method_4_code 10 = .ok (.i2l, 1) := by decide +kernel
theorem dL_event_11 : decode method_4_code 11 = .ok (.lastore, 1) := by decide +kernel
theorem dL_event_12 : decode method_4_code 12 = .ok (.goto 11, 3) := by decide +kernel
theorem dL_event_15 : decode method_4_code 15 = .ok (.astore 5, 2) := by decide +kernel
theorem dL_event_17 : decode method_4_code 17 = .ok (.iconst 1, 1) := by decide +kernel
theorem dL_event_18 : decode method_4_code 18 = .ok (.ireturn, 1) := by decide +kernel
theorem dL_event_19 : decode method_4_code 19 = .ok (.astore 5, 2) := by decide +kernel
theorem dL_event_21 : decode method_4_code 21 = .ok (.iconst 2, 1) := by decide +kernel
theorem dL_event_22 : decode method_4_code 22 = .ok (.ireturn, 1) := by decide +kernel
theorem dL_event_23 : decode method_4_code 23 = .ok (.iconst 0, 1) := by decide +kernel
theorem dL_event_24 : decode method_4_code 24 = .ok (.ireturn, 1) := by decide +kernel
theorem dL_exclude_0 : decode method_5_code 0 = .ok (.aload_n 3, 1) := by decide +kernel
theorem dL_exclude_1 : decode method_5_code 1 = .ok (.iconst 0, 1) := by decide +kernel
theorem dL_exclude_2 : decode method_5_code 2 = .ok (.aload_n 0, 1) := by decide +kernel
theorem dL_exclude_3 : decode method_5_code 3 = .ok (.iload_n 1, 1) := by decide +kernel
theorem dL_exclude_4 : decode method_5_code 4 = .ok (.iload_n 2, 1) := by decide +kernel
theorem dL_exclude_5 : decode method_5_code 5 = .ok (.invokevirtual 21, 3) := by decide +kernel
theorem dL_exclude_8 : decode method_5_code 8 = .ok (.ifCond .eq 7, 3) := by decide +kernel
theorem dL_exclude_11 : decode method_5_code 11 = .ok (.lconst 1, 1) := by decide +kernel
theorem dL_exclude_12 : decode method_5_code 12 = .ok (.goto 4, 3) := by decide +kernel
theorem dL_exclude_15 : decode method_5_code 15 = .ok (.lconst 0, 1) := by decide +kernel
theorem dL_exclude_16 : decode method_5_code 16 = .ok (.lastore, 1) := by decide +kernel
theorem dL_exclude_17 : decode method_5_code 17 = .ok (.goto 7, 3) := by decide +kernel
theorem dL_exclude_20 : decode method_5_code 20 = .ok (.astore 4, 2) := by decide +kernel
theorem dL_exclude_22 : decode method_5_code 22 = .ok (.iconst 1, 1) := by decide +kernel
theorem dL_exclude_23 : decode method_5_code 23 = .ok (.ireturn, 1) := by decide +kernel
theorem dL_exclude_24 : decode method_5_code 24 = .ok (.iconst 0, 1) := by decide +kernel
theorem dL_exclude_25 : decode method_5_code 25 = .ok (.ireturn, 1) := by decide +kernel
