/-! Decoded instructions. -/
theorem dB_zone_0 : decode prog_1_method_3_code 0 = .ok (.iload_n 1, 1) := by decide +kernel
theorem dB_zone_1 : decode prog_1_method_3_code 1 = .ok (.invokestatic 49, 3) := by decide +kernel
theorem dB_zone_4 : decode prog_1_method_3_code 4 = .ok (.ifCond .eq 15, 3) := by decide +kernel
theorem dB_zone_7 : decode prog_1_method_3_code 7 = .ok (.iload_n 2, 1) := by decide +kernel
theorem dB_zone_8 : decode prog_1_method_3_code 8 = .ok (.invokestatic 49, 3) := by decide +kernel
theorem dB_zone_11 : decode prog_1_method_3_code 11 = .ok (.ifCond .eq 8, 3) := by decide +kernel
theorem dB_zone_14 : decode prog_1_method_3_code 14 = .ok (.iload_n 2, 1) := by decide +kernel
theorem dB_zone_15 : decode prog_1_method_3_code 15 = .ok (.iload_n 1, 1) := by decide +kernel
theorem dB_zone_16 : decode prog_1_method_3_code 16 = .ok (.if_icmp .ge 13, 3) := by decide +kernel
theorem dB_zone_19 : decode prog_1_method_3_code 19 = .ok (.new 53, 3) := by decide +kernel
theorem dB_zone_22 : decode prog_1_method_3_code 22 = .ok (.dup, 1) := by decide +kernel
theorem dB_zone_23 : decode prog_1_method_3_code 23 = .ok (.ldc 55, 2) := by decide +kernel
theorem dB_zone_25 : decode prog_1_method_3_code 25 = .ok (.invokespecial 57, 3) := by decide +kernel
theorem dB_zone_28 : decode prog_1_method_3_code 28 = .ok (.athrow, 1) := by decide +kernel
theorem dB_zone_29 : decode prog_1_method_3_code 29 = .ok (.iload_n 3, 1) := by decide +kernel
theorem dB_zone_30 : decode prog_1_method_3_code 30 = .ok (.invokestatic 60, 3) := by decide +kernel
theorem dB_zone_33 : decode prog_1_method_3_code 33 = .ok (.ifCond .eq 17, 3) := by decide +kernel
theorem dB_zone_36 : decode prog_1_method_3_code 36 = .ok (.iload 5, 2) := by decide +kernel
theorem dB_zone_38 : decode prog_1_method_3_code 38 = .ok (.invokestatic 60, 3) := by decide +kernel
theorem dB_zone_41 : decode prog_1_method_3_code 41 = .ok (.ifCond .eq 9, 3) := by decide +kernel
theorem dB_zone_44 : decode prog_1_method_3_code 44 = .ok (.iload_n 3, 1) := by decide +kernel
theorem dB_zone_45 : decode prog_1_method_3_code 45 = .ok (.iload 5, 2) := by decide +kernel
theorem dB_zone_47 : decode prog_1_method_3_code 47 = .ok (.if_icmp .lt 13, 3) := by decide +kernel
theorem dB_zone_50 : decode prog_1_method_3_code 50 = .ok (.new 53, 3) := by decide +kernel
theorem dB_zone_53 : decode prog_1_method_3_code 53 = .ok (.dup, 1) := by decide +kernel
theorem dB_zone_54 : decode prog_1_method_3_code 54 = .ok (.ldc 63, 2) := by decide +kernel
theorem dB_zone_56 : decode prog_1_method_3_code 56 = .ok (.invokespecial 57, 3) := by decide +kernel
theorem dB_zone_59 : decode prog_1_method_3_code 59 = .ok (.athrow, 1) := by decide +kernel
theorem dB_zone_60 : decode prog_1_method_3_code 60 = .ok (.iload 4, 2) := by decide +kernel
theorem dB_zone_62 : decode prog_1_method_3_code 62 = .ok (.iconst 1, 1) := by decide +kernel
theorem dB_zone_63 : decode prog_1_method_3_code 63 = .ok (.if_icmp .lt 21, 3) := by decide +kernel
theorem dB_zone_66 : decode prog_1_method_3_code 66 = .ok (.iload 4, 2) := by decide +kernel
theorem dB_zone_68 : decode prog_1_method_3_code 68 = .ok (.iconst 5, 1) := by decide +kernel
theorem dB_zone_69 : decode prog_1_method_3_code 69 = .ok (.if_icmp .gt 15, 3) := by decide +kernel
theorem dB_zone_72 : decode prog_1_method_3_code 72 = .ok (.iload 6, 2) := by decide +kernel
theorem dB_zone_74 : decode prog_1_method_3_code 74 = .ok (.iconst 1, 1) := by decide +kernel
theorem dB_zone_75 : decode prog_1_method_3_code 75 = .ok (.if_icmp .lt 9, 3) := by decide +kernel
theorem dB_zone_78 : decode prog_1_method_3_code 78 = .ok (.iload 6, 2) := by decide +kernel
theorem dB_zone_80 : decode prog_1_method_3_code 80 = .ok (.iconst 5, 1) := by decide +kernel
theorem dB_zone_81 : decode prog_1_method_3_code 81 = .ok (.if_icmp .le 13, 3) := by decide +kernel
theorem dB_zone_84 : decode prog_1_method_3_code 84 = .ok (.new 53, 3) := by decide +kernel
theorem dB_zone_87 : decode prog_1_method_3_code 87 = .ok (.dup, 1) := by decide +kernel
theorem dB_zone_88 : decode prog_1_method_3_code 88 = .ok (.ldc 65, 2) := by decide +kernel
theorem dB_zone_90 : decode prog_1_method_3_code 90 = .ok (.invokespecial 57, 3) := by decide +kernel
theorem dB_zone_93 : decode prog_1_method_3_code 93 = .ok (.athrow, 1) := by decide +kernel
theorem dB_zone_94 : decode prog_1_method_3_code 94 = .ok (.aload_n 0, 1) := by decide +kernel
theorem dB_zone_95 : decode prog_1_method_3_code 95 = .ok (.getfield 20, 3) := by decide +kernel
theorem dB_zone_98 : decode prog_1_method_3_code 98 = .ok (.iload_n 1, 1) := by decide +kernel
theorem dB_zone_99 : decode prog_1_method_3_code 99 = .ok (.iload_n 2, 1) := by decide +kernel
theorem dB_zone_100 : decode prog_1_method_3_code 100 = .ok (.iload_n 3, 1) := by decide +kernel
theorem dB_zone_101 : decode prog_1_method_3_code 101 = .ok (.iload 4, 2) := by decide +kernel
theorem dB_zone_103 : decode prog_1_method_3_code 103 = .ok (.iload 5, 2) := by decide +kernel
theorem dB_zone_105 : decode prog_1_method_3_code 105 = .ok (.iload 6, 2) := by decide +kernel
theorem dB_zone_107 : decode prog_1_method_3_code 107 = .ok (.invokevirtual 24, 3) := by decide +kernel
theorem dB_zone_110 : decode prog_1_method_3_code 110 = .ok (.iconst 0, 1) := by decide +kernel
theorem dB_zone_111 : decode prog_1_method_3_code 111 = .ok (.istore 7, 2) := by decide +kernel
theorem dB_zone_113 : decode prog_1_method_3_code 113 = .ok (.iload 7, 2) := by decide +kernel
theorem dB_zone_115 : decode prog_1_method_3_code 115 = .ok (.aload_n 0, 1) := by decide +kernel
theorem dB_zone_116 : decode prog_1_method_3_code 116 = .ok (.getfield 35, 3) := by decide +kernel
theorem dB_zone_119 : decode prog_1_method_3_code 119 = .ok (.if_icmp .ge 23, 3) := by decide +kernel
theorem dB_zone_122 : decode prog_1_method_3_code 122 = .ok (.aload_n 0, 1) := by decide +kernel
theorem dB_zone_123 : decode prog_1_method_3_code 123 = .ok (.getfield 30, 3) := by decide +kernel
theorem dB_zone_126 : decode prog_1_method_3_code 126 = .ok (.iload 7, 2) := by decide +kernel
theorem dB_zone_128 : decode prog_1_method_3_code 128 = .ok (.aaload, 1) := by decide +kernel
theorem dB_zone_129 : decode prog_1_method_3_code 129 = .ok (.aload_n 0, 1) := by decide +kernel
theorem dB_zone_130 : decode prog_1_method_3_code 130 = .ok (.getfield 20, 3) := by decide +kernel
theorem dB_zone_133 : decode prog_1_method_3_code 133 = .ok (.invokevirtual 67, 3) := by decide +kernel
theorem dB_zone_136 : decode prog_1_method_3_code 136 = .ok (.iinc 7 1, 3) := by decide +kernel
theorem dB_zone_139 : decode prog_1_method_3_code 139 = .ok (.goto (-26), 3) := by decide +kernel
theorem dB_zone_142 : decode prog_1_method_3_code 142 = .ok (.return_, 1) := by decide +kernel
theorem dR_init_0 : decode prog_5_method_1_code 0 = .ok (.aload_n 0, 1) := by decide +kernel
theorem dR_init_1 : decode prog_5_method_1_code 1 = .ok (.invokespecial 3, 3) := by decide +kernel
theorem dR_init_4 : decode prog_5_method_1_code 4 = .ok (.aload_n 0, 1) := by decide +kernel
theorem dR_init_5 : decode prog_5_method_1_code 5 = .ok (.aconst_null, 1) := by decide +kernel
theorem dR_init_6 : decode prog_5_method_1_code 6 = .ok (.putfield 9, 3) := by decide +kernel
theorem dR_init_9 : decode prog_5_method_1_code 9 = .ok (.aload_n 0, 1) := by decide +kernel
theorem dR_init_10 : decode prog_5_method_1_code 10 = .ok (.ldc 15, 2) := by decide +kernel
theorem dR_init_12 : decode prog_5_method_1_code 12 = .ok (.putfield 16, 3) := by decide +kernel
theorem dR_init_15 : decode prog_5_method_1_code 15 = .ok (.return_, 1) := by decide +kernel
theorem dQ_init_0 : decode prog_6_method_1_code 0 = .ok (.aload_n 0, 1) := by decide +kernel
theorem dQ_init_1 : decode prog_6_method_1_code 1 = .ok (.invokespecial 3, 3) := by decide +kernel
theorem dQ_init_4 : decode prog_6_method_1_code 4 = .ok (.aload_n 0, 1) := by decide +kernel
theorem dQ_init_5 : decode prog_6_method_1_code 5 = .ok (.aload_n 1, 1) := by decide +kernel
theorem dQ_init_6 : decode prog_6_method_1_code 6 = .ok (.putfield 9, 3) := by decide +kernel
theorem dQ_init_9 : decode prog_6_method_1_code 9 = .ok (.aload_n 0, 1) := by decide +kernel
theorem dQ_init_10 : decode prog_6_method_1_code 10 = .ok (.iload_n 2, 1) := by decide +kernel
theorem dQ_init_11 : decode prog_6_method_1_code 11 = .ok (.putfield 15, 3) := by decide +kernel
theorem dQ_init_14 : decode prog_6_method_1_code 14 = .ok (.aload_n 0, 1) := by decide +kernel
theorem dQ_init_15 : decode prog_6_method_1_code 15 = .ok (.iconst 0, 1) := by decide +kernel
theorem dQ_init_16 : decode prog_6_method_1_code 16 = .ok (.putfield 19, 3) := by decide +kernel
theorem dQ_init_19 : decode prog_6_method_1_code 19 = .ok (.aload_n 0, 1) := by decide +kernel
theorem dQ_init_20 : decode prog_6_method_1_code 20 = .ok (.new 22, 3) := by decide +kernel
theorem dQ_init_23 : decode prog_6_method_1_code 23 = .ok (.dup, 1) := by decide +kernel
theorem dQ_init_24 : decode prog_6_method_1_code 24 = .ok (.invokespecial 24, 3) := by decide +kernel
theorem dQ_init_27 : decode prog_6_method_1_code 27 = .ok (.putfield 25, 3) := by decide +kernel
theorem dQ_init_30 : decode prog_6_method_1_code 30 = .ok (.return_, 1) := by decide +kernel
theorem dB_isDay_0 : decode prog_1_method_20_code 0 = .ok (.iload_n 0, 1) := by decide +kernel
theorem dB_isDay_1 : decode prog_1_method_20_code 1 = .ok (.ifCond .lt 13, 3) := by decide +kernel
theorem dB_isDay_4 : decode prog_1_method_20_code 4 = .ok (.iload_n 0, 1) := by decide +kernel
theorem dB_isDay_5 : decode prog_1_method_20_code 5 = .ok (.ldc 187, 2) := by decide +kernel
theorem dB_isDay_7 : decode prog_1_method_20_code 7 = .ok (.if_icmp .gt 7, 3) := by decide +kernel
theorem dB_isDay_10 : decode prog_1_method_20_code 10 = .ok (.iconst 1, 1) := by decide +kernel
theorem dB_isDay_11 : decode prog_1_method_20_code 11 = .ok (.goto 4, 3) := by decide +kernel
theorem dB_isDay_14 : decode prog_1_method_20_code 14 = .ok (.iconst 0, 1) := by decide +kernel
theorem dB_isDay_15 : decode prog_1_method_20_code 15 = .ok (.ireturn, 1) := by decide +kernel
theorem dK_coder_0 : decode prog_18_method_152_code 0 = .ok (.getstatic 38, 3) := by decide +kernel
theorem dK_coder_3 : decode prog_18_method_152_code 3 = .ok (.ifCond .eq 10, 3) := by decide +kernel
theorem dK_coder_6 : decode prog_18_method_152_code 6 = .ok (.aload_n 0, 1) := by decide +kernel
theorem dK_coder_7 : decode prog_18_method_152_code 7 = .ok (.getfield 15, 3) := by decide +kernel
theorem dK_coder_10 : decode prog_18_method_152_code 10 = .ok (.goto 4, 3) := by decide +kernel
theorem dK_coder_13 : decode prog_18_method_152_code 13 = .ok (.iconst 1, 1) := by decide +kernel
theorem dK_coder_14 : decode prog_18_method_152_code 14 = .ok (.ireturn, 1) := by decide +kernel
theorem dK_length_0 : decode prog_18_method_54_code 0 = .ok (.aload_n 0, 1) := by decide +kernel
theorem dK_length_1 : decode prog_18_method_54_code 1 = .ok (.getfield 9, 3) := by decide +kernel
theorem dK_length_4 : decode prog_18_method_54_code 4 = .ok (.arraylength, 1) := by decide +kernel
theorem dK_length_5 : decode prog_18_method_54_code 5 = .ok (.aload_n 0, 1) := by decide +kernel
theorem dK_length_6 : decode prog_18_method_54_code 6 = .ok (.invokevirtual 335, 3) := by decide +kernel
theorem dK_length_9 : decode prog_18_method_54_code 9 = .ok (.ishr, 1) := by decide +kernel
theorem dK_length_10 : decode prog_18_method_54_code 10 = .ok (.ireturn, 1) := by decide +kernel
theorem dK_isLatin1_0 : decode prog_18_method_154_code 0 = .ok (.getstatic 38, 3) := by decide +kernel
theorem dK_isLatin1_3 : decode prog_18_method_154_code 3 = .ok (.ifCond .eq 14, 3) := by decide +kernel
theorem dK_isLatin1_6 : decode prog_18_method_154_code 6 = .ok (.aload_n 0, 1) := by decide +kernel
theorem dK_isLatin1_7 : decode prog_18_method_154_code 7 = .ok (.getfield 15, 3) := by decide +kernel
theorem dK_isLatin1_10 : decode prog_18_method_154_code 10 = .ok (.ifCond .ne 7, 3) := by decide +kernel
theorem dK_isLatin1_13 : decode prog_18_method_154_code 13 = .ok (.iconst 1, 1) := by decide +kernel
theorem dK_isLatin1_14 : decode prog_18_method_154_code 14 = .ok (.goto 4, 3) := by decide +kernel
theorem dK_isLatin1_17 : decode prog_18_method_154_code 17 = .ok (.iconst 0, 1) := by decide +kernel
theorem dK_isLatin1_18 : decode prog_18_method_154_code 18 = .ok (.ireturn, 1) := by decide +kernel
theorem dP_checkIndex_0 : decode prog_23_method_11_code 0 = .ok (.iload_n 0, 1) := by decide +kernel
theorem dP_checkIndex_1 : decode prog_23_method_11_code 1 = .ok (.ifCond .lt 8, 3) := by decide +kernel
theorem dP_checkIndex_4 : decode prog_23_method_11_code 4 = .ok (.iload_n 0, 1) := by decide +kernel
theorem dP_checkIndex_5 : decode prog_23_method_11_code 5 = .ok (.iload_n 1, 1) := by decide +kernel
theorem dP_checkIndex_6 : decode prog_23_method_11_code 6 = .ok (.if_icmp .lt 10, 3) := by decide +kernel
theorem dP_checkIndex_16 : decode prog_23_method_11_code 16 = .ok (.iload_n 0, 1) := by decide +kernel
theorem dP_checkIndex_17 : decode prog_23_method_11_code 17 = .ok (.ireturn, 1) := by decide +kernel
theorem dK_checkIndex_0 : decode prog_18_method_155_code 0 = .ok (.iload_n 0, 1) := by decide +kernel
theorem dK_checkIndex_1 : decode prog_18_method_155_code 1 = .ok (.iload_n 1, 1) := by decide +kernel
theorem dK_checkIndex_2 : decode prog_18_method_155_code 2 = .ok (.getstatic 1053, 3) := by decide +kernel
theorem dK_checkIndex_5 : decode prog_18_method_155_code 5 = .ok (.invokestatic 1059, 3) := by decide +kernel
theorem dK_checkIndex_8 : decode prog_18_method_155_code 8 = .ok (.pop, 1) := by decide +kernel
theorem dK_checkIndex_9 : decode prog_18_method_155_code 9 = .ok (.return_, 1) := by decide +kernel
theorem dT_charAt_0 : decode prog_19_method_2_code 0 = .ok (.iload_n 1, 1) := by decide +kernel
theorem dT_charAt_1 : decode prog_19_method_2_code 1 = .ok (.aload_n 0, 1) := by decide +kernel
theorem dT_charAt_2 : decode prog_19_method_2_code 2 = .ok (.arraylength, 1) := by decide +kernel
theorem dT_charAt_3 : decode prog_19_method_2_code 3 = .ok (.invokestatic 9, 3) := by decide +kernel
theorem dT_charAt_6 : decode prog_19_method_2_code 6 = .ok (.aload_n 0, 1) := by decide +kernel
theorem dT_charAt_7 : decode prog_19_method_2_code 7 = .ok (.iload_n 1, 1) := by decide +kernel
theorem dT_charAt_8 : decode prog_19_method_2_code 8 = .ok (.baload, 1) := by decide +kernel
theorem dT_charAt_9 : decode prog_19_method_2_code 9 = .ok (.sipush 255, 3) := by decide +kernel
theorem dT_charAt_12 : decode prog_19_method_2_code 12 = .ok (.iand, 1) := by decide +kernel
theorem dT_charAt_13 : decode prog_19_method_2_code 13 = .ok (.i2c, 1) := by decide +kernel
theorem dT_charAt_14 : decode prog_19_method_2_code 14 = .ok (.ireturn, 1) := by decide +kernel
theorem dK_charAt_0 : decode prog_18_method_56_code 0 = .ok (.aload_n 0, 1) := by decide +kernel
theorem dK_charAt_1 : decode prog_18_method_56_code 1 = .ok (.invokevirtual 492, 3) := by decide +kernel
theorem dK_charAt_4 : decode prog_18_method_56_code 4 = .ok (.ifCond .eq 12, 3) := by decide +kernel
theorem dK_charAt_7 : decode prog_18_method_56_code 7 = .ok (.aload_n 0, 1) := by decide +kernel
theorem dK_charAt_8 : decode prog_18_method_56_code 8 = .ok (.getfield 9, 3) := by decide +kernel
theorem dK_charAt_11 : decode prog_18_method_56_code 11 = .ok (.iload_n 1, 1) := by decide +kernel
theorem dK_charAt_12 : decode prog_18_method_56_code 12 = .ok (.invokestatic 495, 3) := by decide +kernel
theorem dK_charAt_15 : decode prog_18_method_56_code 15 = .ok (.ireturn, 1) := by decide +kernel
theorem dQ_takeWord_0 : decode prog_6_method_16_code 0 = .ok (.aload_n 1, 1) := by decide +kernel
theorem dQ_takeWord_1 : decode prog_6_method_16_code 1 = .ok (.invokevirtual 160, 3) := by decide +kernel
theorem dQ_takeWord_4 : decode prog_6_method_16_code 4 = .ok (.aload_n 0, 1) := by decide +kernel
theorem dQ_takeWord_5 : decode prog_6_method_16_code 5 = .ok (.getfield 15, 3) := by decide +kernel
theorem dQ_takeWord_8 : decode prog_6_method_16_code 8 = .ok (.aload_n 0, 1) := by decide +kernel
theorem dQ_takeWord_9 : decode prog_6_method_16_code 9 = .ok (.getfield 19, 3) := by decide +kernel
theorem dQ_takeWord_12 : decode prog_6_method_16_code 12 = .ok (.isub, 1) := by decide +kernel
theorem dQ_takeWord_13 : decode prog_6_method_16_code 13 = .ok (.if_icmp .le 5, 3) := by decide +kernel
theorem dQ_takeWord_16 : decode prog_6_method_16_code 16 = .ok (.iconst 0, 1) := by decide +kernel
theorem dQ_takeWord_17 : decode prog_6_method_16_code 17 = .ok (.ireturn, 1) := by decide +kernel
theorem dQ_takeWord_18 : decode prog_6_method_16_code 18 = .ok (.iconst 0, 1) := by decide +kernel
theorem dQ_takeWord_19 : decode prog_6_method_16_code 19 = .ok (.istore_n 2, 1) := by decide +kernel
theorem dQ_takeWord_20 : decode prog_6_method_16_code 20 = .ok (.iload_n 2, 1) := by decide +kernel
theorem dQ_takeWord_21 : decode prog_6_method_16_code 21 = .ok (.aload_n 1, 1) := by decide +kernel
theorem dQ_takeWord_22 : decode prog_6_method_16_code 22 = .ok (.invokevirtual 160, 3) := by decide +kernel
theorem dQ_takeWord_25 : decode prog_6_method_16_code 25 = .ok (.if_icmp .ge 30, 3) := by decide +kernel
theorem dQ_takeWord_28 : decode prog_6_method_16_code 28 = .ok (.aload_n 0, 1) := by decide +kernel
theorem dQ_takeWord_29 : decode prog_6_method_16_code 29 = .ok (.getfield 9, 3) := by decide +kernel
theorem dQ_takeWord_32 : decode prog_6_method_16_code 32 = .ok (.aload_n 0, 1) := by decide +kernel
theorem dQ_takeWord_33 : decode prog_6_method_16_code 33 = .ok (.getfield 19, 3) := by decide +kernel
theorem dQ_takeWord_36 : decode prog_6_method_16_code 36 = .ok (.iload_n 2, 1) := by decide +kernel
theorem dQ_takeWord_37 : decode prog_6_method_16_code 37 = .ok (.iadd, 1) := by decide +kernel
theorem dQ_takeWord_38 : decode prog_6_method_16_code 38 = .ok (.caload, 1) := by decide +kernel
theorem dQ_takeWord_39 : decode prog_6_method_16_code 39 = .ok (.aload_n 1, 1) := by decide +kernel
theorem dQ_takeWord_40 : decode prog_6_method_16_code 40 = .ok (.iload_n 2, 1) := by decide +kernel
theorem dQ_takeWord_41 : decode prog_6_method_16_code 41 = .ok (.invokevirtual 154, 3) := by decide +kernel
theorem dQ_takeWord_44 : decode prog_6_method_16_code 44 = .ok (.if_icmp .eq 5, 3) := by decide +kernel
theorem dQ_takeWord_47 : decode prog_6_method_16_code 47 = .ok (.iconst 0, 1) := by decide +kernel
theorem dQ_takeWord_48 : decode prog_6_method_16_code 48 = .ok (.ireturn, 1) := by decide +kernel
theorem dQ_takeWord_49 : decode prog_6_method_16_code 49 = .ok (.iinc 2 1, 3) := by decide +kernel
theorem dQ_takeWord_52 : decode prog_6_method_16_code 52 = .ok (.goto (-32), 3) := by decide +kernel
theorem dQ_takeWord_55 : decode prog_6_method_16_code 55 = .ok (.aload_n 0, 1) := by decide +kernel
theorem dQ_takeWord_56 : decode prog_6_method_16_code 56 = .ok (.dup, 1) := by decide +kernel
theorem dQ_takeWord_57 : decode prog_6_method_16_code 57 = .ok (.getfield 19, 3) := by decide +kernel
theorem dQ_takeWord_60 : decode prog_6_method_16_code 60 = .ok (.aload_n 1, 1) := by decide +kernel
theorem dQ_takeWord_61 : decode prog_6_method_16_code 61 = .ok (.invokevirtual 160, 3) := by decide +kernel
theorem dQ_takeWord_64 : decode prog_6_method_16_code 64 = .ok (.iadd, 1) := by decide +kernel
theorem dQ_takeWord_65 : decode prog_6_method_16_code 65 = .ok (.putfield 19, 3) := by decide +kernel
theorem dQ_takeWord_68 : decode prog_6_method_16_code 68 = .ok (.iconst 1, 1) := by decide +kernel
theorem dQ_takeWord_69 : decode prog_6_method_16_code 69 = .ok (.ireturn, 1) := by decide +kernel
theorem dQ_readFrequency_0 : decode prog_6_method_4_code 0 = .ok (.aload_n 0, 1) := by decide +kernel
theorem dQ_readFrequency_1 : decode prog_6_method_4_code 1 = .ok (.ldc 107, 2) := by decide +kernel
theorem dQ_readFrequency_3 : decode prog_6_method_4_code 3 = .ok (.invokevirtual 54, 3) := by decide +kernel
theorem dQ_readFrequency_6 : decode prog_6_method_4_code 6 = .ok (.ifCond .eq 16, 3) := by decide +kernel
theorem dQ_readFrequency_9 : decode prog_6_method_4_code 9 = .ok (.aload_n 0, 1) := by decide +kernel
theorem dQ_readFrequency_10 : decode prog_6_method_4_code 10 = .ok (.getfield 25, 3) := by decide +kernel
theorem dQ_readFrequency_13 : decode prog_6_method_4_code 13 = .ok (.getstatic 29, 3) := by decide +kernel
theorem dQ_readFrequency_16 : decode prog_6_method_4_code 16 = .ok (.putfield 35, 3) := by decide +kernel
theorem dQ_readFrequency_19 : decode prog_6_method_4_code 19 = .ok (.goto 66, 3) := by decide +kernel
theorem dQ_readFrequency_22 : decode prog_6_method_4_code 22 = .ok (.aload_n 0, 1) := by decide +kernel
theorem dQ_readFrequency_23 : decode prog_6_method_4_code 23 = .ok (.ldc 108, 2) := by decide +kernel
theorem dQ_readFrequency_25 : decode prog_6_method_4_code 25 = .ok (.invokevirtual 54, 3) := by decide +kernel
theorem dQ_readFrequency_28 : decode prog_6_method_4_code 28 = .ok (.ifCond .eq 16, 3) := by decide +kernel
theorem dQ_readFrequency_31 : decode prog_6_method_4_code 31 = .ok (.aload_n 0, 1) := by decide +kernel
theorem dQ_readFrequency_32 : decode prog_6_method_4_code 32 = .ok (.getfield 25, 3) := by decide +kernel
theorem dQ_readFrequency_35 : decode prog_6_method_4_code 35 = .ok (.getstatic 110, 3) := by decide +kernel
theorem dQ_readFrequency_38 : decode prog_6_method_4_code 38 = .ok (.putfield 35, 3) := by decide +kernel
theorem dQ_readFrequency_41 : decode prog_6_method_4_code 41 = .ok (.goto 44, 3) := by decide +kernel
theorem dQ_readFrequency_44 : decode prog_6_method_4_code 44 = .ok (.aload_n 0, 1) := by decide +kernel
theorem dQ_readFrequency_45 : decode prog_6_method_4_code 45 = .ok (.ldc 112, 2) := by decide +kernel
theorem dQ_readFrequency_47 : decode prog_6_method_4_code 47 = .ok (.invokevirtual 54, 3) := by decide +kernel
theorem dQ_readFrequency_50 : decode prog_6_method_4_code 50 = .ok (.ifCond .eq 16, 3) := by decide +kernel
theorem dQ_readFrequency_53 : decode prog_6_method_4_code 53 = .ok (.aload_n 0, 1) := by decide +kernel
theorem dQ_readFrequency_54 : decode prog_6_method_4_code 54 = .ok (.getfield 25, 3) := by decide +kernel
theorem dQ_readFrequency_57 : decode prog_6_method_4_code 57 = .ok (.getstatic 114, 3) := by decide +kernel
theorem dQ_readFrequency_60 : decode prog_6_method_4_code 60 = .ok (.putfield 35, 3) := by decide +kernel
theorem dQ_readFrequency_63 : decode prog_6_method_4_code 63 = .ok (.goto 22, 3) := by decide +kernel
theorem dQ_readFrequency_66 : decode prog_6_method_4_code 66 = .ok (.aload_n 0, 1) := by decide +kernel
theorem dQ_readFrequency_67 : decode prog_6_method_4_code 67 = .ok (.ldc 116, 2) := by decide +kernel
theorem dQ_readFrequency_69 : decode prog_6_method_4_code 69 = .ok (.invokevirtual 54, 3) := by decide +kernel
theorem dQ_readFrequency_72 : decode prog_6_method_4_code 72 = .ok (.ifCond .eq 13, 3) := by decide +kernel
theorem dQ_readFrequency_75 : decode prog_6_method_4_code 75 = .ok (.aload_n 0, 1) := by decide +kernel
theorem dQ_readFrequency_76 : decode prog_6_method_4_code 76 = .ok (.getfield 25, 3) := by decide +kernel
theorem dQ_readFrequency_79 : decode prog_6_method_4_code 79 = .ok (.getstatic 118, 3) := by decide +kernel
theorem dQ_readFrequency_82 : decode prog_6_method_4_code 82 = .ok (.putfield 35, 3) := by decide +kernel
theorem dQ_readFrequency_85 : decode prog_6_method_4_code 85 = .ok (.aload_n 0, 1) := by decide +kernel
theorem dQ_readFrequency_86 : decode prog_6_method_4_code 86 = .ok (.getfield 25, 3) := by decide +kernel
theorem dQ_readFrequency_89 : decode prog_6_method_4_code 89 = .ok (.getfield 35, 3) := by decide +kernel
theorem dQ_readFrequency_92 : decode prog_6_method_4_code 92 = .ok (.ifnull 7, 3) := by decide +kernel
theorem dQ_readFrequency_95 : decode prog_6_method_4_code 95 = .ok (.iconst 1, 1) := by decide +kernel
theorem dQ_readFrequency_96 : decode prog_6_method_4_code 96 = .ok (.goto 4, 3) := by decide +kernel
theorem dQ_readFrequency_99 : decode prog_6_method_4_code 99 = .ok (.iconst 0, 1) := by decide +kernel
theorem dQ_readFrequency_100 : decode prog_6_method_4_code 100 = .ok (.ireturn, 1) := by decide +kernel
theorem dQ_isDigitNext_0 : decode prog_6_method_14_code 0 = .ok (.aload_n 0, 1) := by decide +kernel
theorem dQ_isDigitNext_1 : decode prog_6_method_14_code 1 = .ok (.getfield 19, 3) := by decide +kernel
theorem dQ_isDigitNext_4 : decode prog_6_method_14_code 4 = .ok (.aload_n 0, 1) := by decide +kernel
theorem dQ_isDigitNext_5 : decode prog_6_method_14_code 5 = .ok (.getfield 15, 3) := by decide +kernel
theorem dQ_isDigitNext_8 : decode prog_6_method_14_code 8 = .ok (.if_icmp .ge 35, 3) := by decide +kernel
theorem dQ_isDigitNext_11 : decode prog_6_method_14_code 11 = .ok (.aload_n 0, 1) := by decide +kernel
theorem dQ_isDigitNext_12 : decode prog_6_method_14_code 12 = .ok (.getfield 9, 3) := by decide +kernel
theorem dQ_isDigitNext_15 : decode prog_6_method_14_code 15 = .ok (.aload_n 0, 1) := by decide +kernel
theorem dQ_isDigitNext_16 : decode prog_6_method_14_code 16 = .ok (.getfield 19, 3) := by decide +kernel
theorem dQ_isDigitNext_19 : decode prog_6_method_14_code 19 = .ok (.caload, 1) := by decide +kernel
theorem dQ_isDigitNext_20 : decode prog_6_method_14_code 20 = .ok (.bipush 48, 2) := by decide +kernel
theorem dQ_isDigitNext_22 : decode prog_6_method_14_code 22 = .ok (.if_icmp .lt 21, 3) := by decide +kernel
theorem dQ_isDigitNext_25 : decode prog_6_method_14_code 25 = .ok (.aload_n 0, 1) := by decide +kernel
theorem dQ_isDigitNext_26 : decode prog_6_method_14_code 26 = .ok (.getfield 9, 3) := by decide +kernel
theorem dQ_isDigitNext_29 : decode prog_6_method_14_code 29 = .ok (.aload_n 0, 1) := by decide +kernel
theorem dQ_isDigitNext_30 : decode prog_6_method_14_code 30 = .ok (.getfield 19, 3) := by decide +kernel
theorem dQ_isDigitNext_33 : decode prog_6_method_14_code 33 = .ok (.caload, 1) := by decide +kernel
theorem dQ_isDigitNext_34 : decode prog_6_method_14_code 34 = .ok (.bipush 57, 2) := by decide +kernel
theorem dQ_isDigitNext_36 : decode prog_6_method_14_code 36 = .ok (.if_icmp .gt 7, 3) := by decide +kernel
theorem dQ_isDigitNext_39 : decode prog_6_method_14_code 39 = .ok (.iconst 1, 1) := by decide +kernel
theorem dQ_isDigitNext_40 : decode prog_6_method_14_code 40 = .ok (.goto 4, 3) := by decide +kernel
theorem dQ_isDigitNext_43 : decode prog_6_method_14_code 43 = .ok (.iconst 0, 1) := by decide +kernel
theorem dQ_isDigitNext_44 : decode prog_6_method_14_code 44 = .ok (.ireturn, 1) := by decide +kernel
theorem dQ_takeNumber_0 : decode prog_6_method_13_code 0 = .ok (.iconst 0, 1) := by decide +kernel
theorem dQ_takeNumber_1 : decode prog_6_method_13_code 1 = .ok (.istore_n 3, 1) := by decide +kernel
theorem dQ_takeNumber_2 : decode prog_6_method_13_code 2 = .ok (.iconst 0, 1) := by decide +kernel
theorem dQ_takeNumber_3 : decode prog_6_method_13_code 3 = .ok (.istore 4, 2) := by decide +kernel
theorem dQ_takeNumber_5 : decode prog_6_method_13_code 5 = .ok (.iload 4, 2) := by decide +kernel
theorem dQ_takeNumber_7 : decode prog_6_method_13_code 7 = .ok (.iload_n 1, 1) := by decide +kernel
theorem dQ_takeNumber_8 : decode prog_6_method_13_code 8 = .ok (.if_icmp .ge 44, 3) := by decide +kernel
theorem dQ_takeNumber_11 : decode prog_6_method_13_code 11 = .ok (.aload_n 0, 1) := by decide +kernel
theorem dQ_takeNumber_12 : decode prog_6_method_13_code 12 = .ok (.invokevirtual 137, 3) := by decide +kernel
theorem dQ_takeNumber_15 : decode prog_6_method_13_code 15 = .ok (.ifCond .eq 37, 3) := by decide +kernel
theorem dQ_takeNumber_18 : decode prog_6_method_13_code 18 = .ok (.bipush 10, 2) := by decide +kernel
theorem dQ_takeNumber_20 : decode prog_6_method_13_code 20 = .ok (.iload_n 3, 1) := by decide +kernel
theorem dQ_takeNumber_21 : decode prog_6_method_13_code 21 = .ok (.imul, 1) := by decide +kernel
theorem dQ_takeNumber_22 : decode prog_6_method_13_code 22 = .ok (.aload_n 0, 1) := by decide +kernel
theorem dQ_takeNumber_23 : decode prog_6_method_13_code 23 = .ok (.getfield 9, 3) := by decide +kernel
theorem dQ_takeNumber_26 : decode prog_6_method_13_code 26 = .ok (.aload_n 0, 1) := by decide +kernel
theorem dQ_takeNumber_27 : decode prog_6_method_13_code 27 = .ok (.getfield 19, 3) := by decide +kernel
theorem dQ_takeNumber_30 : decode prog_6_method_13_code 30 = .ok (.caload, 1) := by decide +kernel
theorem dQ_takeNumber_31 : decode prog_6_method_13_code 31 = .ok (.iadd, 1) := by decide +kernel
theorem dQ_takeNumber_32 : decode prog_6_method_13_code 32 = .ok (.bipush 48, 2) := by decide +kernel
theorem dQ_takeNumber_34 : decode prog_6_method_13_code 34 = .ok (.isub, 1) := by decide +kernel
theorem dQ_takeNumber_35 : decode prog_6_method_13_code 35 = .ok (.istore_n 3, 1) := by decide +kernel
theorem dQ_takeNumber_36 : decode prog_6_method_13_code 36 = .ok (.aload_n 0, 1) := by decide +kernel
theorem dQ_takeNumber_37 : decode prog_6_method_13_code 37 = .ok (.dup, 1) := by decide +kernel
theorem dQ_takeNumber_38 : decode prog_6_method_13_code 38 = .ok (.getfield 19, 3) := by decide +kernel
theorem dQ_takeNumber_41 : decode prog_6_method_13_code 41 = .ok (.iconst 1, 1) := by decide +kernel
theorem dQ_takeNumber_42 : decode prog_6_method_13_code 42 = .ok (.iadd, 1) := by decide +kernel
theorem dQ_takeNumber_43 : decode prog_6_method_13_code 43 = .ok (.putfield 19, 3) := by decide +kernel
theorem dQ_takeNumber_46 : decode prog_6_method_13_code 46 = .ok (.iinc 4 1, 3) := by decide +kernel
theorem dQ_takeNumber_49 : decode prog_6_method_13_code 49 = .ok (.goto (-44), 3) := by decide +kernel
theorem dQ_takeNumber_52 : decode prog_6_method_13_code 52 = .ok (.iload_n 3, 1) := by decide +kernel
theorem dQ_takeNumber_53 : decode prog_6_method_13_code 53 = .ok (.iload_n 2, 1) := by decide +kernel
theorem dQ_takeNumber_54 : decode prog_6_method_13_code 54 = .ok (.if_icmp .gt 7, 3) := by decide +kernel
theorem dQ_takeNumber_57 : decode prog_6_method_13_code 57 = .ok (.iload_n 3, 1) := by decide +kernel
theorem dQ_takeNumber_58 : decode prog_6_method_13_code 58 = .ok (.goto 4, 3) := by decide +kernel
theorem dQ_takeNumber_61 : decode prog_6_method_13_code 61 = .ok (.iconst 0, 1) := by decide +kernel
theorem dQ_takeNumber_62 : decode prog_6_method_13_code 62 = .ok (.ireturn, 1) := by decide +kernel
theorem dQ_readInterval_0 : decode prog_6_method_5_code 0 = .ok (.aload_n 0, 1) := by decide +kernel
theorem dQ_readInterval_1 : decode prog_6_method_5_code 1 = .ok (.getfield 25, 3) := by decide +kernel
theorem dQ_readInterval_4 : decode prog_6_method_5_code 4 = .ok (.aload_n 0, 1) := by decide +kernel
theorem dQ_readInterval_5 : decode prog_6_method_5_code 5 = .ok (.iconst 2, 1) := by decide +kernel
theorem dQ_readInterval_6 : decode prog_6_method_5_code 6 = .ok (.bipush 99, 2) := by decide +kernel
theorem dQ_readInterval_8 : decode prog_6_method_5_code 8 = .ok (.invokevirtual 120, 3) := by decide +kernel
theorem dQ_readInterval_11 : decode prog_6_method_5_code 11 = .ok (.putfield 63, 3) := by decide +kernel
theorem dQ_readInterval_14 : decode prog_6_method_5_code 14 = .ok (.aload_n 0, 1) := by decide +kernel
theorem dQ_readInterval_15 : decode prog_6_method_5_code 15 = .ok (.getfield 25, 3) := by decide +kernel
theorem dQ_readInterval_18 : decode prog_6_method_5_code 18 = .ok (.getfield 63, 3) := by decide +kernel
theorem dQ_readInterval_21 : decode prog_6_method_5_code 21 = .ok (.ifCond .eq 7, 3) := by decide +kernel
theorem dQ_readInterval_24 : decode prog_6_method_5_code 24 = .ok (.iconst 1, 1) := by decide +kernel
theorem dQ_readInterval_25 : decode prog_6_method_5_code 25 = .ok (.goto 4, 3) := by decide +kernel
theorem dQ_readInterval_28 : decode prog_6_method_5_code 28 = .ok (.iconst 0, 1) := by decide +kernel
theorem dQ_readInterval_29 : decode prog_6_method_5_code 29 = .ok (.ireturn, 1) := by decide +kernel
theorem dQ_readCount_0 : decode prog_6_method_6_code 0 = .ok (.aload_n 0, 1) := by decide +kernel
theorem dQ_readCount_1 : decode prog_6_method_6_code 1 = .ok (.getfield 25, 3) := by decide +kernel
theorem dQ_readCount_4 : decode prog_6_method_6_code 4 = .ok (.aload_n 0, 1) := by decide +kernel
theorem dQ_readCount_5 : decode prog_6_method_6_code 5 = .ok (.iconst 3, 1) := by decide +kernel
theorem dQ_readCount_6 : decode prog_6_method_6_code 6 = .ok (.sipush 200, 3) := by decide +kernel
theorem dQ_readCount_9 : decode prog_6_method_6_code 9 = .ok (.invokevirtual 120, 3) := by decide +kernel
theorem dQ_readCount_12 : decode prog_6_method_6_code 12 = .ok (.putfield 38, 3) := by decide +kernel
theorem dQ_readCount_15 : decode prog_6_method_6_code 15 = .ok (.aload_n 0, 1) := by decide +kernel
theorem dQ_readCount_16 : decode prog_6_method_6_code 16 = .ok (.getfield 25, 3) := by decide +kernel
theorem dQ_readCount_19 : decode prog_6_method_6_code 19 = .ok (.getfield 38, 3) := by decide +kernel
theorem dQ_readCount_22 : decode prog_6_method_6_code 22 = .ok (.ifCond .eq 7, 3) := by decide +kernel
theorem dQ_readCount_25 : decode prog_6_method_6_code 25 = .ok (.iconst 1, 1) := by decide +kernel
theorem dQ_readCount_26 : decode prog_6_method_6_code 26 = .ok (.goto 4, 3) := by decide +kernel
theorem dQ_readCount_29 : decode prog_6_method_6_code 29 = .ok (.iconst 0, 1) := by decide +kernel
theorem dQ_readCount_30 : decode prog_6_method_6_code 30 = .ok (.ireturn, 1) := by decide +kernel
theorem dD_dayOf_0 : decode prog_2_method_6_code 0 = .ok (.iload_n 0, 1) := by decide +kernel
theorem dD_dayOf_1 : decode prog_2_method_6_code 1 = .ok (.sipush 2000, 3) := by decide +kernel
theorem dD_dayOf_4 : decode prog_2_method_6_code 4 = .ok (.if_icmp .lt 17, 3) := by decide +kernel
theorem dD_dayOf_7 : decode prog_2_method_6_code 7 = .ok (.iload_n 0, 1) := by decide +kernel
theorem dD_dayOf_8 : decode prog_2_method_6_code 8 = .ok (.sipush 2100, 3) := by decide +kernel
theorem dD_dayOf_11 : decode prog_2_method_6_code 11 = .ok (.if_icmp .ge 10, 3) := by decide +kernel
theorem dD_dayOf_14 : decode prog_2_method_6_code 14 = .ok (.iload_n 1, 1) := by decide +kernel
theorem dD_dayOf_15 : decode prog_2_method_6_code 15 = .ok (.invokestatic 28, 3) := by decide +kernel
theorem dD_dayOf_18 : decode prog_2_method_6_code 18 = .ok (.ifCond .ne 5, 3) := by decide +kernel
theorem dD_dayOf_21 : decode prog_2_method_6_code 21 = .ok (.iconst (-1), 1) := by decide +kernel
theorem dD_dayOf_22 : decode prog_2_method_6_code 22 = .ok (.ireturn, 1) := by decide +kernel
theorem dD_dayOf_23 : decode prog_2_method_6_code 23 = .ok (.bipush 12, 2) := by decide +kernel
theorem dD_dayOf_25 : decode prog_2_method_6_code 25 = .ok (.iload_n 0, 1) := by decide +kernel
theorem dD_dayOf_26 : decode prog_2_method_6_code 26 = .ok (.sipush 2000, 3) := by decide +kernel
theorem dD_dayOf_29 : decode prog_2_method_6_code 29 = .ok (.isub, 1) := by decide +kernel
theorem dD_dayOf_30 : decode prog_2_method_6_code 30 = .ok (.imul, 1) := by decide +kernel
theorem dD_dayOf_31 : decode prog_2_method_6_code 31 = .ok (.iload_n 1, 1) := by decide +kernel
theorem dD_dayOf_32 : decode prog_2_method_6_code 32 = .ok (.iadd, 1) := by decide +kernel
theorem dD_dayOf_33 : decode prog_2_method_6_code 33 = .ok (.iconst 1, 1) := by decide +kernel
theorem dD_dayOf_34 : decode prog_2_method_6_code 34 = .ok (.isub, 1) := by decide +kernel
theorem dD_dayOf_35 : decode prog_2_method_6_code 35 = .ok (.istore_n 3, 1) := by decide +kernel
theorem dD_dayOf_36 : decode prog_2_method_6_code 36 = .ok (.iload_n 3, 1) := by decide +kernel
theorem dD_dayOf_37 : decode prog_2_method_6_code 37 = .ok (.invokestatic 25, 3) := by decide +kernel
theorem dD_dayOf_40 : decode prog_2_method_6_code 40 = .ok (.istore 4, 2) := by decide +kernel
theorem dD_dayOf_42 : decode prog_2_method_6_code 42 = .ok (.iload_n 2, 1) := by decide +kernel
theorem dD_dayOf_43 : decode prog_2_method_6_code 43 = .ok (.iconst 1, 1) := by decide +kernel
theorem dD_dayOf_44 : decode prog_2_method_6_code 44 = .ok (.if_icmp .lt 16, 3) := by decide +kernel
theorem dD_dayOf_47 : decode prog_2_method_6_code 47 = .ok (.iload_n 2, 1) := by decide +kernel
theorem dD_dayOf_48 : decode prog_2_method_6_code 48 = .ok (.iload_n 3, 1) := by decide +kernel
theorem dD_dayOf_49 : decode prog_2_method_6_code 49 = .ok (.iconst 1, 1) := by decide +kernel
theorem dD_dayOf_50 : decode prog_2_method_6_code 50 = .ok (.iadd, 1) := by decide +kernel
theorem dD_dayOf_51 : decode prog_2_method_6_code 51 = .ok (.invokestatic 25, 3) := by decide +kernel
theorem dD_dayOf_54 : decode prog_2_method_6_code 54 = .ok (.iload 4, 2) := by decide +kernel
theorem dD_dayOf_56 : decode prog_2_method_6_code 56 = .ok (.isub, 1) := by decide +kernel
theorem dD_dayOf_57 : decode prog_2_method_6_code 57 = .ok (.if_icmp .le 5, 3) := by decide +kernel
theorem dD_dayOf_60 : decode prog_2_method_6_code 60 = .ok (.iconst (-1), 1) := by decide +kernel
theorem dD_dayOf_61 : decode prog_2_method_6_code 61 = .ok (.ireturn, 1) := by decide +kernel
theorem dD_dayOf_62 : decode prog_2_method_6_code 62 = .ok (.iload 4, 2) := by decide +kernel
theorem dD_dayOf_64 : decode prog_2_method_6_code 64 = .ok (.iload_n 2, 1) := by decide +kernel
theorem dD_dayOf_65 : decode prog_2_method_6_code 65 = .ok (.iadd, 1) := by decide +kernel
theorem dD_dayOf_66 : decode prog_2_method_6_code 66 = .ok (.iconst 1, 1) := by decide +kernel
theorem dD_dayOf_67 : decode prog_2_method_6_code 67 = .ok (.isub, 1) := by decide +kernel
theorem dD_dayOf_68 : decode prog_2_method_6_code 68 = .ok (.ireturn, 1) := by decide +kernel
theorem dQ_readUntil_0 : decode prog_6_method_7_code 0 = .ok (.aload_n 0, 1) := by decide +kernel
theorem dQ_readUntil_1 : decode prog_6_method_7_code 1 = .ok (.getfield 19, 3) := by decide +kernel
theorem dQ_readUntil_4 : decode prog_6_method_7_code 4 = .ok (.istore_n 1, 1) := by decide +kernel
theorem dQ_readUntil_5 : decode prog_6_method_7_code 5 = .ok (.aload_n 0, 1) := by decide +kernel
theorem dQ_readUntil_6 : decode prog_6_method_7_code 6 = .ok (.bipush 8, 2) := by decide +kernel
theorem dQ_readUntil_8 : decode prog_6_method_7_code 8 = .ok (.ldc 124, 2) := by decide +kernel
theorem dQ_readUntil_10 : decode prog_6_method_7_code 10 = .ok (.invokevirtual 120, 3) := by decide +kernel
theorem dQ_readUntil_13 : decode prog_6_method_7_code 13 = .ok (.istore_n 2, 1) := by decide +kernel
theorem dQ_readUntil_14 : decode prog_6_method_7_code 14 = .ok (.aload_n 0, 1) := by decide +kernel
theorem dQ_readUntil_15 : decode prog_6_method_7_code 15 = .ok (.getfield 19, 3) := by decide +kernel
theorem dQ_readUntil_18 : decode prog_6_method_7_code 18 = .ok (.iload_n 1, 1) := by decide +kernel
theorem dQ_readUntil_19 : decode prog_6_method_7_code 19 = .ok (.isub, 1) := by decide +kernel
theorem dQ_readUntil_20 : decode prog_6_method_7_code 20 = .ok (.bipush 8, 2) := by decide +kernel
theorem dQ_readUntil_22 : decode prog_6_method_7_code 22 = .ok (.if_icmp .eq 5, 3) := by decide +kernel
theorem dQ_readUntil_25 : decode prog_6_method_7_code 25 = .ok (.iconst 0, 1) := by decide +kernel
theorem dQ_readUntil_26 : decode prog_6_method_7_code 26 = .ok (.ireturn, 1) := by decide +kernel
theorem dQ_readUntil_27 : decode prog_6_method_7_code 27 = .ok (.iload_n 2, 1) := by decide +kernel
theorem dQ_readUntil_28 : decode prog_6_method_7_code 28 = .ok (.sipush 10000, 3) := by decide +kernel
theorem dQ_readUntil_31 : decode prog_6_method_7_code 31 = .ok (.idiv, 1) := by decide +kernel
theorem dQ_readUntil_32 : decode prog_6_method_7_code 32 = .ok (.iload_n 2, 1) := by decide +kernel
theorem dQ_readUntil_33 : decode prog_6_method_7_code 33 = .ok (.bipush 100, 2) := by decide +kernel
theorem dQ_readUntil_35 : decode prog_6_method_7_code 35 = .ok (.idiv, 1) := by decide +kernel
theorem dQ_readUntil_36 : decode prog_6_method_7_code 36 = .ok (.bipush 100, 2) := by decide +kernel
theorem dQ_readUntil_38 : decode prog_6_method_7_code 38 = .ok (.irem, 1) := by decide +kernel
theorem dQ_readUntil_39 : decode prog_6_method_7_code 39 = .ok (.iload_n 2, 1) := by decide +kernel
theorem dQ_readUntil_40 : decode prog_6_method_7_code 40 = .ok (.bipush 100, 2) := by decide +kernel
theorem dQ_readUntil_42 : decode prog_6_method_7_code 42 = .ok (.irem, 1) := by decide +kernel
theorem dQ_readUntil_43 : decode prog_6_method_7_code 43 = .ok (.invokestatic 125, 3) := by decide +kernel
theorem dQ_readUntil_46 : decode prog_6_method_7_code 46 = .ok (.istore_n 3, 1) := by decide +kernel
theorem dQ_readUntil_47 : decode prog_6_method_7_code 47 = .ok (.aload_n 0, 1) := by decide +kernel
theorem dQ_readUntil_48 : decode prog_6_method_7_code 48 = .ok (.getfield 25, 3) := by decide +kernel
theorem dQ_readUntil_51 : decode prog_6_method_7_code 51 = .ok (.iconst 1, 1) := by decide +kernel
theorem dQ_readUntil_52 : decode prog_6_method_7_code 52 = .ok (.putfield 76, 3) := by decide +kernel
theorem dQ_readUntil_55 : decode prog_6_method_7_code 55 = .ok (.aload_n 0, 1) := by decide +kernel
theorem dQ_readUntil_56 : decode prog_6_method_7_code 56 = .ok (.getfield 25, 3) := by decide +kernel
theorem dQ_readUntil_59 : decode prog_6_method_7_code 59 = .ok (.iload_n 3, 1) := by decide +kernel
theorem dQ_readUntil_60 : decode prog_6_method_7_code 60 = .ok (.putfield 131, 3) := by decide +kernel
theorem dQ_readUntil_63 : decode prog_6_method_7_code 63 = .ok (.iload_n 3, 1) := by decide +kernel
theorem dQ_readUntil_64 : decode prog_6_method_7_code 64 = .ok (.ifCond .lt 7, 3) := by decide +kernel
theorem dQ_readUntil_67 : decode prog_6_method_7_code 67 = .ok (.iconst 1, 1) := by decide +kernel
theorem dQ_readUntil_68 : decode prog_6_method_7_code 68 = .ok (.goto 4, 3) := by decide +kernel
theorem dQ_readUntil_71 : decode prog_6_method_7_code 71 = .ok (.iconst 0, 1) := by decide +kernel
theorem dQ_readUntil_72 : decode prog_6_method_7_code 72 = .ok (.ireturn, 1) := by decide +kernel
theorem dR_hasWeekdays_0 : decode prog_5_method_6_code 0 = .ok (.aload_n 0, 1) := by decide +kernel
theorem dR_hasWeekdays_1 : decode prog_5_method_6_code 1 = .ok (.getfield 26, 3) := by decide +kernel
theorem dR_hasWeekdays_4 : decode prog_5_method_6_code 4 = .ok (.i2l, 1) := by decide +kernel
theorem dR_hasWeekdays_5 : decode prog_5_method_6_code 5 = .ok (.aload_n 0, 1) := by decide +kernel
theorem dR_hasWeekdays_6 : decode prog_5_method_6_code 6 = .ok (.getfield 37, 3) := by decide +kernel
theorem dR_hasWeekdays_9 : decode prog_5_method_6_code 9 = .ok (.lor, 1) := by decide +kernel
theorem dR_hasWeekdays_10 : decode prog_5_method_6_code 10 = .ok (.aload_n 0, 1) := by decide +kernel
theorem dR_hasWeekdays_11 : decode prog_5_method_6_code 11 = .ok (.getfield 29, 3) := by decide +kernel
theorem dR_hasWeekdays_14 : decode prog_5_method_6_code 14 = .ok (.lor, 1) := by decide +kernel
theorem dR_hasWeekdays_15 : decode prog_5_method_6_code 15 = .ok (.lconst 0, 1) := by decide +kernel
theorem dR_hasWeekdays_16 : decode prog_5_method_6_code 16 = .ok (.lcmp, 1) := by decide +kernel
theorem dR_hasWeekdays_17 : decode prog_5_method_6_code 17 = .ok (.ifCond .eq 7, 3) := by decide +kernel
theorem dR_hasWeekdays_20 : decode prog_5_method_6_code 20 = .ok (.iconst 1, 1) := by decide +kernel
theorem dR_hasWeekdays_21 : decode prog_5_method_6_code 21 = .ok (.goto 4, 3) := by decide +kernel
theorem dR_hasWeekdays_24 : decode prog_5_method_6_code 24 = .ok (.iconst 0, 1) := by decide +kernel
theorem dR_hasWeekdays_25 : decode prog_5_method_6_code 25 = .ok (.ireturn, 1) := by decide +kernel
