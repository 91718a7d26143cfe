/-! Decoded instructions. -/
theorem dZ_init_0 : decode prog_9_method_1_code 0 = .ok (.aload_n 0, 1) := by decide +kernel
theorem dZ_init_1 : decode prog_9_method_1_code 1 = .ok (.invokespecial 3, 3) := by decide +kernel
theorem dZ_init_4 : decode prog_9_method_1_code 4 = .ok (.aload_n 0, 1) := by decide +kernel
theorem dZ_init_5 : decode prog_9_method_1_code 5 = .ok (.bipush 100, 2) := by decide +kernel
theorem dZ_init_7 : decode prog_9_method_1_code 7 = .ok (.newarray .int, 2) := by decide +kernel
theorem dZ_init_9 : decode prog_9_method_1_code 9 = .ok (.putfield 9, 3) := by decide +kernel
theorem dZ_init_12 : decode prog_9_method_1_code 12 = .ok (.aload_n 0, 1) := by decide +kernel
theorem dZ_init_13 : decode prog_9_method_1_code 13 = .ok (.bipush 100, 2) := by decide +kernel
theorem dZ_init_15 : decode prog_9_method_1_code 15 = .ok (.newarray .int, 2) := by decide +kernel
theorem dZ_init_17 : decode prog_9_method_1_code 17 = .ok (.putfield 15, 3) := by decide +kernel
theorem dZ_init_20 : decode prog_9_method_1_code 20 = .ok (.return_, 1) := by decide +kernel
theorem dJ_floorMod_0 : decode prog_16_method_50_code 0 = .ok (.iload_n 0, 1) := by decide +kernel
theorem dJ_floorMod_1 : decode prog_16_method_50_code 1 = .ok (.iload_n 1, 1) := by decide +kernel
theorem dJ_floorMod_2 : decode prog_16_method_50_code 2 = .ok (.irem, 1) := by decide +kernel
theorem dJ_floorMod_3 : decode prog_16_method_50_code 3 = .ok (.istore_n 2, 1) := by decide +kernel
theorem dJ_floorMod_4 : decode prog_16_method_50_code 4 = .ok (.iload_n 0, 1) := by decide +kernel
theorem dJ_floorMod_5 : decode prog_16_method_50_code 5 = .ok (.iload_n 1, 1) := by decide +kernel
theorem dJ_floorMod_6 : decode prog_16_method_50_code 6 = .ok (.ixor, 1) := by decide +kernel
theorem dJ_floorMod_7 : decode prog_16_method_50_code 7 = .ok (.ifCond .ge 11, 3) := by decide +kernel
theorem dJ_floorMod_10 : decode prog_16_method_50_code 10 = .ok (.iload_n 2, 1) := by decide +kernel
theorem dJ_floorMod_11 : decode prog_16_method_50_code 11 = .ok (.ifCond .eq 7, 3) := by decide +kernel
theorem dJ_floorMod_14 : decode prog_16_method_50_code 14 = .ok (.iload_n 2, 1) := by decide +kernel
theorem dJ_floorMod_15 : decode prog_16_method_50_code 15 = .ok (.iload_n 1, 1) := by decide +kernel
theorem dJ_floorMod_16 : decode prog_16_method_50_code 16 = .ok (.iadd, 1) := by decide +kernel
theorem dJ_floorMod_17 : decode prog_16_method_50_code 17 = .ok (.ireturn, 1) := by decide +kernel
theorem dJ_floorMod_18 : decode prog_16_method_50_code 18 = .ok (.iload_n 2, 1) := by decide +kernel
theorem dJ_floorMod_19 : decode prog_16_method_50_code 19 = .ok (.ireturn, 1) := by decide +kernel
theorem dD_monthStart_0 : decode prog_2_method_4_code 0 = .ok (.iload_n 0, 1) := by decide +kernel
theorem dD_monthStart_1 : decode prog_2_method_4_code 1 = .ok (.bipush 12, 2) := by decide +kernel
theorem dD_monthStart_3 : decode prog_2_method_4_code 3 = .ok (.idiv, 1) := by decide +kernel
theorem dD_monthStart_4 : decode prog_2_method_4_code 4 = .ok (.istore_n 1, 1) := by decide +kernel
theorem dD_monthStart_5 : decode prog_2_method_4_code 5 = .ok (.iload_n 0, 1) := by decide +kernel
theorem dD_monthStart_6 : decode prog_2_method_4_code 6 = .ok (.bipush 12, 2) := by decide +kernel
theorem dD_monthStart_8 : decode prog_2_method_4_code 8 = .ok (.invokestatic 11, 3) := by decide +kernel
theorem dD_monthStart_11 : decode prog_2_method_4_code 11 = .ok (.istore_n 2, 1) := by decide +kernel
theorem dD_monthStart_12 : decode prog_2_method_4_code 12 = .ok (.iload_n 2, 1) := by decide +kernel
theorem dD_monthStart_13 : decode prog_2_method_4_code 13 = .ok (.iconst 2, 1) := by decide +kernel
theorem dD_monthStart_14 : decode prog_2_method_4_code 14 = .ok (.if_icmp .lt 13, 3) := by decide +kernel
theorem dD_monthStart_17 : decode prog_2_method_4_code 17 = .ok (.iload_n 1, 1) := by decide +kernel
theorem dD_monthStart_18 : decode prog_2_method_4_code 18 = .ok (.iconst 4, 1) := by decide +kernel
theorem dD_monthStart_19 : decode prog_2_method_4_code 19 = .ok (.irem, 1) := by decide +kernel
theorem dD_monthStart_20 : decode prog_2_method_4_code 20 = .ok (.ifCond .ne 7, 3) := by decide +kernel
theorem dD_monthStart_23 : decode prog_2_method_4_code 23 = .ok (.iconst 1, 1) := by decide +kernel
theorem dD_monthStart_24 : decode prog_2_method_4_code 24 = .ok (.goto 4, 3) := by decide +kernel
theorem dD_monthStart_27 : decode prog_2_method_4_code 27 = .ok (.iconst 0, 1) := by decide +kernel
theorem dD_monthStart_28 : decode prog_2_method_4_code 28 = .ok (.istore_n 3, 1) := by decide +kernel
theorem dD_monthStart_29 : decode prog_2_method_4_code 29 = .ok (.sipush 365, 3) := by decide +kernel
theorem dD_monthStart_32 : decode prog_2_method_4_code 32 = .ok (.iload_n 1, 1) := by decide +kernel
theorem dD_monthStart_33 : decode prog_2_method_4_code 33 = .ok (.imul, 1) := by decide +kernel
theorem dD_monthStart_34 : decode prog_2_method_4_code 34 = .ok (.iload_n 1, 1) := by decide +kernel
theorem dD_monthStart_35 : decode prog_2_method_4_code 35 = .ok (.iconst 3, 1) := by decide +kernel
theorem dD_monthStart_36 : decode prog_2_method_4_code 36 = .ok (.iadd, 1) := by decide +kernel
theorem dD_monthStart_37 : decode prog_2_method_4_code 37 = .ok (.iconst 4, 1) := by decide +kernel
theorem dD_monthStart_38 : decode prog_2_method_4_code 38 = .ok (.idiv, 1) := by decide +kernel
theorem dD_monthStart_39 : decode prog_2_method_4_code 39 = .ok (.iadd, 1) := by decide +kernel
theorem dD_monthStart_40 : decode prog_2_method_4_code 40 = .ok (.getstatic 17, 3) := by decide +kernel
theorem dD_monthStart_43 : decode prog_2_method_4_code 43 = .ok (.iload_n 2, 1) := by decide +kernel
theorem dD_monthStart_44 : decode prog_2_method_4_code 44 = .ok (.iaload, 1) := by decide +kernel
theorem dD_monthStart_45 : decode prog_2_method_4_code 45 = .ok (.iadd, 1) := by decide +kernel
theorem dD_monthStart_46 : decode prog_2_method_4_code 46 = .ok (.iload_n 3, 1) := by decide +kernel
theorem dD_monthStart_47 : decode prog_2_method_4_code 47 = .ok (.iadd, 1) := by decide +kernel
theorem dD_monthStart_48 : decode prog_2_method_4_code 48 = .ok (.ireturn, 1) := by decide +kernel
theorem dD_weekdayOf_0 : decode prog_2_method_2_code 0 = .ok (.iload_n 0, 1) := by decide +kernel
theorem dD_weekdayOf_1 : decode prog_2_method_2_code 1 = .ok (.iconst 5, 1) := by decide +kernel
theorem dD_weekdayOf_2 : decode prog_2_method_2_code 2 = .ok (.iadd, 1) := by decide +kernel
theorem dD_weekdayOf_3 : decode prog_2_method_2_code 3 = .ok (.bipush 7, 2) := by decide +kernel
theorem dD_weekdayOf_5 : decode prog_2_method_2_code 5 = .ok (.irem, 1) := by decide +kernel
theorem dD_weekdayOf_6 : decode prog_2_method_2_code 6 = .ok (.ireturn, 1) := by decide +kernel
theorem dD_sundayOf_0 : decode prog_2_method_7_code 0 = .ok (.iload_n 0, 1) := by decide +kernel
theorem dD_sundayOf_1 : decode prog_2_method_7_code 1 = .ok (.invokestatic 25, 3) := by decide +kernel
theorem dD_sundayOf_4 : decode prog_2_method_7_code 4 = .ok (.istore_n 2, 1) := by decide +kernel
theorem dD_sundayOf_5 : decode prog_2_method_7_code 5 = .ok (.iload_n 2, 1) := by decide +kernel
theorem dD_sundayOf_6 : decode prog_2_method_7_code 6 = .ok (.bipush 6, 2) := by decide +kernel
theorem dD_sundayOf_8 : decode prog_2_method_7_code 8 = .ok (.iadd, 1) := by decide +kernel
theorem dD_sundayOf_9 : decode prog_2_method_7_code 9 = .ok (.iload_n 2, 1) := by decide +kernel
theorem dD_sundayOf_10 : decode prog_2_method_7_code 10 = .ok (.invokestatic 32, 3) := by decide +kernel
theorem dD_sundayOf_13 : decode prog_2_method_7_code 13 = .ok (.isub, 1) := by decide +kernel
theorem dD_sundayOf_14 : decode prog_2_method_7_code 14 = .ok (.bipush 7, 2) := by decide +kernel
theorem dD_sundayOf_16 : decode prog_2_method_7_code 16 = .ok (.iload_n 1, 1) := by decide +kernel
theorem dD_sundayOf_17 : decode prog_2_method_7_code 17 = .ok (.iconst 1, 1) := by decide +kernel
theorem dD_sundayOf_18 : decode prog_2_method_7_code 18 = .ok (.isub, 1) := by decide +kernel
theorem dD_sundayOf_19 : decode prog_2_method_7_code 19 = .ok (.imul, 1) := by decide +kernel
theorem dD_sundayOf_20 : decode prog_2_method_7_code 20 = .ok (.iadd, 1) := by decide +kernel
theorem dD_sundayOf_21 : decode prog_2_method_7_code 21 = .ok (.istore_n 3, 1) := by decide +kernel
theorem dD_sundayOf_22 : decode prog_2_method_7_code 22 = .ok (.iload_n 3, 1) := by decide +kernel
theorem dD_sundayOf_23 : decode prog_2_method_7_code 23 = .ok (.iload_n 0, 1) := by decide +kernel
theorem dD_sundayOf_24 : decode prog_2_method_7_code 24 = .ok (.iconst 1, 1) := by decide +kernel
theorem dD_sundayOf_25 : decode prog_2_method_7_code 25 = .ok (.iadd, 1) := by decide +kernel
theorem dD_sundayOf_26 : decode prog_2_method_7_code 26 = .ok (.invokestatic 25, 3) := by decide +kernel
theorem dD_sundayOf_29 : decode prog_2_method_7_code 29 = .ok (.if_icmp .ge 7, 3) := by decide +kernel
theorem dD_sundayOf_32 : decode prog_2_method_7_code 32 = .ok (.iload_n 3, 1) := by decide +kernel
theorem dD_sundayOf_33 : decode prog_2_method_7_code 33 = .ok (.goto 7, 3) := by decide +kernel
theorem dD_sundayOf_36 : decode prog_2_method_7_code 36 = .ok (.iload_n 3, 1) := by decide +kernel
theorem dD_sundayOf_37 : decode prog_2_method_7_code 37 = .ok (.bipush 7, 2) := by decide +kernel
theorem dD_sundayOf_39 : decode prog_2_method_7_code 39 = .ok (.isub, 1) := by decide +kernel
theorem dD_sundayOf_40 : decode prog_2_method_7_code 40 = .ok (.ireturn, 1) := by decide +kernel
theorem dZ_change_0 : decode prog_9_method_2_code 0 = .ok (.aload_n 0, 1) := by decide +kernel
theorem dZ_change_1 : decode prog_9_method_2_code 1 = .ok (.iload_n 1, 1) := by decide +kernel
theorem dZ_change_2 : decode prog_9_method_2_code 2 = .ok (.putfield 18, 3) := by decide +kernel
theorem dZ_change_5 : decode prog_9_method_2_code 5 = .ok (.aload_n 0, 1) := by decide +kernel
theorem dZ_change_6 : decode prog_9_method_2_code 6 = .ok (.iload_n 2, 1) := by decide +kernel
theorem dZ_change_7 : decode prog_9_method_2_code 7 = .ok (.putfield 22, 3) := by decide +kernel
theorem dZ_change_10 : decode prog_9_method_2_code 10 = .ok (.iconst 0, 1) := by decide +kernel
theorem dZ_change_11 : decode prog_9_method_2_code 11 = .ok (.istore 7, 2) := by decide +kernel
theorem dZ_change_13 : decode prog_9_method_2_code 13 = .ok (.iload 7, 2) := by decide +kernel
theorem dZ_change_15 : decode prog_9_method_2_code 15 = .ok (.bipush 100, 2) := by decide +kernel
theorem dZ_change_17 : decode prog_9_method_2_code 17 = .ok (.if_icmp .ge 85, 3) := by decide +kernel
theorem dZ_change_20 : decode prog_9_method_2_code 20 = .ok (.bipush 12, 2) := by decide +kernel
theorem dZ_change_22 : decode prog_9_method_2_code 22 = .ok (.iload 7, 2) := by decide +kernel
theorem dZ_change_24 : decode prog_9_method_2_code 24 = .ok (.imul, 1) := by decide +kernel
theorem dZ_change_25 : decode prog_9_method_2_code 25 = .ok (.iload_n 3, 1) := by decide +kernel
theorem dZ_change_26 : decode prog_9_method_2_code 26 = .ok (.iadd, 1) := by decide +kernel
theorem dZ_change_27 : decode prog_9_method_2_code 27 = .ok (.iconst 1, 1) := by decide +kernel
theorem dZ_change_28 : decode prog_9_method_2_code 28 = .ok (.isub, 1) := by decide +kernel
theorem dZ_change_29 : decode prog_9_method_2_code 29 = .ok (.iload 4, 2) := by decide +kernel
theorem dZ_change_31 : decode prog_9_method_2_code 31 = .ok (.invokestatic 25, 3) := by decide +kernel
theorem dZ_change_34 : decode prog_9_method_2_code 34 = .ok (.istore 8, 2) := by decide +kernel
theorem dZ_change_36 : decode prog_9_method_2_code 36 = .ok (.bipush 12, 2) := by decide +kernel
theorem dZ_change_38 : decode prog_9_method_2_code 38 = .ok (.iload 7, 2) := by decide +kernel
theorem dZ_change_40 : decode prog_9_method_2_code 40 = .ok (.imul, 1) := by decide +kernel
theorem dZ_change_41 : decode prog_9_method_2_code 41 = .ok (.iload 5, 2) := by decide +kernel
theorem dZ_change_43 : decode prog_9_method_2_code 43 = .ok (.iadd, 1) := by decide +kernel
theorem dZ_change_44 : decode prog_9_method_2_code 44 = .ok (.iconst 1, 1) := by decide +kernel
theorem dZ_change_45 : decode prog_9_method_2_code 45 = .ok (.isub, 1) := by decide +kernel
theorem dZ_change_46 : decode prog_9_method_2_code 46 = .ok (.iload 6, 2) := by decide +kernel
theorem dZ_change_48 : decode prog_9_method_2_code 48 = .ok (.invokestatic 25, 3) := by decide +kernel
theorem dZ_change_51 : decode prog_9_method_2_code 51 = .ok (.istore 9, 2) := by decide +kernel
theorem dZ_change_53 : decode prog_9_method_2_code 53 = .ok (.aload_n 0, 1) := by decide +kernel
theorem dZ_change_54 : decode prog_9_method_2_code 54 = .ok (.getfield 9, 3) := by decide +kernel
theorem dZ_change_57 : decode prog_9_method_2_code 57 = .ok (.iload 7, 2) := by decide +kernel
theorem dZ_change_59 : decode prog_9_method_2_code 59 = .ok (.sipush 1440, 3) := by decide +kernel
theorem dZ_change_62 : decode prog_9_method_2_code 62 = .ok (.iload 8, 2) := by decide +kernel
theorem dZ_change_64 : decode prog_9_method_2_code 64 = .ok (.imul, 1) := by decide +kernel
theorem dZ_change_65 : decode prog_9_method_2_code 65 = .ok (.bipush 120, 2) := by decide +kernel
theorem dZ_change_67 : decode prog_9_method_2_code 67 = .ok (.iadd, 1) := by decide +kernel
theorem dZ_change_68 : decode prog_9_method_2_code 68 = .ok (.aload_n 0, 1) := by decide +kernel
theorem dZ_change_69 : decode prog_9_method_2_code 69 = .ok (.getfield 18, 3) := by decide +kernel
theorem dZ_change_72 : decode prog_9_method_2_code 72 = .ok (.isub, 1) := by decide +kernel
theorem dZ_change_73 : decode prog_9_method_2_code 73 = .ok (.iastore, 1) := by decide +kernel
theorem dZ_change_74 : decode prog_9_method_2_code 74 = .ok (.aload_n 0, 1) := by decide +kernel
theorem dZ_change_75 : decode prog_9_method_2_code 75 = .ok (.getfield 15, 3) := by decide +kernel
theorem dZ_change_78 : decode prog_9_method_2_code 78 = .ok (.iload 7, 2) := by decide +kernel
theorem dZ_change_80 : decode prog_9_method_2_code 80 = .ok (.sipush 1440, 3) := by decide +kernel
theorem dZ_change_83 : decode prog_9_method_2_code 83 = .ok (.iload 9, 2) := by decide +kernel
theorem dZ_change_85 : decode prog_9_method_2_code 85 = .ok (.imul, 1) := by decide +kernel
theorem dZ_change_86 : decode prog_9_method_2_code 86 = .ok (.sipush 180, 3) := by decide +kernel
theorem dZ_change_89 : decode prog_9_method_2_code 89 = .ok (.iadd, 1) := by decide +kernel
theorem dZ_change_90 : decode prog_9_method_2_code 90 = .ok (.aload_n 0, 1) := by decide +kernel
theorem dZ_change_91 : decode prog_9_method_2_code 91 = .ok (.getfield 22, 3) := by decide +kernel
theorem dZ_change_94 : decode prog_9_method_2_code 94 = .ok (.isub, 1) := by decide +kernel
theorem dZ_change_95 : decode prog_9_method_2_code 95 = .ok (.iastore, 1) := by decide +kernel
theorem dZ_change_96 : decode prog_9_method_2_code 96 = .ok (.iinc 7 1, 3) := by decide +kernel
theorem dZ_change_99 : decode prog_9_method_2_code 99 = .ok (.goto (-86), 3) := by decide +kernel
theorem dZ_change_102 : decode prog_9_method_2_code 102 = .ok (.return_, 1) := by decide +kernel
theorem dE_init_0 : decode prog_3_method_1_code 0 = .ok (.aload_n 0, 1) := by decide +kernel
theorem dE_init_1 : decode prog_3_method_1_code 1 = .ok (.invokespecial 3, 3) := by decide +kernel
theorem dE_init_4 : decode prog_3_method_1_code 4 = .ok (.aload_n 0, 1) := by decide +kernel
theorem dE_init_5 : decode prog_3_method_1_code 5 = .ok (.sipush 200, 3) := by decide +kernel
theorem dE_init_8 : decode prog_3_method_1_code 8 = .ok (.newarray .int, 2) := by decide +kernel
theorem dE_init_10 : decode prog_3_method_1_code 10 = .ok (.putfield 9, 3) := by decide +kernel
theorem dE_init_13 : decode prog_3_method_1_code 13 = .ok (.aload_n 0, 1) := by decide +kernel
theorem dE_init_14 : decode prog_3_method_1_code 14 = .ok (.sipush 200, 3) := by decide +kernel
theorem dE_init_17 : decode prog_3_method_1_code 17 = .ok (.newarray .int, 2) := by decide +kernel
theorem dE_init_19 : decode prog_3_method_1_code 19 = .ok (.putfield 15, 3) := by decide +kernel
theorem dE_init_22 : decode prog_3_method_1_code 22 = .ok (.return_, 1) := by decide +kernel
theorem dS_init_0 : decode prog_7_method_1_code 0 = .ok (.aload_n 0, 1) := by decide +kernel
theorem dS_init_1 : decode prog_7_method_1_code 1 = .ok (.invokespecial 3, 3) := by decide +kernel
theorem dS_init_4 : decode prog_7_method_1_code 4 = .ok (.aload_n 0, 1) := by decide +kernel
theorem dS_init_5 : decode prog_7_method_1_code 5 = .ok (.sipush 1600, 3) := by decide +kernel
theorem dS_init_8 : decode prog_7_method_1_code 8 = .ok (.newarray .int, 2) := by decide +kernel
theorem dS_init_10 : decode prog_7_method_1_code 10 = .ok (.putfield 9, 3) := by decide +kernel
theorem dS_init_13 : decode prog_7_method_1_code 13 = .ok (.aload_n 0, 1) := by decide +kernel
theorem dS_init_14 : decode prog_7_method_1_code 14 = .ok (.sipush 1600, 3) := by decide +kernel
theorem dS_init_17 : decode prog_7_method_1_code 17 = .ok (.newarray .int, 2) := by decide +kernel
theorem dS_init_19 : decode prog_7_method_1_code 19 = .ok (.putfield 15, 3) := by decide +kernel
theorem dS_init_22 : decode prog_7_method_1_code 22 = .ok (.aload_n 0, 1) := by decide +kernel
theorem dS_init_23 : decode prog_7_method_1_code 23 = .ok (.iconst 0, 1) := by decide +kernel
theorem dS_init_24 : decode prog_7_method_1_code 24 = .ok (.putfield 18, 3) := by decide +kernel
theorem dS_init_27 : decode prog_7_method_1_code 27 = .ok (.return_, 1) := by decide +kernel
theorem dB_init_0 : decode prog_1_method_1_code 0 = .ok (.aload_n 0, 1) := by decide +kernel
theorem dB_init_1 : decode prog_1_method_1_code 1 = .ok (.invokespecial 3, 3) := by decide +kernel
theorem dB_init_4 : decode prog_1_method_1_code 4 = .ok (.aload_n 0, 1) := by decide +kernel
theorem dB_init_5 : decode prog_1_method_1_code 5 = .ok (.bipush 60, 2) := by decide +kernel
theorem dB_init_7 : decode prog_1_method_1_code 7 = .ok (.newarray .char, 2) := by decide +kernel
theorem dB_init_9 : decode prog_1_method_1_code 9 = .ok (.putfield 9, 3) := by decide +kernel
theorem dB_init_12 : decode prog_1_method_1_code 12 = .ok (.aload_n 0, 1) := by decide +kernel
theorem dB_init_13 : decode prog_1_method_1_code 13 = .ok (.iconst 0, 1) := by decide +kernel
theorem dB_init_14 : decode prog_1_method_1_code 14 = .ok (.putfield 13, 3) := by decide +kernel
theorem dB_init_17 : decode prog_1_method_1_code 17 = .ok (.aload_n 0, 1) := by decide +kernel
theorem dB_init_18 : decode prog_1_method_1_code 18 = .ok (.new 17, 3) := by decide +kernel
theorem dB_init_21 : decode prog_1_method_1_code 21 = .ok (.dup, 1) := by decide +kernel
theorem dB_init_22 : decode prog_1_method_1_code 22 = .ok (.invokespecial 19, 3) := by decide +kernel
theorem dB_init_25 : decode prog_1_method_1_code 25 = .ok (.putfield 20, 3) := by decide +kernel
theorem dB_init_28 : decode prog_1_method_1_code 28 = .ok (.aload_n 0, 1) := by decide +kernel
theorem dB_init_29 : decode prog_1_method_1_code 29 = .ok (.getfield 20, 3) := by decide +kernel
theorem dB_init_32 : decode prog_1_method_1_code 32 = .ok (.iconst 0, 1) := by decide +kernel
theorem dB_init_33 : decode prog_1_method_1_code 33 = .ok (.iconst 0, 1) := by decide +kernel
theorem dB_init_34 : decode prog_1_method_1_code 34 = .ok (.iconst 3, 1) := by decide +kernel
theorem dB_init_35 : decode prog_1_method_1_code 35 = .ok (.iconst 5, 1) := by decide +kernel
theorem dB_init_36 : decode prog_1_method_1_code 36 = .ok (.bipush 10, 2) := by decide +kernel
theorem dB_init_38 : decode prog_1_method_1_code 38 = .ok (.iconst 5, 1) := by decide +kernel
theorem dB_init_39 : decode prog_1_method_1_code 39 = .ok (.invokevirtual 24, 3) := by decide +kernel
theorem dB_init_42 : decode prog_1_method_1_code 42 = .ok (.aload_n 0, 1) := by decide +kernel
theorem dB_init_43 : decode prog_1_method_1_code 43 = .ok (.bipush 8, 2) := by decide +kernel
theorem dB_init_45 : decode prog_1_method_1_code 45 = .ok (.anewarray 28, 3) := by decide +kernel
theorem dB_init_48 : decode prog_1_method_1_code 48 = .ok (.putfield 30, 3) := by decide +kernel
theorem dB_init_51 : decode prog_1_method_1_code 51 = .ok (.iconst 0, 1) := by decide +kernel
theorem dB_init_52 : decode prog_1_method_1_code 52 = .ok (.istore_n 1, 1) := by decide +kernel
theorem dB_init_53 : decode prog_1_method_1_code 53 = .ok (.iload_n 1, 1) := by decide +kernel
theorem dB_init_54 : decode prog_1_method_1_code 54 = .ok (.bipush 8, 2) := by decide +kernel
theorem dB_init_56 : decode prog_1_method_1_code 56 = .ok (.if_icmp .ge 22, 3) := by decide +kernel
theorem dB_init_59 : decode prog_1_method_1_code 59 = .ok (.aload_n 0, 1) := by decide +kernel
theorem dB_init_60 : decode prog_1_method_1_code 60 = .ok (.getfield 30, 3) := by decide +kernel
theorem dB_init_63 : decode prog_1_method_1_code 63 = .ok (.iload_n 1, 1) := by decide +kernel
theorem dB_init_64 : decode prog_1_method_1_code 64 = .ok (.new 28, 3) := by decide +kernel
theorem dB_init_67 : decode prog_1_method_1_code 67 = .ok (.dup, 1) := by decide +kernel
theorem dB_init_68 : decode prog_1_method_1_code 68 = .ok (.invokespecial 34, 3) := by decide +kernel
theorem dB_init_71 : decode prog_1_method_1_code 71 = .ok (.aastore, 1) := by decide +kernel
theorem dB_init_72 : decode prog_1_method_1_code 72 = .ok (.iinc 1 1, 3) := by decide +kernel
theorem dB_init_75 : decode prog_1_method_1_code 75 = .ok (.goto (-22), 3) := by decide +kernel
theorem dB_init_78 : decode prog_1_method_1_code 78 = .ok (.aload_n 0, 1) := by decide +kernel
theorem dB_init_79 : decode prog_1_method_1_code 79 = .ok (.iconst 0, 1) := by decide +kernel
theorem dB_init_80 : decode prog_1_method_1_code 80 = .ok (.putfield 35, 3) := by decide +kernel
theorem dB_init_83 : decode prog_1_method_1_code 83 = .ok (.aload_n 0, 1) := by decide +kernel
theorem dB_init_84 : decode prog_1_method_1_code 84 = .ok (.bipush 8, 2) := by decide +kernel
theorem dB_init_86 : decode prog_1_method_1_code 86 = .ok (.newarray .int, 2) := by decide +kernel
theorem dB_init_88 : decode prog_1_method_1_code 88 = .ok (.putfield 38, 3) := by decide +kernel
theorem dB_init_91 : decode prog_1_method_1_code 91 = .ok (.aload_n 0, 1) := by decide +kernel
theorem dB_init_92 : decode prog_1_method_1_code 92 = .ok (.new 42, 3) := by decide +kernel
theorem dB_init_95 : decode prog_1_method_1_code 95 = .ok (.dup, 1) := by decide +kernel
theorem dB_init_96 : decode prog_1_method_1_code 96 = .ok (.invokespecial 44, 3) := by decide +kernel
theorem dB_init_99 : decode prog_1_method_1_code 99 = .ok (.putfield 45, 3) := by decide +kernel
theorem dB_init_102 : decode prog_1_method_1_code 102 = .ok (.return_, 1) := by decide +kernel
theorem dB_type_0 : decode prog_1_method_2_code 0 = .ok (.aload_n 0, 1) := by decide +kernel
theorem dB_type_1 : decode prog_1_method_2_code 1 = .ok (.getfield 13, 3) := by decide +kernel
theorem dB_type_4 : decode prog_1_method_2_code 4 = .ok (.bipush 60, 2) := by decide +kernel
theorem dB_type_6 : decode prog_1_method_2_code 6 = .ok (.if_icmp .lt 5, 3) := by decide +kernel
theorem dB_type_9 : decode prog_1_method_2_code 9 = .ok (.iconst 0, 1) := by decide +kernel
theorem dB_type_10 : decode prog_1_method_2_code 10 = .ok (.ireturn, 1) := by decide +kernel
theorem dB_type_11 : decode prog_1_method_2_code 11 = .ok (.aload_n 0, 1) := by decide +kernel
theorem dB_type_12 : decode prog_1_method_2_code 12 = .ok (.getfield 9, 3) := by decide +kernel
theorem dB_type_15 : decode prog_1_method_2_code 15 = .ok (.aload_n 0, 1) := by decide +kernel
theorem dB_type_16 : decode prog_1_method_2_code 16 = .ok (.getfield 13, 3) := by decide +kernel
theorem dB_type_19 : decode prog_1_method_2_code 19 = .ok (.iload_n 1, 1) := by decide +kernel
theorem dB_type_20 : decode prog_1_method_2_code 20 = .ok (.castore, 1) := by decide +kernel
theorem dB_type_21 : decode prog_1_method_2_code 21 = .ok (.aload_n 0, 1) := by decide +kernel
theorem dB_type_22 : decode prog_1_method_2_code 22 = .ok (.dup, 1) := by decide +kernel
theorem dB_type_23 : decode prog_1_method_2_code 23 = .ok (.getfield 13, 3) := by decide +kernel
theorem dB_type_26 : decode prog_1_method_2_code 26 = .ok (.iconst 1, 1) := by decide +kernel
theorem dB_type_27 : decode prog_1_method_2_code 27 = .ok (.iadd, 1) := by decide +kernel
theorem dB_type_28 : decode prog_1_method_2_code 28 = .ok (.putfield 13, 3) := by decide +kernel
theorem dB_type_31 : decode prog_1_method_2_code 31 = .ok (.iconst 1, 1) := by decide +kernel
theorem dB_type_32 : decode prog_1_method_2_code 32 = .ok (.ireturn, 1) := by decide +kernel
theorem dB_isOffset_0 : decode prog_1_method_18_code 0 = .ok (.iload_n 0, 1) := by decide +kernel
theorem dB_isOffset_1 : decode prog_1_method_18_code 1 = .ok (.sipush (-840), 3) := by decide +kernel
theorem dB_isOffset_4 : decode prog_1_method_18_code 4 = .ok (.if_icmp .lt 14, 3) := by decide +kernel
theorem dB_isOffset_7 : decode prog_1_method_18_code 7 = .ok (.iload_n 0, 1) := by decide +kernel
theorem dB_isOffset_8 : decode prog_1_method_18_code 8 = .ok (.sipush 840, 3) := by decide +kernel
theorem dB_isOffset_11 : decode prog_1_method_18_code 11 = .ok (.if_icmp .gt 7, 3) := by decide +kernel
theorem dB_isOffset_14 : decode prog_1_method_18_code 14 = .ok (.iconst 1, 1) := by decide +kernel
theorem dB_isOffset_15 : decode prog_1_method_18_code 15 = .ok (.goto 4, 3) := by decide +kernel
theorem dB_isOffset_18 : decode prog_1_method_18_code 18 = .ok (.iconst 0, 1) := by decide +kernel
theorem dB_isOffset_19 : decode prog_1_method_18_code 19 = .ok (.ireturn, 1) := by decide +kernel
theorem dB_isMonth_0 : decode prog_1_method_19_code 0 = .ok (.iload_n 0, 1) := by decide +kernel
theorem dB_isMonth_1 : decode prog_1_method_19_code 1 = .ok (.iconst 1, 1) := by decide +kernel
theorem dB_isMonth_2 : decode prog_1_method_19_code 2 = .ok (.if_icmp .lt 13, 3) := by decide +kernel
theorem dB_isMonth_5 : decode prog_1_method_19_code 5 = .ok (.iload_n 0, 1) := by decide +kernel
theorem dB_isMonth_6 : decode prog_1_method_19_code 6 = .ok (.bipush 12, 2) := by decide +kernel
theorem dB_isMonth_8 : decode prog_1_method_19_code 8 = .ok (.if_icmp .gt 7, 3) := by decide +kernel
theorem dB_isMonth_11 : decode prog_1_method_19_code 11 = .ok (.iconst 1, 1) := by decide +kernel
theorem dB_isMonth_12 : decode prog_1_method_19_code 12 = .ok (.goto 4, 3) := by decide +kernel
theorem dB_isMonth_15 : decode prog_1_method_19_code 15 = .ok (.iconst 0, 1) := by decide +kernel
theorem dB_isMonth_16 : decode prog_1_method_19_code 16 = .ok (.ireturn, 1) := by decide +kernel
theorem dD_yearOf_0 : decode prog_2_method_3_code 0 = .ok (.iconst 4, 1) := by decide +kernel
theorem dD_yearOf_1 : decode prog_2_method_3_code 1 = .ok (.iload_n 0, 1) := by decide +kernel
theorem dD_yearOf_2 : decode prog_2_method_3_code 2 = .ok (.imul, 1) := by decide +kernel
theorem dD_yearOf_3 : decode prog_2_method_3_code 3 = .ok (.sipush 1461, 3) := by decide +kernel
theorem dD_yearOf_6 : decode prog_2_method_3_code 6 = .ok (.idiv, 1) := by decide +kernel
theorem dD_yearOf_7 : decode prog_2_method_3_code 7 = .ok (.ireturn, 1) := by decide +kernel
theorem dJ_min_0 : decode prog_16_method_69_code 0 = .ok (.iload_n 0, 1) := by decide +kernel
theorem dJ_min_1 : decode prog_16_method_69_code 1 = .ok (.iload_n 1, 1) := by decide +kernel
theorem dJ_min_2 : decode prog_16_method_69_code 2 = .ok (.if_icmp .gt 7, 3) := by decide +kernel
theorem dJ_min_5 : decode prog_16_method_69_code 5 = .ok (.iload_n 0, 1) := by decide +kernel
theorem dJ_min_6 : decode prog_16_method_69_code 6 = .ok (.goto 4, 3) := by decide +kernel
theorem dJ_min_9 : decode prog_16_method_69_code 9 = .ok (.iload_n 1, 1) := by decide +kernel
theorem dJ_min_10 : decode prog_16_method_69_code 10 = .ok (.ireturn, 1) := by decide +kernel
theorem dJ_max_0 : decode prog_16_method_65_code 0 = .ok (.iload_n 0, 1) := by decide +kernel
theorem dJ_max_1 : decode prog_16_method_65_code 1 = .ok (.iload_n 1, 1) := by decide +kernel
theorem dJ_max_2 : decode prog_16_method_65_code 2 = .ok (.if_icmp .lt 7, 3) := by decide +kernel
theorem dJ_max_5 : decode prog_16_method_65_code 5 = .ok (.iload_n 0, 1) := by decide +kernel
theorem dJ_max_6 : decode prog_16_method_65_code 6 = .ok (.goto 4, 3) := by decide +kernel
theorem dJ_max_9 : decode prog_16_method_65_code 9 = .ok (.iload_n 1, 1) := by decide +kernel
theorem dJ_max_10 : decode prog_16_method_65_code 10 = .ok (.ireturn, 1) := by decide +kernel
theorem dZ_isSummer_0 : decode prog_9_method_3_code 0 = .ok (.iload_n 1, 1) := by decide +kernel
theorem dZ_isSummer_1 : decode prog_9_method_3_code 1 = .ok (.sipush 1440, 3) := by decide +kernel
theorem dZ_isSummer_4 : decode prog_9_method_3_code 4 = .ok (.idiv, 1) := by decide +kernel
theorem dZ_isSummer_5 : decode prog_9_method_3_code 5 = .ok (.invokestatic 31, 3) := by decide +kernel
theorem dZ_isSummer_8 : decode prog_9_method_3_code 8 = .ok (.istore_n 2, 1) := by decide +kernel
theorem dZ_isSummer_9 : decode prog_9_method_3_code 9 = .ok (.bipush 99, 2) := by decide +kernel
theorem dZ_isSummer_11 : decode prog_9_method_3_code 11 = .ok (.iload_n 2, 1) := by decide +kernel
theorem dZ_isSummer_12 : decode prog_9_method_3_code 12 = .ok (.iconst 1, 1) := by decide +kernel
theorem dZ_isSummer_13 : decode prog_9_method_3_code 13 = .ok (.iadd, 1) := by decide +kernel
theorem dZ_isSummer_14 : decode prog_9_method_3_code 14 = .ok (.invokestatic 35, 3) := by decide +kernel
theorem dZ_isSummer_17 : decode prog_9_method_3_code 17 = .ok (.istore_n 3, 1) := by decide +kernel
theorem dZ_isSummer_18 : decode prog_9_method_3_code 18 = .ok (.iconst 0, 1) := by decide +kernel
theorem dZ_isSummer_19 : decode prog_9_method_3_code 19 = .ok (.iload_n 2, 1) := by decide +kernel
theorem dZ_isSummer_20 : decode prog_9_method_3_code 20 = .ok (.invokestatic 40, 3) := by decide +kernel
theorem dZ_isSummer_23 : decode prog_9_method_3_code 23 = .ok (.istore 4, 2) := by decide +kernel
theorem dZ_isSummer_25 : decode prog_9_method_3_code 25 = .ok (.iload 4, 2) := by decide +kernel
theorem dZ_isSummer_27 : decode prog_9_method_3_code 27 = .ok (.iload_n 3, 1) := by decide +kernel
theorem dZ_isSummer_28 : decode prog_9_method_3_code 28 = .ok (.if_icmp .gt 33, 3) := by decide +kernel
theorem dZ_isSummer_31 : decode prog_9_method_3_code 31 = .ok (.aload_n 0, 1) := by decide +kernel
theorem dZ_isSummer_32 : decode prog_9_method_3_code 32 = .ok (.getfield 9, 3) := by decide +kernel
theorem dZ_isSummer_35 : decode prog_9_method_3_code 35 = .ok (.iload 4, 2) := by decide +kernel
theorem dZ_isSummer_37 : decode prog_9_method_3_code 37 = .ok (.iaload, 1) := by decide +kernel
theorem dZ_isSummer_38 : decode prog_9_method_3_code 38 = .ok (.iload_n 1, 1) := by decide +kernel
theorem dZ_isSummer_39 : decode prog_9_method_3_code 39 = .ok (.if_icmp .gt 16, 3) := by decide +kernel
theorem dZ_isSummer_42 : decode prog_9_method_3_code 42 = .ok (.iload_n 1, 1) := by decide +kernel
theorem dZ_isSummer_43 : decode prog_9_method_3_code 43 = .ok (.aload_n 0, 1) := by decide +kernel
theorem dZ_isSummer_44 : decode prog_9_method_3_code 44 = .ok (.getfield 15, 3) := by decide +kernel
theorem dZ_isSummer_47 : decode prog_9_method_3_code 47 = .ok (.iload 4, 2) := by decide +kernel
theorem dZ_isSummer_49 : decode prog_9_method_3_code 49 = .ok (.iaload, 1) := by decide +kernel
theorem dZ_isSummer_50 : decode prog_9_method_3_code 50 = .ok (.if_icmp .ge 5, 3) := by decide +kernel
theorem dZ_isSummer_53 : decode prog_9_method_3_code 53 = .ok (.iconst 1, 1) := by decide +kernel
theorem dZ_isSummer_54 : decode prog_9_method_3_code 54 = .ok (.ireturn, 1) := by decide +kernel
theorem dZ_isSummer_55 : decode prog_9_method_3_code 55 = .ok (.iinc 4 1, 3) := by decide +kernel
theorem dZ_isSummer_58 : decode prog_9_method_3_code 58 = .ok (.goto (-33), 3) := by decide +kernel
theorem dZ_isSummer_61 : decode prog_9_method_3_code 61 = .ok (.iconst 0, 1) := by decide +kernel
theorem dZ_isSummer_62 : decode prog_9_method_3_code 62 = .ok (.ireturn, 1) := by decide +kernel
theorem dZ_momentOf_0 : decode prog_9_method_5_code 0 = .ok (.aload_n 0, 1) := by decide +kernel
theorem dZ_momentOf_1 : decode prog_9_method_5_code 1 = .ok (.iload_n 1, 1) := by decide +kernel
theorem dZ_momentOf_2 : decode prog_9_method_5_code 2 = .ok (.aload_n 0, 1) := by decide +kernel
theorem dZ_momentOf_3 : decode prog_9_method_5_code 3 = .ok (.getfield 22, 3) := by decide +kernel
theorem dZ_momentOf_6 : decode prog_9_method_5_code 6 = .ok (.isub, 1) := by decide +kernel
theorem dZ_momentOf_7 : decode prog_9_method_5_code 7 = .ok (.invokevirtual 43, 3) := by decide +kernel
theorem dZ_momentOf_10 : decode prog_9_method_5_code 10 = .ok (.ifCond .eq 12, 3) := by decide +kernel
theorem dZ_momentOf_13 : decode prog_9_method_5_code 13 = .ok (.iload_n 1, 1) := by decide +kernel
theorem dZ_momentOf_14 : decode prog_9_method_5_code 14 = .ok (.aload_n 0, 1) := by decide +kernel
theorem dZ_momentOf_15 : decode prog_9_method_5_code 15 = .ok (.getfield 22, 3) := by decide +kernel
theorem dZ_momentOf_18 : decode prog_9_method_5_code 18 = .ok (.isub, 1) := by decide +kernel
theorem dZ_momentOf_19 : decode prog_9_method_5_code 19 = .ok (.goto 9, 3) := by decide +kernel
theorem dZ_momentOf_22 : decode prog_9_method_5_code 22 = .ok (.iload_n 1, 1) := by decide +kernel
theorem dZ_momentOf_23 : decode prog_9_method_5_code 23 = .ok (.aload_n 0, 1) := by decide +kernel
theorem dZ_momentOf_24 : decode prog_9_method_5_code 24 = .ok (.getfield 18, 3) := by decide +kernel
theorem dZ_momentOf_27 : decode prog_9_method_5_code 27 = .ok (.isub, 1) := by decide +kernel
theorem dZ_momentOf_28 : decode prog_9_method_5_code 28 = .ok (.ireturn, 1) := by decide +kernel
theorem dE_settle_0 : decode prog_3_method_4_code 0 = .ok (.iconst 0, 1) := by decide +kernel
theorem dE_settle_1 : decode prog_3_method_4_code 1 = .ok (.istore_n 2, 1) := by decide +kernel
theorem dE_settle_2 : decode prog_3_method_4_code 2 = .ok (.iload_n 2, 1) := by decide +kernel
theorem dE_settle_3 : decode prog_3_method_4_code 3 = .ok (.aload_n 0, 1) := by decide +kernel
theorem dE_settle_4 : decode prog_3_method_4_code 4 = .ok (.getfield 25, 3) := by decide +kernel
theorem dE_settle_7 : decode prog_3_method_4_code 7 = .ok (.if_icmp .ge 80, 3) := by decide +kernel
theorem dE_settle_10 : decode prog_3_method_4_code 10 = .ok (.aload_n 1, 1) := by decide +kernel
theorem dE_settle_11 : decode prog_3_method_4_code 11 = .ok (.sipush 1440, 3) := by decide +kernel
theorem dE_settle_14 : decode prog_3_method_4_code 14 = .ok (.aload_n 0, 1) := by decide +kernel
theorem dE_settle_15 : decode prog_3_method_4_code 15 = .ok (.getfield 9, 3) := by decide +kernel
theorem dE_settle_18 : decode prog_3_method_4_code 18 = .ok (.iload_n 2, 1) := by decide +kernel
theorem dE_settle_19 : decode prog_3_method_4_code 19 = .ok (.iaload, 1) := by decide +kernel
theorem dE_settle_20 : decode prog_3_method_4_code 20 = .ok (.imul, 1) := by decide +kernel
theorem dE_settle_21 : decode prog_3_method_4_code 21 = .ok (.aload_n 0, 1) := by decide +kernel
theorem dE_settle_22 : decode prog_3_method_4_code 22 = .ok (.getfield 18, 3) := by decide +kernel
theorem dE_settle_25 : decode prog_3_method_4_code 25 = .ok (.iadd, 1) := by decide +kernel
theorem dE_settle_26 : decode prog_3_method_4_code 26 = .ok (.invokevirtual 31, 3) := by decide +kernel
theorem dE_settle_29 : decode prog_3_method_4_code 29 = .ok (.istore_n 3, 1) := by decide +kernel
theorem dE_settle_30 : decode prog_3_method_4_code 30 = .ok (.iload_n 2, 1) := by decide +kernel
theorem dE_settle_31 : decode prog_3_method_4_code 31 = .ok (.istore 4, 2) := by decide +kernel
theorem dE_settle_33 : decode prog_3_method_4_code 33 = .ok (.iload 4, 2) := by decide +kernel
theorem dE_settle_35 : decode prog_3_method_4_code 35 = .ok (.ifCond .le 38, 3) := by decide +kernel
theorem dE_settle_38 : decode prog_3_method_4_code 38 = .ok (.aload_n 0, 1) := by decide +kernel
theorem dE_settle_39 : decode prog_3_method_4_code 39 = .ok (.getfield 15, 3) := by decide +kernel
theorem dE_settle_42 : decode prog_3_method_4_code 42 = .ok (.iload 4, 2) := by decide +kernel
theorem dE_settle_44 : decode prog_3_method_4_code 44 = .ok (.iconst 1, 1) := by decide +kernel
theorem dE_settle_45 : decode prog_3_method_4_code 45 = .ok (.isub, 1) := by decide +kernel
theorem dE_settle_46 : decode prog_3_method_4_code 46 = .ok (.iaload, 1) := by decide +kernel
theorem dE_settle_47 : decode prog_3_method_4_code 47 = .ok (.iload_n 3, 1) := by decide +kernel
theorem dE_settle_48 : decode prog_3_method_4_code 48 = .ok (.if_icmp .le 25, 3) := by decide +kernel
theorem dE_settle_51 : decode prog_3_method_4_code 51 = .ok (.aload_n 0, 1) := by decide +kernel
theorem dE_settle_52 : decode prog_3_method_4_code 52 = .ok (.getfield 15, 3) := by decide +kernel
theorem dE_settle_55 : decode prog_3_method_4_code 55 = .ok (.iload 4, 2) := by decide +kernel
theorem dE_settle_57 : decode prog_3_method_4_code 57 = .ok (.aload_n 0, 1) := by decide +kernel
theorem dE_settle_58 : decode prog_3_method_4_code 58 = .ok (.getfield 15, 3) := by decide +kernel
theorem dE_settle_61 : decode prog_3_method_4_code 61 = .ok (.iload 4, 2) := by decide +kernel
theorem dE_settle_63 : decode prog_3_method_4_code 63 = .ok (.iconst 1, 1) := by decide +kernel
theorem dE_settle_64 : decode prog_3_method_4_code 64 = .ok (.isub, 1) := by decide +kernel
theorem dE_settle_65 : decode prog_3_method_4_code 65 = .ok (.iaload, 1) := by decide +kernel
theorem dE_settle_66 : decode prog_3_method_4_code 66 = .ok (.iastore, 1) := by decide +kernel
theorem dE_settle_67 : decode prog_3_method_4_code 67 = .ok (.iinc 4 (-1), 3) := by decide +kernel
theorem dE_settle_70 : decode prog_3_method_4_code 70 = .ok (.goto (-37), 3) := by decide +kernel
theorem dE_settle_73 : decode prog_3_method_4_code 73 = .ok (.aload_n 0, 1) := by decide +kernel
theorem dE_settle_74 : decode prog_3_method_4_code 74 = .ok (.getfield 15, 3) := by decide +kernel
theorem dE_settle_77 : decode prog_3_method_4_code 77 = .ok (.iload 4, 2) := by decide +kernel
theorem dE_settle_79 : decode prog_3_method_4_code 79 = .ok (.iload_n 3, 1) := by decide +kernel
theorem dE_settle_80 : decode prog_3_method_4_code 80 = .ok (.iastore, 1) := by decide +kernel
theorem dE_settle_81 : decode prog_3_method_4_code 81 = .ok (.iinc 2 1, 3) := by decide +kernel
theorem dE_settle_84 : decode prog_3_method_4_code 84 = .ok (.goto (-82), 3) := by decide +kernel
theorem dE_settle_87 : decode prog_3_method_4_code 87 = .ok (.return_, 1) := by decide +kernel
