/-! Decoded instructions. -/
theorem dM_readUntil_0 : decode prog_11_method_24_code 0 = .ok (.aload_n 0, 1) := by decide +kernel
theorem dM_readUntil_1 : decode prog_11_method_24_code 1 = .ok (.getfield 115, 3) := by decide +kernel
theorem dM_readUntil_4 : decode prog_11_method_24_code 4 = .ok (.istore_n 1, 1) := by decide +kernel
theorem dM_readUntil_5 : decode prog_11_method_24_code 5 = .ok (.aload_n 0, 1) := by decide +kernel
theorem dM_readUntil_6 : decode prog_11_method_24_code 6 = .ok (.bipush 8, 2) := by decide +kernel
theorem dM_readUntil_8 : decode prog_11_method_24_code 8 = .ok (.invokevirtual 141, 3) := by decide +kernel
theorem dM_readUntil_11 : decode prog_11_method_24_code 11 = .ok (.istore_n 2, 1) := by decide +kernel
theorem dM_readUntil_12 : decode prog_11_method_24_code 12 = .ok (.aload_n 0, 1) := by decide +kernel
theorem dM_readUntil_13 : decode prog_11_method_24_code 13 = .ok (.getfield 115, 3) := by decide +kernel
theorem dM_readUntil_16 : decode prog_11_method_24_code 16 = .ok (.iload_n 1, 1) := by decide +kernel
theorem dM_readUntil_17 : decode prog_11_method_24_code 17 = .ok (.isub, 1) := by decide +kernel
theorem dM_readUntil_18 : decode prog_11_method_24_code 18 = .ok (.bipush 8, 2) := by decide +kernel
theorem dM_readUntil_20 : decode prog_11_method_24_code 20 = .ok (.if_icmp .eq 5, 3) := by decide +kernel
theorem dM_readUntil_23 : decode prog_11_method_24_code 23 = .ok (.iconst 0, 1) := by decide +kernel
theorem dM_readUntil_24 : decode prog_11_method_24_code 24 = .ok (.ireturn, 1) := by decide +kernel
theorem dM_readUntil_25 : decode prog_11_method_24_code 25 = .ok (.iload_n 2, 1) := by decide +kernel
theorem dM_readUntil_26 : decode prog_11_method_24_code 26 = .ok (.sipush 10000, 3) := by decide +kernel
theorem dM_readUntil_29 : decode prog_11_method_24_code 29 = .ok (.idiv, 1) := by decide +kernel
theorem dM_readUntil_30 : decode prog_11_method_24_code 30 = .ok (.sipush 2000, 3) := by decide +kernel
theorem dM_readUntil_33 : decode prog_11_method_24_code 33 = .ok (.isub, 1) := by decide +kernel
theorem dM_readUntil_34 : decode prog_11_method_24_code 34 = .ok (.istore_n 3, 1) := by decide +kernel
theorem dM_readUntil_35 : decode prog_11_method_24_code 35 = .ok (.iload_n 2, 1) := by decide +kernel
theorem dM_readUntil_36 : decode prog_11_method_24_code 36 = .ok (.bipush 100, 2) := by decide +kernel
theorem dM_readUntil_38 : decode prog_11_method_24_code 38 = .ok (.idiv, 1) := by decide +kernel
theorem dM_readUntil_39 : decode prog_11_method_24_code 39 = .ok (.bipush 100, 2) := by decide +kernel
theorem dM_readUntil_41 : decode prog_11_method_24_code 41 = .ok (.irem, 1) := by decide +kernel
theorem dM_readUntil_42 : decode prog_11_method_24_code 42 = .ok (.istore 4, 2) := by decide +kernel
theorem dM_readUntil_44 : decode prog_11_method_24_code 44 = .ok (.iload_n 2, 1) := by decide +kernel
theorem dM_readUntil_45 : decode prog_11_method_24_code 45 = .ok (.bipush 100, 2) := by decide +kernel
theorem dM_readUntil_47 : decode prog_11_method_24_code 47 = .ok (.irem, 1) := by decide +kernel
theorem dM_readUntil_48 : decode prog_11_method_24_code 48 = .ok (.istore 5, 2) := by decide +kernel
theorem dM_readUntil_50 : decode prog_11_method_24_code 50 = .ok (.iload_n 3, 1) := by decide +kernel
theorem dM_readUntil_51 : decode prog_11_method_24_code 51 = .ok (.iload 4, 2) := by decide +kernel
theorem dM_readUntil_53 : decode prog_11_method_24_code 53 = .ok (.iload 5, 2) := by decide +kernel
theorem dM_readUntil_55 : decode prog_11_method_24_code 55 = .ok (.invokestatic 81, 3) := by decide +kernel
theorem dM_readUntil_58 : decode prog_11_method_24_code 58 = .ok (.ifCond .ne 5, 3) := by decide +kernel
theorem dM_readUntil_61 : decode prog_11_method_24_code 61 = .ok (.iconst 0, 1) := by decide +kernel
theorem dM_readUntil_62 : decode prog_11_method_24_code 62 = .ok (.ireturn, 1) := by decide +kernel
theorem dM_readUntil_63 : decode prog_11_method_24_code 63 = .ok (.aload_n 0, 1) := by decide +kernel
theorem dM_readUntil_64 : decode prog_11_method_24_code 64 = .ok (.iload_n 3, 1) := by decide +kernel
theorem dM_readUntil_65 : decode prog_11_method_24_code 65 = .ok (.iload 4, 2) := by decide +kernel
theorem dM_readUntil_67 : decode prog_11_method_24_code 67 = .ok (.iload 5, 2) := by decide +kernel
theorem dM_readUntil_69 : decode prog_11_method_24_code 69 = .ok (.invokestatic 85, 3) := by decide +kernel
theorem dM_readUntil_72 : decode prog_11_method_24_code 72 = .ok (.putfield 144, 3) := by decide +kernel
theorem dM_readUntil_75 : decode prog_11_method_24_code 75 = .ok (.iconst 1, 1) := by decide +kernel
theorem dM_readUntil_76 : decode prog_11_method_24_code 76 = .ok (.ireturn, 1) := by decide +kernel
theorem dM_weekdayOf_0 : decode prog_11_method_25_code 0 = .ok (.lload_n 0, 1) := by decide +kernel
theorem dM_weekdayOf_1 : decode prog_11_method_25_code 1 = .ok (.ldc2_w 147, 3) := by decide +kernel
theorem dM_weekdayOf_4 : decode prog_11_method_25_code 4 = .ok (.lcmp, 1) := by decide +kernel
theorem dM_weekdayOf_5 : decode prog_11_method_25_code 5 = .ok (.ifCond .ne 5, 3) := by decide +kernel
theorem dM_weekdayOf_8 : decode prog_11_method_25_code 8 = .ok (.iconst 0, 1) := by decide +kernel
theorem dM_weekdayOf_9 : decode prog_11_method_25_code 9 = .ok (.ireturn, 1) := by decide +kernel
theorem dM_weekdayOf_10 : decode prog_11_method_25_code 10 = .ok (.lload_n 0, 1) := by decide +kernel
theorem dM_weekdayOf_11 : decode prog_11_method_25_code 11 = .ok (.ldc2_w 149, 3) := by decide +kernel
theorem dM_weekdayOf_14 : decode prog_11_method_25_code 14 = .ok (.lcmp, 1) := by decide +kernel
theorem dM_weekdayOf_15 : decode prog_11_method_25_code 15 = .ok (.ifCond .ne 5, 3) := by decide +kernel
theorem dM_weekdayOf_18 : decode prog_11_method_25_code 18 = .ok (.iconst 1, 1) := by decide +kernel
theorem dM_weekdayOf_19 : decode prog_11_method_25_code 19 = .ok (.ireturn, 1) := by decide +kernel
theorem dM_weekdayOf_20 : decode prog_11_method_25_code 20 = .ok (.lload_n 0, 1) := by decide +kernel
theorem dM_weekdayOf_21 : decode prog_11_method_25_code 21 = .ok (.ldc2_w 151, 3) := by decide +kernel
theorem dM_weekdayOf_24 : decode prog_11_method_25_code 24 = .ok (.lcmp, 1) := by decide +kernel
theorem dM_weekdayOf_25 : decode prog_11_method_25_code 25 = .ok (.ifCond .ne 5, 3) := by decide +kernel
theorem dM_weekdayOf_28 : decode prog_11_method_25_code 28 = .ok (.iconst 2, 1) := by decide +kernel
theorem dM_weekdayOf_29 : decode prog_11_method_25_code 29 = .ok (.ireturn, 1) := by decide +kernel
theorem dM_weekdayOf_30 : decode prog_11_method_25_code 30 = .ok (.lload_n 0, 1) := by decide +kernel
theorem dM_weekdayOf_31 : decode prog_11_method_25_code 31 = .ok (.ldc2_w 153, 3) := by decide +kernel
theorem dM_weekdayOf_34 : decode prog_11_method_25_code 34 = .ok (.lcmp, 1) := by decide +kernel
theorem dM_weekdayOf_35 : decode prog_11_method_25_code 35 = .ok (.ifCond .ne 5, 3) := by decide +kernel
theorem dM_weekdayOf_38 : decode prog_11_method_25_code 38 = .ok (.iconst 3, 1) := by decide +kernel
theorem dM_weekdayOf_39 : decode prog_11_method_25_code 39 = .ok (.ireturn, 1) := by decide +kernel
theorem dM_weekdayOf_40 : decode prog_11_method_25_code 40 = .ok (.lload_n 0, 1) := by decide +kernel
theorem dM_weekdayOf_41 : decode prog_11_method_25_code 41 = .ok (.ldc2_w 155, 3) := by decide +kernel
theorem dM_weekdayOf_44 : decode prog_11_method_25_code 44 = .ok (.lcmp, 1) := by decide +kernel
theorem dM_weekdayOf_45 : decode prog_11_method_25_code 45 = .ok (.ifCond .ne 5, 3) := by decide +kernel
theorem dM_weekdayOf_48 : decode prog_11_method_25_code 48 = .ok (.iconst 4, 1) := by decide +kernel
theorem dM_weekdayOf_49 : decode prog_11_method_25_code 49 = .ok (.ireturn, 1) := by decide +kernel
theorem dM_weekdayOf_50 : decode prog_11_method_25_code 50 = .ok (.lload_n 0, 1) := by decide +kernel
theorem dM_weekdayOf_51 : decode prog_11_method_25_code 51 = .ok (.ldc2_w 157, 3) := by decide +kernel
theorem dM_weekdayOf_54 : decode prog_11_method_25_code 54 = .ok (.lcmp, 1) := by decide +kernel
theorem dM_weekdayOf_55 : decode prog_11_method_25_code 55 = .ok (.ifCond .ne 7, 3) := by decide +kernel
theorem dM_weekdayOf_58 : decode prog_11_method_25_code 58 = .ok (.iconst 5, 1) := by decide +kernel
theorem dM_weekdayOf_59 : decode prog_11_method_25_code 59 = .ok (.goto 17, 3) := by decide +kernel
theorem dM_weekdayOf_62 : decode prog_11_method_25_code 62 = .ok (.lload_n 0, 1) := by decide +kernel
theorem dM_weekdayOf_63 : decode prog_11_method_25_code 63 = .ok (.ldc2_w 159, 3) := by decide +kernel
theorem dM_weekdayOf_66 : decode prog_11_method_25_code 66 = .ok (.lcmp, 1) := by decide +kernel
theorem dM_weekdayOf_67 : decode prog_11_method_25_code 67 = .ok (.ifCond .ne 8, 3) := by decide +kernel
theorem dM_weekdayOf_70 : decode prog_11_method_25_code 70 = .ok (.bipush 6, 2) := by decide +kernel
theorem dM_weekdayOf_72 : decode prog_11_method_25_code 72 = .ok (.goto 4, 3) := by decide +kernel
theorem dM_weekdayOf_75 : decode prog_11_method_25_code 75 = .ok (.iconst (-1), 1) := by decide +kernel
theorem dM_weekdayOf_76 : decode prog_11_method_25_code 76 = .ok (.ireturn, 1) := by decide +kernel
theorem dM_readWeekday_0 : decode prog_11_method_26_code 0 = .ok (.aload_n 0, 1) := by decide +kernel
theorem dM_readWeekday_1 : decode prog_11_method_26_code 1 = .ok (.bipush 45, 2) := by decide +kernel
theorem dM_readWeekday_3 : decode prog_11_method_26_code 3 = .ok (.invokevirtual 161, 3) := by decide +kernel
theorem dM_readWeekday_6 : decode prog_11_method_26_code 6 = .ok (.istore_n 1, 1) := by decide +kernel
theorem dM_readWeekday_7 : decode prog_11_method_26_code 7 = .ok (.aload_n 0, 1) := by decide +kernel
theorem dM_readWeekday_8 : decode prog_11_method_26_code 8 = .ok (.iconst 1, 1) := by decide +kernel
theorem dM_readWeekday_9 : decode prog_11_method_26_code 9 = .ok (.invokevirtual 141, 3) := by decide +kernel
theorem dM_readWeekday_12 : decode prog_11_method_26_code 12 = .ok (.istore_n 2, 1) := by decide +kernel
theorem dM_readWeekday_13 : decode prog_11_method_26_code 13 = .ok (.iload_n 2, 1) := by decide +kernel
theorem dM_readWeekday_14 : decode prog_11_method_26_code 14 = .ok (.ifCond .ge 10, 3) := by decide +kernel
theorem dM_readWeekday_17 : decode prog_11_method_26_code 17 = .ok (.iload_n 1, 1) := by decide +kernel
theorem dM_readWeekday_18 : decode prog_11_method_26_code 18 = .ok (.ifCond .eq 18, 3) := by decide +kernel
theorem dM_readWeekday_21 : decode prog_11_method_26_code 21 = .ok (.goto 13, 3) := by decide +kernel
theorem dM_readWeekday_24 : decode prog_11_method_26_code 24 = .ok (.iload_n 2, 1) := by decide +kernel
theorem dM_readWeekday_25 : decode prog_11_method_26_code 25 = .ok (.iconst 1, 1) := by decide +kernel
theorem dM_readWeekday_26 : decode prog_11_method_26_code 26 = .ok (.if_icmp .lt 8, 3) := by decide +kernel
theorem dM_readWeekday_29 : decode prog_11_method_26_code 29 = .ok (.iload_n 2, 1) := by decide +kernel
theorem dM_readWeekday_30 : decode prog_11_method_26_code 30 = .ok (.iconst 5, 1) := by decide +kernel
theorem dM_readWeekday_31 : decode prog_11_method_26_code 31 = .ok (.if_icmp .le 5, 3) := by decide +kernel
theorem dM_readWeekday_34 : decode prog_11_method_26_code 34 = .ok (.iconst 0, 1) := by decide +kernel
theorem dM_readWeekday_35 : decode prog_11_method_26_code 35 = .ok (.ireturn, 1) := by decide +kernel
theorem dM_readWeekday_36 : decode prog_11_method_26_code 36 = .ok (.aload_n 0, 1) := by decide +kernel
theorem dM_readWeekday_37 : decode prog_11_method_26_code 37 = .ok (.iconst 2, 1) := by decide +kernel
theorem dM_readWeekday_38 : decode prog_11_method_26_code 38 = .ok (.invokevirtual 126, 3) := by decide +kernel
theorem dM_readWeekday_41 : decode prog_11_method_26_code 41 = .ok (.invokestatic 164, 3) := by decide +kernel
theorem dM_readWeekday_44 : decode prog_11_method_26_code 44 = .ok (.istore_n 3, 1) := by decide +kernel
theorem dM_readWeekday_45 : decode prog_11_method_26_code 45 = .ok (.iload_n 3, 1) := by decide +kernel
theorem dM_readWeekday_46 : decode prog_11_method_26_code 46 = .ok (.ifCond .lt 12, 3) := by decide +kernel
theorem dM_readWeekday_49 : decode prog_11_method_26_code 49 = .ok (.aload_n 0, 1) := by decide +kernel
theorem dM_readWeekday_50 : decode prog_11_method_26_code 50 = .ok (.getfield 168, 3) := by decide +kernel
theorem dM_readWeekday_53 : decode prog_11_method_26_code 53 = .ok (.bipush 7, 2) := by decide +kernel
theorem dM_readWeekday_55 : decode prog_11_method_26_code 55 = .ok (.if_icmp .ne 5, 3) := by decide +kernel
theorem dM_readWeekday_58 : decode prog_11_method_26_code 58 = .ok (.iconst 0, 1) := by decide +kernel
theorem dM_readWeekday_59 : decode prog_11_method_26_code 59 = .ok (.ireturn, 1) := by decide +kernel
theorem dM_readWeekday_60 : decode prog_11_method_26_code 60 = .ok (.aload_n 0, 1) := by decide +kernel
theorem dM_readWeekday_61 : decode prog_11_method_26_code 61 = .ok (.getfield 44, 3) := by decide +kernel
theorem dM_readWeekday_64 : decode prog_11_method_26_code 64 = .ok (.aload_n 0, 1) := by decide +kernel
theorem dM_readWeekday_65 : decode prog_11_method_26_code 65 = .ok (.getfield 168, 3) := by decide +kernel
theorem dM_readWeekday_68 : decode prog_11_method_26_code 68 = .ok (.iload_n 3, 1) := by decide +kernel
theorem dM_readWeekday_69 : decode prog_11_method_26_code 69 = .ok (.iastore, 1) := by decide +kernel
theorem dM_readWeekday_70 : decode prog_11_method_26_code 70 = .ok (.aload_n 0, 1) := by decide +kernel
theorem dM_readWeekday_71 : decode prog_11_method_26_code 71 = .ok (.getfield 47, 3) := by decide +kernel
theorem dM_readWeekday_74 : decode prog_11_method_26_code 74 = .ok (.aload_n 0, 1) := by decide +kernel
theorem dM_readWeekday_75 : decode prog_11_method_26_code 75 = .ok (.getfield 168, 3) := by decide +kernel
theorem dM_readWeekday_78 : decode prog_11_method_26_code 78 = .ok (.iload_n 2, 1) := by decide +kernel
theorem dM_readWeekday_79 : decode prog_11_method_26_code 79 = .ok (.ifCond .ge 7, 3) := by decide +kernel
theorem dM_readWeekday_82 : decode prog_11_method_26_code 82 = .ok (.iconst 0, 1) := by decide +kernel
theorem dM_readWeekday_83 : decode prog_11_method_26_code 83 = .ok (.goto 13, 3) := by decide +kernel
theorem dM_readWeekday_86 : decode prog_11_method_26_code 86 = .ok (.iload_n 1, 1) := by decide +kernel
theorem dM_readWeekday_87 : decode prog_11_method_26_code 87 = .ok (.ifCond .eq 8, 3) := by decide +kernel
theorem dM_readWeekday_90 : decode prog_11_method_26_code 90 = .ok (.iload_n 2, 1) := by decide +kernel
theorem dM_readWeekday_91 : decode prog_11_method_26_code 91 = .ok (.ineg, 1) := by decide +kernel
theorem dM_readWeekday_92 : decode prog_11_method_26_code 92 = .ok (.goto 4, 3) := by decide +kernel
theorem dM_readWeekday_95 : decode prog_11_method_26_code 95 = .ok (.iload_n 2, 1) := by decide +kernel
theorem dM_readWeekday_96 : decode prog_11_method_26_code 96 = .ok (.iastore, 1) := by decide +kernel
theorem dM_readWeekday_97 : decode prog_11_method_26_code 97 = .ok (.aload_n 0, 1) := by decide +kernel
theorem dM_readWeekday_98 : decode prog_11_method_26_code 98 = .ok (.dup, 1) := by decide +kernel
theorem dM_readWeekday_99 : decode prog_11_method_26_code 99 = .ok (.getfield 168, 3) := by decide +kernel
theorem dM_readWeekday_102 : decode prog_11_method_26_code 102 = .ok (.iconst 1, 1) := by decide +kernel
theorem dM_readWeekday_103 : decode prog_11_method_26_code 103 = .ok (.iadd, 1) := by decide +kernel
theorem dM_readWeekday_104 : decode prog_11_method_26_code 104 = .ok (.putfield 168, 3) := by decide +kernel
theorem dM_readWeekday_107 : decode prog_11_method_26_code 107 = .ok (.iconst 1, 1) := by decide +kernel
theorem dM_readWeekday_108 : decode prog_11_method_26_code 108 = .ok (.ireturn, 1) := by decide +kernel
theorem dM_readMonthDay_0 : decode prog_11_method_27_code 0 = .ok (.aload_n 0, 1) := by decide +kernel
theorem dM_readMonthDay_1 : decode prog_11_method_27_code 1 = .ok (.bipush 45, 2) := by decide +kernel
theorem dM_readMonthDay_3 : decode prog_11_method_27_code 3 = .ok (.invokevirtual 161, 3) := by decide +kernel
theorem dM_readMonthDay_6 : decode prog_11_method_27_code 6 = .ok (.istore_n 1, 1) := by decide +kernel
theorem dM_readMonthDay_7 : decode prog_11_method_27_code 7 = .ok (.aload_n 0, 1) := by decide +kernel
theorem dM_readMonthDay_8 : decode prog_11_method_27_code 8 = .ok (.iconst 2, 1) := by decide +kernel
theorem dM_readMonthDay_9 : decode prog_11_method_27_code 9 = .ok (.invokevirtual 141, 3) := by decide +kernel
theorem dM_readMonthDay_12 : decode prog_11_method_27_code 12 = .ok (.istore_n 2, 1) := by decide +kernel
theorem dM_readMonthDay_13 : decode prog_11_method_27_code 13 = .ok (.iload_n 2, 1) := by decide +kernel
theorem dM_readMonthDay_14 : decode prog_11_method_27_code 14 = .ok (.iconst 1, 1) := by decide +kernel
theorem dM_readMonthDay_15 : decode prog_11_method_27_code 15 = .ok (.if_icmp .lt 18, 3) := by decide +kernel
theorem dM_readMonthDay_18 : decode prog_11_method_27_code 18 = .ok (.iload_n 2, 1) := by decide +kernel
theorem dM_readMonthDay_19 : decode prog_11_method_27_code 19 = .ok (.bipush 31, 2) := by decide +kernel
theorem dM_readMonthDay_21 : decode prog_11_method_27_code 21 = .ok (.if_icmp .gt 12, 3) := by decide +kernel
theorem dM_readMonthDay_24 : decode prog_11_method_27_code 24 = .ok (.aload_n 0, 1) := by decide +kernel
theorem dM_readMonthDay_25 : decode prog_11_method_27_code 25 = .ok (.getfield 171, 3) := by decide +kernel
theorem dM_readMonthDay_28 : decode prog_11_method_27_code 28 = .ok (.bipush 8, 2) := by decide +kernel
theorem dM_readMonthDay_30 : decode prog_11_method_27_code 30 = .ok (.if_icmp .ne 5, 3) := by decide +kernel
theorem dM_readMonthDay_33 : decode prog_11_method_27_code 33 = .ok (.iconst 0, 1) := by decide +kernel
theorem dM_readMonthDay_34 : decode prog_11_method_27_code 34 = .ok (.ireturn, 1) := by decide +kernel
theorem dM_readMonthDay_35 : decode prog_11_method_27_code 35 = .ok (.aload_n 0, 1) := by decide +kernel
theorem dM_readMonthDay_36 : decode prog_11_method_27_code 36 = .ok (.getfield 41, 3) := by decide +kernel
theorem dM_readMonthDay_39 : decode prog_11_method_27_code 39 = .ok (.aload_n 0, 1) := by decide +kernel
theorem dM_readMonthDay_40 : decode prog_11_method_27_code 40 = .ok (.getfield 171, 3) := by decide +kernel
theorem dM_readMonthDay_43 : decode prog_11_method_27_code 43 = .ok (.iload_n 1, 1) := by decide +kernel
theorem dM_readMonthDay_44 : decode prog_11_method_27_code 44 = .ok (.ifCond .eq 8, 3) := by decide +kernel
theorem dM_readMonthDay_47 : decode prog_11_method_27_code 47 = .ok (.iload_n 2, 1) := by decide +kernel
theorem dM_readMonthDay_48 : decode prog_11_method_27_code 48 = .ok (.ineg, 1) := by decide +kernel
theorem dM_readMonthDay_49 : decode prog_11_method_27_code 49 = .ok (.goto 4, 3) := by decide +kernel
theorem dM_readMonthDay_52 : decode prog_11_method_27_code 52 = .ok (.iload_n 2, 1) := by decide +kernel
theorem dM_readMonthDay_53 : decode prog_11_method_27_code 53 = .ok (.iastore, 1) := by decide +kernel
theorem dM_readMonthDay_54 : decode prog_11_method_27_code 54 = .ok (.aload_n 0, 1) := by decide +kernel
theorem dM_readMonthDay_55 : decode prog_11_method_27_code 55 = .ok (.dup, 1) := by decide +kernel
theorem dM_readMonthDay_56 : decode prog_11_method_27_code 56 = .ok (.getfield 171, 3) := by decide +kernel
theorem dM_readMonthDay_59 : decode prog_11_method_27_code 59 = .ok (.iconst 1, 1) := by decide +kernel
theorem dM_readMonthDay_60 : decode prog_11_method_27_code 60 = .ok (.iadd, 1) := by decide +kernel
theorem dM_readMonthDay_61 : decode prog_11_method_27_code 61 = .ok (.putfield 171, 3) := by decide +kernel
theorem dM_readMonthDay_64 : decode prog_11_method_27_code 64 = .ok (.iconst 1, 1) := by decide +kernel
theorem dM_readMonthDay_65 : decode prog_11_method_27_code 65 = .ok (.ireturn, 1) := by decide +kernel
theorem dM_readList_0 : decode prog_11_method_28_code 0 = .ok (.iconst 0, 1) := by decide +kernel
theorem dM_readList_1 : decode prog_11_method_28_code 1 = .ok (.istore_n 2, 1) := by decide +kernel
theorem dM_readList_2 : decode prog_11_method_28_code 2 = .ok (.iconst 1, 1) := by decide +kernel
theorem dM_readList_3 : decode prog_11_method_28_code 3 = .ok (.istore_n 3, 1) := by decide +kernel
theorem dM_readList_4 : decode prog_11_method_28_code 4 = .ok (.iload_n 3, 1) := by decide +kernel
theorem dM_readList_5 : decode prog_11_method_28_code 5 = .ok (.ifCond .eq 88, 3) := by decide +kernel
theorem dM_readList_8 : decode prog_11_method_28_code 8 = .ok (.iload_n 1, 1) := by decide +kernel
theorem dM_readList_9 : decode prog_11_method_28_code 9 = .ok (.iconst 2, 1) := by decide +kernel
theorem dM_readList_10 : decode prog_11_method_28_code 10 = .ok (.if_icmp .ne 47, 3) := by decide +kernel
theorem dM_readList_13 : decode prog_11_method_28_code 13 = .ok (.aload_n 0, 1) := by decide +kernel
theorem dM_readList_14 : decode prog_11_method_28_code 14 = .ok (.iconst 2, 1) := by decide +kernel
theorem dM_readList_15 : decode prog_11_method_28_code 15 = .ok (.invokevirtual 141, 3) := by decide +kernel
theorem dM_readList_18 : decode prog_11_method_28_code 18 = .ok (.istore 4, 2) := by decide +kernel
theorem dM_readList_20 : decode prog_11_method_28_code 20 = .ok (.iload 4, 2) := by decide +kernel
theorem dM_readList_22 : decode prog_11_method_28_code 22 = .ok (.iconst 1, 1) := by decide +kernel
theorem dM_readList_23 : decode prog_11_method_28_code 23 = .ok (.if_icmp .lt 16, 3) := by decide +kernel
theorem dM_readList_26 : decode prog_11_method_28_code 26 = .ok (.iload 4, 2) := by decide +kernel
theorem dM_readList_28 : decode prog_11_method_28_code 28 = .ok (.bipush 12, 2) := by decide +kernel
theorem dM_readList_30 : decode prog_11_method_28_code 30 = .ok (.if_icmp .gt 9, 3) := by decide +kernel
theorem dM_readList_33 : decode prog_11_method_28_code 33 = .ok (.iload_n 2, 1) := by decide +kernel
theorem dM_readList_34 : decode prog_11_method_28_code 34 = .ok (.bipush 8, 2) := by decide +kernel
theorem dM_readList_36 : decode prog_11_method_28_code 36 = .ok (.if_icmp .ne 5, 3) := by decide +kernel
theorem dM_readList_39 : decode prog_11_method_28_code 39 = .ok (.iconst 0, 1) := by decide +kernel
theorem dM_readList_40 : decode prog_11_method_28_code 40 = .ok (.ireturn, 1) := by decide +kernel
theorem dM_readList_41 : decode prog_11_method_28_code 41 = .ok (.aload_n 0, 1) := by decide +kernel
theorem dM_readList_42 : decode prog_11_method_28_code 42 = .ok (.getfield 37, 3) := by decide +kernel
theorem dM_readList_45 : decode prog_11_method_28_code 45 = .ok (.iload 4, 2) := by decide +kernel
theorem dM_readList_47 : decode prog_11_method_28_code 47 = .ok (.iconst 1, 1) := by decide +kernel
theorem dM_readList_48 : decode prog_11_method_28_code 48 = .ok (.bastore, 1) := by decide +kernel
theorem dM_readList_49 : decode prog_11_method_28_code 49 = .ok (.aload_n 0, 1) := by decide +kernel
theorem dM_readList_50 : decode prog_11_method_28_code 50 = .ok (.iconst 1, 1) := by decide +kernel
theorem dM_readList_51 : decode prog_11_method_28_code 51 = .ok (.putfield 174, 3) := by decide +kernel
theorem dM_readList_54 : decode prog_11_method_28_code 54 = .ok (.goto 26, 3) := by decide +kernel
theorem dM_readList_57 : decode prog_11_method_28_code 57 = .ok (.iload_n 1, 1) := by decide +kernel
theorem dM_readList_58 : decode prog_11_method_28_code 58 = .ok (.ifCond .ne 13, 3) := by decide +kernel
theorem dM_readList_61 : decode prog_11_method_28_code 61 = .ok (.aload_n 0, 1) := by decide +kernel
theorem dM_readList_62 : decode prog_11_method_28_code 62 = .ok (.invokevirtual 178, 3) := by decide +kernel
theorem dM_readList_65 : decode prog_11_method_28_code 65 = .ok (.ifCond .ne 15, 3) := by decide +kernel
theorem dM_readList_68 : decode prog_11_method_28_code 68 = .ok (.goto 10, 3) := by decide +kernel
theorem dM_readList_71 : decode prog_11_method_28_code 71 = .ok (.aload_n 0, 1) := by decide +kernel
theorem dM_readList_72 : decode prog_11_method_28_code 72 = .ok (.invokevirtual 182, 3) := by decide +kernel
theorem dM_readList_75 : decode prog_11_method_28_code 75 = .ok (.ifCond .ne 5, 3) := by decide +kernel
theorem dM_readList_78 : decode prog_11_method_28_code 78 = .ok (.iconst 0, 1) := by decide +kernel
theorem dM_readList_79 : decode prog_11_method_28_code 79 = .ok (.ireturn, 1) := by decide +kernel
theorem dM_readList_80 : decode prog_11_method_28_code 80 = .ok (.iinc 2 1, 3) := by decide +kernel
theorem dM_readList_83 : decode prog_11_method_28_code 83 = .ok (.aload_n 0, 1) := by decide +kernel
theorem dM_readList_84 : decode prog_11_method_28_code 84 = .ok (.bipush 44, 2) := by decide +kernel
theorem dM_readList_86 : decode prog_11_method_28_code 86 = .ok (.invokevirtual 161, 3) := by decide +kernel
theorem dM_readList_89 : decode prog_11_method_28_code 89 = .ok (.istore_n 3, 1) := by decide +kernel
theorem dM_readList_90 : decode prog_11_method_28_code 90 = .ok (.goto (-86), 3) := by decide +kernel
theorem dM_readList_93 : decode prog_11_method_28_code 93 = .ok (.iconst 1, 1) := by decide +kernel
theorem dM_readList_94 : decode prog_11_method_28_code 94 = .ok (.ireturn, 1) := by decide +kernel
theorem dM_readPart_0 : decode prog_11_method_29_code 0 = .ok (.aload_n 0, 1) := by decide +kernel
theorem dM_readPart_1 : decode prog_11_method_29_code 1 = .ok (.bipush 10, 2) := by decide +kernel
theorem dM_readPart_3 : decode prog_11_method_29_code 3 = .ok (.invokevirtual 126, 3) := by decide +kernel
theorem dM_readPart_6 : decode prog_11_method_29_code 6 = .ok (.lstore_n 1, 1) := by decide +kernel
theorem dM_readPart_7 : decode prog_11_method_29_code 7 = .ok (.aload_n 0, 1) := by decide +kernel
theorem dM_readPart_8 : decode prog_11_method_29_code 8 = .ok (.bipush 61, 2) := by decide +kernel
theorem dM_readPart_10 : decode prog_11_method_29_code 10 = .ok (.invokevirtual 161, 3) := by decide +kernel
theorem dM_readPart_13 : decode prog_11_method_29_code 13 = .ok (.ifCond .ne 5, 3) := by decide +kernel
theorem dM_readPart_16 : decode prog_11_method_29_code 16 = .ok (.iconst 0, 1) := by decide +kernel
theorem dM_readPart_17 : decode prog_11_method_29_code 17 = .ok (.ireturn, 1) := by decide +kernel
theorem dM_readPart_18 : decode prog_11_method_29_code 18 = .ok (.lload_n 1, 1) := by decide +kernel
theorem dM_readPart_19 : decode prog_11_method_29_code 19 = .ok (.ldc2_w 185, 3) := by decide +kernel
theorem dM_readPart_22 : decode prog_11_method_29_code 22 = .ok (.lcmp, 1) := by decide +kernel
theorem dM_readPart_23 : decode prog_11_method_29_code 23 = .ok (.ifCond .ne 16, 3) := by decide +kernel
theorem dM_readPart_26 : decode prog_11_method_29_code 26 = .ok (.aload_n 0, 1) := by decide +kernel
theorem dM_readPart_27 : decode prog_11_method_29_code 27 = .ok (.invokevirtual 187, 3) := by decide +kernel
theorem dM_readPart_30 : decode prog_11_method_29_code 30 = .ok (.ifCond .eq 7, 3) := by decide +kernel
theorem dM_readPart_33 : decode prog_11_method_29_code 33 = .ok (.iconst 1, 1) := by decide +kernel
theorem dM_readPart_34 : decode prog_11_method_29_code 34 = .ok (.goto 4, 3) := by decide +kernel
theorem dM_readPart_37 : decode prog_11_method_29_code 37 = .ok (.iconst 0, 1) := by decide +kernel
theorem dM_readPart_38 : decode prog_11_method_29_code 38 = .ok (.ireturn, 1) := by decide +kernel
theorem dM_readPart_39 : decode prog_11_method_29_code 39 = .ok (.lload_n 1, 1) := by decide +kernel
theorem dM_readPart_40 : decode prog_11_method_29_code 40 = .ok (.ldc2_w 190, 3) := by decide +kernel
theorem dM_readPart_43 : decode prog_11_method_29_code 43 = .ok (.lcmp, 1) := by decide +kernel
theorem dM_readPart_44 : decode prog_11_method_29_code 44 = .ok (.ifCond .ne 25, 3) := by decide +kernel
theorem dM_readPart_47 : decode prog_11_method_29_code 47 = .ok (.aload_n 0, 1) := by decide +kernel
theorem dM_readPart_48 : decode prog_11_method_29_code 48 = .ok (.aload_n 0, 1) := by decide +kernel
theorem dM_readPart_49 : decode prog_11_method_29_code 49 = .ok (.iconst 2, 1) := by decide +kernel
theorem dM_readPart_50 : decode prog_11_method_29_code 50 = .ok (.invokevirtual 141, 3) := by decide +kernel
theorem dM_readPart_53 : decode prog_11_method_29_code 53 = .ok (.putfield 192, 3) := by decide +kernel
theorem dM_readPart_56 : decode prog_11_method_29_code 56 = .ok (.aload_n 0, 1) := by decide +kernel
theorem dM_readPart_57 : decode prog_11_method_29_code 57 = .ok (.getfield 192, 3) := by decide +kernel
theorem dM_readPart_60 : decode prog_11_method_29_code 60 = .ok (.ifCond .le 7, 3) := by decide +kernel
theorem dM_readPart_63 : decode prog_11_method_29_code 63 = .ok (.iconst 2, 1) := by decide +kernel
theorem dM_readPart_64 : decode prog_11_method_29_code 64 = .ok (.goto 4, 3) := by decide +kernel
theorem dM_readPart_67 : decode prog_11_method_29_code 67 = .ok (.iconst 0, 1) := by decide +kernel
theorem dM_readPart_68 : decode prog_11_method_29_code 68 = .ok (.ireturn, 1) := by decide +kernel
theorem dM_readPart_69 : decode prog_11_method_29_code 69 = .ok (.lload_n 1, 1) := by decide +kernel
theorem dM_readPart_70 : decode prog_11_method_29_code 70 = .ok (.ldc2_w 195, 3) := by decide +kernel
theorem dM_readPart_73 : decode prog_11_method_29_code 73 = .ok (.lcmp, 1) := by decide +kernel
theorem dM_readPart_74 : decode prog_11_method_29_code 74 = .ok (.ifCond .ne 32, 3) := by decide +kernel
theorem dM_readPart_77 : decode prog_11_method_29_code 77 = .ok (.aload_n 0, 1) := by decide +kernel
theorem dM_readPart_78 : decode prog_11_method_29_code 78 = .ok (.aload_n 0, 1) := by decide +kernel
theorem dM_readPart_79 : decode prog_11_method_29_code 79 = .ok (.iconst 3, 1) := by decide +kernel
theorem dM_readPart_80 : decode prog_11_method_29_code 80 = .ok (.invokevirtual 141, 3) := by decide +kernel
theorem dM_readPart_83 : decode prog_11_method_29_code 83 = .ok (.putfield 197, 3) := by decide +kernel
theorem dM_readPart_86 : decode prog_11_method_29_code 86 = .ok (.aload_n 0, 1) := by decide +kernel
theorem dM_readPart_87 : decode prog_11_method_29_code 87 = .ok (.getfield 197, 3) := by decide +kernel
theorem dM_readPart_90 : decode prog_11_method_29_code 90 = .ok (.iconst 1, 1) := by decide +kernel
theorem dM_readPart_91 : decode prog_11_method_29_code 91 = .ok (.sipush 200, 3) := by decide +kernel
theorem dM_readPart_94 : decode prog_11_method_29_code 94 = .ok (.invokestatic 101, 3) := by decide +kernel
theorem dM_readPart_97 : decode prog_11_method_29_code 97 = .ok (.ifCond .eq 7, 3) := by decide +kernel
theorem dM_readPart_100 : decode prog_11_method_29_code 100 = .ok (.iconst 4, 1) := by decide +kernel
theorem dM_readPart_101 : decode prog_11_method_29_code 101 = .ok (.goto 4, 3) := by decide +kernel
theorem dM_readPart_104 : decode prog_11_method_29_code 104 = .ok (.iconst 0, 1) := by decide +kernel
theorem dM_readPart_105 : decode prog_11_method_29_code 105 = .ok (.ireturn, 1) := by decide +kernel
theorem dM_readPart_106 : decode prog_11_method_29_code 106 = .ok (.lload_n 1, 1) := by decide +kernel
theorem dM_readPart_107 : decode prog_11_method_29_code 107 = .ok (.ldc2_w 200, 3) := by decide +kernel
theorem dM_readPart_110 : decode prog_11_method_29_code 110 = .ok (.lcmp, 1) := by decide +kernel
theorem dM_readPart_111 : decode prog_11_method_29_code 111 = .ok (.ifCond .ne 17, 3) := by decide +kernel
theorem dM_readPart_114 : decode prog_11_method_29_code 114 = .ok (.aload_n 0, 1) := by decide +kernel
theorem dM_readPart_115 : decode prog_11_method_29_code 115 = .ok (.invokevirtual 202, 3) := by decide +kernel
theorem dM_readPart_118 : decode prog_11_method_29_code 118 = .ok (.ifCond .eq 8, 3) := by decide +kernel
theorem dM_readPart_121 : decode prog_11_method_29_code 121 = .ok (.bipush 8, 2) := by decide +kernel
theorem dM_readPart_123 : decode prog_11_method_29_code 123 = .ok (.goto 4, 3) := by decide +kernel
theorem dM_readPart_126 : decode prog_11_method_29_code 126 = .ok (.iconst 0, 1) := by decide +kernel
theorem dM_readPart_127 : decode prog_11_method_29_code 127 = .ok (.ireturn, 1) := by decide +kernel
theorem dM_readPart_128 : decode prog_11_method_29_code 128 = .ok (.lload_n 1, 1) := by decide +kernel
theorem dM_readPart_129 : decode prog_11_method_29_code 129 = .ok (.ldc2_w 205, 3) := by decide +kernel
theorem dM_readPart_132 : decode prog_11_method_29_code 132 = .ok (.lcmp, 1) := by decide +kernel
theorem dM_readPart_133 : decode prog_11_method_29_code 133 = .ok (.ifCond .ne 18, 3) := by decide +kernel
theorem dM_readPart_136 : decode prog_11_method_29_code 136 = .ok (.aload_n 0, 1) := by decide +kernel
theorem dM_readPart_137 : decode prog_11_method_29_code 137 = .ok (.iconst 0, 1) := by decide +kernel
theorem dM_readPart_138 : decode prog_11_method_29_code 138 = .ok (.invokevirtual 207, 3) := by decide +kernel
theorem dM_readPart_141 : decode prog_11_method_29_code 141 = .ok (.ifCond .eq 8, 3) := by decide +kernel
theorem dM_readPart_144 : decode prog_11_method_29_code 144 = .ok (.bipush 16, 2) := by decide +kernel
theorem dM_readPart_146 : decode prog_11_method_29_code 146 = .ok (.goto 4, 3) := by decide +kernel
theorem dM_readPart_149 : decode prog_11_method_29_code 149 = .ok (.iconst 0, 1) := by decide +kernel
theorem dM_readPart_150 : decode prog_11_method_29_code 150 = .ok (.ireturn, 1) := by decide +kernel
theorem dM_readPart_151 : decode prog_11_method_29_code 151 = .ok (.lload_n 1, 1) := by decide +kernel
theorem dM_readPart_152 : decode prog_11_method_29_code 152 = .ok (.ldc2_w 210, 3) := by decide +kernel
theorem dM_readPart_155 : decode prog_11_method_29_code 155 = .ok (.lcmp, 1) := by decide +kernel
theorem dM_readPart_156 : decode prog_11_method_29_code 156 = .ok (.ifCond .ne 18, 3) := by decide +kernel
theorem dM_readPart_159 : decode prog_11_method_29_code 159 = .ok (.aload_n 0, 1) := by decide +kernel
theorem dM_readPart_160 : decode prog_11_method_29_code 160 = .ok (.iconst 1, 1) := by decide +kernel
theorem dM_readPart_161 : decode prog_11_method_29_code 161 = .ok (.invokevirtual 207, 3) := by decide +kernel
theorem dM_readPart_164 : decode prog_11_method_29_code 164 = .ok (.ifCond .eq 8, 3) := by decide +kernel
theorem dM_readPart_167 : decode prog_11_method_29_code 167 = .ok (.bipush 32, 2) := by decide +kernel
theorem dM_readPart_169 : decode prog_11_method_29_code 169 = .ok (.goto 4, 3) := by decide +kernel
theorem dM_readPart_172 : decode prog_11_method_29_code 172 = .ok (.iconst 0, 1) := by decide +kernel
theorem dM_readPart_173 : decode prog_11_method_29_code 173 = .ok (.ireturn, 1) := by decide +kernel
theorem dM_readPart_174 : decode prog_11_method_29_code 174 = .ok (.lload_n 1, 1) := by decide +kernel
theorem dM_readPart_175 : decode prog_11_method_29_code 175 = .ok (.ldc2_w 212, 3) := by decide +kernel
theorem dM_readPart_178 : decode prog_11_method_29_code 178 = .ok (.lcmp, 1) := by decide +kernel
theorem dM_readPart_179 : decode prog_11_method_29_code 179 = .ok (.ifCond .ne 16, 3) := by decide +kernel
theorem dM_readPart_182 : decode prog_11_method_29_code 182 = .ok (.aload_n 0, 1) := by decide +kernel
theorem dM_readPart_183 : decode prog_11_method_29_code 183 = .ok (.iconst 2, 1) := by decide +kernel
theorem dM_readPart_184 : decode prog_11_method_29_code 184 = .ok (.invokevirtual 207, 3) := by decide +kernel
theorem dM_readPart_187 : decode prog_11_method_29_code 187 = .ok (.ifCond .eq 8, 3) := by decide +kernel
theorem dM_readPart_190 : decode prog_11_method_29_code 190 = .ok (.bipush 64, 2) := by decide +kernel
theorem dM_readPart_192 : decode prog_11_method_29_code 192 = .ok (.goto 4, 3) := by decide +kernel
theorem dM_readPart_195 : decode prog_11_method_29_code 195 = .ok (.iconst 0, 1) := by decide +kernel
theorem dM_readPart_196 : decode prog_11_method_29_code 196 = .ok (.ireturn, 1) := by decide +kernel
