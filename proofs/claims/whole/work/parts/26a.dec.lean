/-! Decoded instructions. -/
theorem dM_fails_0 : decode prog_11_method_3_code 0 = .ok (.aload_n 0, 1) := by decide +kernel
theorem dM_fails_1 : decode prog_11_method_3_code 1 = .ok (.iload_n 1, 1) := by decide +kernel
theorem dM_fails_2 : decode prog_11_method_3_code 2 = .ok (.ifCond .eq 7, 3) := by decide +kernel
theorem dM_fails_5 : decode prog_11_method_3_code 5 = .ok (.iconst 1, 1) := by decide +kernel
theorem dM_fails_6 : decode prog_11_method_3_code 6 = .ok (.goto 4, 3) := by decide +kernel
theorem dM_fails_9 : decode prog_11_method_3_code 9 = .ok (.iconst 0, 1) := by decide +kernel
theorem dM_fails_10 : decode prog_11_method_3_code 10 = .ok (.putfield 60, 3) := by decide +kernel
theorem dM_fails_13 : decode prog_11_method_3_code 13 = .ok (.iload_n 1, 1) := by decide +kernel
theorem dM_fails_14 : decode prog_11_method_3_code 14 = .ok (.ireturn, 1) := by decide +kernel
theorem dM_split_0 : decode prog_11_method_6_code 0 = .ok (.iload_n 1, 1) := by decide +kernel
theorem dM_split_1 : decode prog_11_method_6_code 1 = .ok (.sipush 1461, 3) := by decide +kernel
theorem dM_split_4 : decode prog_11_method_6_code 4 = .ok (.irem, 1) := by decide +kernel
theorem dM_split_5 : decode prog_11_method_6_code 5 = .ok (.istore_n 2, 1) := by decide +kernel
theorem dM_split_6 : decode prog_11_method_6_code 6 = .ok (.iload_n 2, 1) := by decide +kernel
theorem dM_split_7 : decode prog_11_method_6_code 7 = .ok (.sipush 366, 3) := by decide +kernel
theorem dM_split_10 : decode prog_11_method_6_code 10 = .ok (.if_icmp .ge 7, 3) := by decide +kernel
theorem dM_split_13 : decode prog_11_method_6_code 13 = .ok (.iconst 0, 1) := by decide +kernel
theorem dM_split_14 : decode prog_11_method_6_code 14 = .ok (.goto 10, 3) := by decide +kernel
theorem dM_split_17 : decode prog_11_method_6_code 17 = .ok (.iload_n 2, 1) := by decide +kernel
theorem dM_split_18 : decode prog_11_method_6_code 18 = .ok (.iconst 1, 1) := by decide +kernel
theorem dM_split_19 : decode prog_11_method_6_code 19 = .ok (.isub, 1) := by decide +kernel
theorem dM_split_20 : decode prog_11_method_6_code 20 = .ok (.sipush 365, 3) := by decide +kernel
theorem dM_split_23 : decode prog_11_method_6_code 23 = .ok (.idiv, 1) := by decide +kernel
theorem dM_split_24 : decode prog_11_method_6_code 24 = .ok (.istore_n 3, 1) := by decide +kernel
theorem dM_split_25 : decode prog_11_method_6_code 25 = .ok (.aload_n 0, 1) := by decide +kernel
theorem dM_split_26 : decode prog_11_method_6_code 26 = .ok (.iload_n 1, 1) := by decide +kernel
theorem dM_split_27 : decode prog_11_method_6_code 27 = .ok (.sipush 1461, 3) := by decide +kernel
theorem dM_split_30 : decode prog_11_method_6_code 30 = .ok (.idiv, 1) := by decide +kernel
theorem dM_split_31 : decode prog_11_method_6_code 31 = .ok (.iconst 4, 1) := by decide +kernel
theorem dM_split_32 : decode prog_11_method_6_code 32 = .ok (.imul, 1) := by decide +kernel
theorem dM_split_33 : decode prog_11_method_6_code 33 = .ok (.iload_n 3, 1) := by decide +kernel
theorem dM_split_34 : decode prog_11_method_6_code 34 = .ok (.iadd, 1) := by decide +kernel
theorem dM_split_35 : decode prog_11_method_6_code 35 = .ok (.putfield 64, 3) := by decide +kernel
theorem dM_split_38 : decode prog_11_method_6_code 38 = .ok (.iload_n 1, 1) := by decide +kernel
theorem dM_split_39 : decode prog_11_method_6_code 39 = .ok (.aload_n 0, 1) := by decide +kernel
theorem dM_split_40 : decode prog_11_method_6_code 40 = .ok (.getfield 64, 3) := by decide +kernel
theorem dM_split_43 : decode prog_11_method_6_code 43 = .ok (.invokestatic 67, 3) := by decide +kernel
theorem dM_split_46 : decode prog_11_method_6_code 46 = .ok (.isub, 1) := by decide +kernel
theorem dM_split_47 : decode prog_11_method_6_code 47 = .ok (.istore 4, 2) := by decide +kernel
theorem dM_split_49 : decode prog_11_method_6_code 49 = .ok (.aload_n 0, 1) := by decide +kernel
theorem dM_split_50 : decode prog_11_method_6_code 50 = .ok (.iconst 1, 1) := by decide +kernel
theorem dM_split_51 : decode prog_11_method_6_code 51 = .ok (.putfield 71, 3) := by decide +kernel
theorem dM_split_54 : decode prog_11_method_6_code 54 = .ok (.iload 4, 2) := by decide +kernel
theorem dM_split_56 : decode prog_11_method_6_code 56 = .ok (.aload_n 0, 1) := by decide +kernel
theorem dM_split_57 : decode prog_11_method_6_code 57 = .ok (.getfield 64, 3) := by decide +kernel
theorem dM_split_60 : decode prog_11_method_6_code 60 = .ok (.aload_n 0, 1) := by decide +kernel
theorem dM_split_61 : decode prog_11_method_6_code 61 = .ok (.getfield 71, 3) := by decide +kernel
theorem dM_split_64 : decode prog_11_method_6_code 64 = .ok (.invokestatic 74, 3) := by decide +kernel
theorem dM_split_67 : decode prog_11_method_6_code 67 = .ok (.if_icmp .lt 32, 3) := by decide +kernel
theorem dM_split_70 : decode prog_11_method_6_code 70 = .ok (.iload 4, 2) := by decide +kernel
theorem dM_split_72 : decode prog_11_method_6_code 72 = .ok (.aload_n 0, 1) := by decide +kernel
theorem dM_split_73 : decode prog_11_method_6_code 73 = .ok (.getfield 64, 3) := by decide +kernel
theorem dM_split_76 : decode prog_11_method_6_code 76 = .ok (.aload_n 0, 1) := by decide +kernel
theorem dM_split_77 : decode prog_11_method_6_code 77 = .ok (.getfield 71, 3) := by decide +kernel
theorem dM_split_80 : decode prog_11_method_6_code 80 = .ok (.invokestatic 74, 3) := by decide +kernel
theorem dM_split_83 : decode prog_11_method_6_code 83 = .ok (.isub, 1) := by decide +kernel
theorem dM_split_84 : decode prog_11_method_6_code 84 = .ok (.istore 4, 2) := by decide +kernel
theorem dM_split_86 : decode prog_11_method_6_code 86 = .ok (.aload_n 0, 1) := by decide +kernel
theorem dM_split_87 : decode prog_11_method_6_code 87 = .ok (.dup, 1) := by decide +kernel
theorem dM_split_88 : decode prog_11_method_6_code 88 = .ok (.getfield 71, 3) := by decide +kernel
theorem dM_split_91 : decode prog_11_method_6_code 91 = .ok (.iconst 1, 1) := by decide +kernel
theorem dM_split_92 : decode prog_11_method_6_code 92 = .ok (.iadd, 1) := by decide +kernel
theorem dM_split_93 : decode prog_11_method_6_code 93 = .ok (.putfield 71, 3) := by decide +kernel
theorem dM_split_96 : decode prog_11_method_6_code 96 = .ok (.goto (-42), 3) := by decide +kernel
theorem dM_split_99 : decode prog_11_method_6_code 99 = .ok (.aload_n 0, 1) := by decide +kernel
theorem dM_split_100 : decode prog_11_method_6_code 100 = .ok (.iload 4, 2) := by decide +kernel
theorem dM_split_102 : decode prog_11_method_6_code 102 = .ok (.iconst 1, 1) := by decide +kernel
theorem dM_split_103 : decode prog_11_method_6_code 103 = .ok (.iadd, 1) := by decide +kernel
theorem dM_split_104 : decode prog_11_method_6_code 104 = .ok (.putfield 78, 3) := by decide +kernel
theorem dM_split_107 : decode prog_11_method_6_code 107 = .ok (.return_, 1) := by decide +kernel
theorem dM_isDate_0 : decode prog_11_method_8_code 0 = .ok (.iload_n 0, 1) := by decide +kernel
theorem dM_isDate_1 : decode prog_11_method_8_code 1 = .ok (.ifCond .lt 38, 3) := by decide +kernel
theorem dM_isDate_4 : decode prog_11_method_8_code 4 = .ok (.iload_n 0, 1) := by decide +kernel
theorem dM_isDate_5 : decode prog_11_method_8_code 5 = .ok (.bipush 100, 2) := by decide +kernel
theorem dM_isDate_7 : decode prog_11_method_8_code 7 = .ok (.if_icmp .ge 32, 3) := by decide +kernel
theorem dM_isDate_10 : decode prog_11_method_8_code 10 = .ok (.iload_n 1, 1) := by decide +kernel
theorem dM_isDate_11 : decode prog_11_method_8_code 11 = .ok (.iconst 1, 1) := by decide +kernel
theorem dM_isDate_12 : decode prog_11_method_8_code 12 = .ok (.if_icmp .lt 27, 3) := by decide +kernel
theorem dM_isDate_15 : decode prog_11_method_8_code 15 = .ok (.iload_n 1, 1) := by decide +kernel
theorem dM_isDate_16 : decode prog_11_method_8_code 16 = .ok (.bipush 12, 2) := by decide +kernel
theorem dM_isDate_18 : decode prog_11_method_8_code 18 = .ok (.if_icmp .gt 21, 3) := by decide +kernel
theorem dM_isDate_21 : decode prog_11_method_8_code 21 = .ok (.iload_n 2, 1) := by decide +kernel
theorem dM_isDate_22 : decode prog_11_method_8_code 22 = .ok (.iconst 1, 1) := by decide +kernel
theorem dM_isDate_23 : decode prog_11_method_8_code 23 = .ok (.if_icmp .lt 16, 3) := by decide +kernel
theorem dM_isDate_26 : decode prog_11_method_8_code 26 = .ok (.iload_n 2, 1) := by decide +kernel
theorem dM_isDate_27 : decode prog_11_method_8_code 27 = .ok (.iload_n 0, 1) := by decide +kernel
theorem dM_isDate_28 : decode prog_11_method_8_code 28 = .ok (.iload_n 1, 1) := by decide +kernel
theorem dM_isDate_29 : decode prog_11_method_8_code 29 = .ok (.invokestatic 74, 3) := by decide +kernel
theorem dM_isDate_32 : decode prog_11_method_8_code 32 = .ok (.if_icmp .gt 7, 3) := by decide +kernel
theorem dM_isDate_35 : decode prog_11_method_8_code 35 = .ok (.iconst 1, 1) := by decide +kernel
theorem dM_isDate_36 : decode prog_11_method_8_code 36 = .ok (.goto 4, 3) := by decide +kernel
theorem dM_isDate_39 : decode prog_11_method_8_code 39 = .ok (.iconst 0, 1) := by decide +kernel
theorem dM_isDate_40 : decode prog_11_method_8_code 40 = .ok (.ireturn, 1) := by decide +kernel
theorem dM_date_0 : decode prog_11_method_10_code 0 = .ok (.aload_n 0, 1) := by decide +kernel
theorem dM_date_1 : decode prog_11_method_10_code 1 = .ok (.iconst 0, 1) := by decide +kernel
theorem dM_date_2 : decode prog_11_method_10_code 2 = .ok (.putfield 60, 3) := by decide +kernel
theorem dM_date_5 : decode prog_11_method_10_code 5 = .ok (.iload_n 1, 1) := by decide +kernel
theorem dM_date_6 : decode prog_11_method_10_code 6 = .ok (.sipush 2000, 3) := by decide +kernel
theorem dM_date_9 : decode prog_11_method_10_code 9 = .ok (.if_icmp .lt 36, 3) := by decide +kernel
theorem dM_date_12 : decode prog_11_method_10_code 12 = .ok (.iload_n 1, 1) := by decide +kernel
theorem dM_date_13 : decode prog_11_method_10_code 13 = .ok (.sipush 2099, 3) := by decide +kernel
theorem dM_date_16 : decode prog_11_method_10_code 16 = .ok (.if_icmp .gt 29, 3) := by decide +kernel
theorem dM_date_19 : decode prog_11_method_10_code 19 = .ok (.iload_n 1, 1) := by decide +kernel
theorem dM_date_20 : decode prog_11_method_10_code 20 = .ok (.sipush 2000, 3) := by decide +kernel
theorem dM_date_23 : decode prog_11_method_10_code 23 = .ok (.isub, 1) := by decide +kernel
theorem dM_date_24 : decode prog_11_method_10_code 24 = .ok (.iload_n 2, 1) := by decide +kernel
theorem dM_date_25 : decode prog_11_method_10_code 25 = .ok (.iload_n 3, 1) := by decide +kernel
theorem dM_date_26 : decode prog_11_method_10_code 26 = .ok (.invokestatic 81, 3) := by decide +kernel
theorem dM_date_29 : decode prog_11_method_10_code 29 = .ok (.ifCond .eq 16, 3) := by decide +kernel
theorem dM_date_32 : decode prog_11_method_10_code 32 = .ok (.iload_n 1, 1) := by decide +kernel
theorem dM_date_33 : decode prog_11_method_10_code 33 = .ok (.sipush 2000, 3) := by decide +kernel
theorem dM_date_36 : decode prog_11_method_10_code 36 = .ok (.isub, 1) := by decide +kernel
theorem dM_date_37 : decode prog_11_method_10_code 37 = .ok (.iload_n 2, 1) := by decide +kernel
theorem dM_date_38 : decode prog_11_method_10_code 38 = .ok (.iload_n 3, 1) := by decide +kernel
theorem dM_date_39 : decode prog_11_method_10_code 39 = .ok (.invokestatic 85, 3) := by decide +kernel
theorem dM_date_42 : decode prog_11_method_10_code 42 = .ok (.goto 4, 3) := by decide +kernel
theorem dM_date_45 : decode prog_11_method_10_code 45 = .ok (.iconst (-1), 1) := by decide +kernel
theorem dM_date_46 : decode prog_11_method_10_code 46 = .ok (.ireturn, 1) := by decide +kernel
theorem dM_inside_0 : decode prog_11_method_13_code 0 = .ok (.iload_n 0, 1) := by decide +kernel
theorem dM_inside_1 : decode prog_11_method_13_code 1 = .ok (.iload_n 1, 1) := by decide +kernel
theorem dM_inside_2 : decode prog_11_method_13_code 2 = .ok (.if_icmp .lt 12, 3) := by decide +kernel
theorem dM_inside_5 : decode prog_11_method_13_code 5 = .ok (.iload_n 0, 1) := by decide +kernel
theorem dM_inside_6 : decode prog_11_method_13_code 6 = .ok (.iload_n 2, 1) := by decide +kernel
theorem dM_inside_7 : decode prog_11_method_13_code 7 = .ok (.if_icmp .gt 7, 3) := by decide +kernel
theorem dM_inside_10 : decode prog_11_method_13_code 10 = .ok (.iconst 1, 1) := by decide +kernel
theorem dM_inside_11 : decode prog_11_method_13_code 11 = .ok (.goto 4, 3) := by decide +kernel
theorem dM_inside_14 : decode prog_11_method_13_code 14 = .ok (.iconst 0, 1) := by decide +kernel
theorem dM_inside_15 : decode prog_11_method_13_code 15 = .ok (.ireturn, 1) := by decide +kernel
theorem dM_zone_0 : decode prog_11_method_14_code 0 = .ok (.iload_n 1, 1) := by decide +kernel
theorem dM_zone_1 : decode prog_11_method_14_code 1 = .ok (.sipush (-840), 3) := by decide +kernel
theorem dM_zone_4 : decode prog_11_method_14_code 4 = .ok (.sipush 840, 3) := by decide +kernel
theorem dM_zone_7 : decode prog_11_method_14_code 7 = .ok (.invokestatic 101, 3) := by decide +kernel
theorem dM_zone_10 : decode prog_11_method_14_code 10 = .ok (.ifCond .eq 61, 3) := by decide +kernel
theorem dM_zone_13 : decode prog_11_method_14_code 13 = .ok (.iload_n 2, 1) := by decide +kernel
theorem dM_zone_14 : decode prog_11_method_14_code 14 = .ok (.iload_n 1, 1) := by decide +kernel
theorem dM_zone_15 : decode prog_11_method_14_code 15 = .ok (.sipush 840, 3) := by decide +kernel
theorem dM_zone_18 : decode prog_11_method_14_code 18 = .ok (.invokestatic 101, 3) := by decide +kernel
theorem dM_zone_21 : decode prog_11_method_14_code 21 = .ok (.ifCond .eq 50, 3) := by decide +kernel
theorem dM_zone_24 : decode prog_11_method_14_code 24 = .ok (.iload_n 3, 1) := by decide +kernel
theorem dM_zone_25 : decode prog_11_method_14_code 25 = .ok (.iconst 1, 1) := by decide +kernel
theorem dM_zone_26 : decode prog_11_method_14_code 26 = .ok (.bipush 12, 2) := by decide +kernel
theorem dM_zone_28 : decode prog_11_method_14_code 28 = .ok (.invokestatic 101, 3) := by decide +kernel
theorem dM_zone_31 : decode prog_11_method_14_code 31 = .ok (.ifCond .eq 40, 3) := by decide +kernel
theorem dM_zone_34 : decode prog_11_method_14_code 34 = .ok (.iload 5, 2) := by decide +kernel
theorem dM_zone_36 : decode prog_11_method_14_code 36 = .ok (.iload_n 3, 1) := by decide +kernel
theorem dM_zone_37 : decode prog_11_method_14_code 37 = .ok (.iconst 1, 1) := by decide +kernel
theorem dM_zone_38 : decode prog_11_method_14_code 38 = .ok (.iadd, 1) := by decide +kernel
theorem dM_zone_39 : decode prog_11_method_14_code 39 = .ok (.bipush 12, 2) := by decide +kernel
theorem dM_zone_41 : decode prog_11_method_14_code 41 = .ok (.invokestatic 101, 3) := by decide +kernel
theorem dM_zone_44 : decode prog_11_method_14_code 44 = .ok (.ifCond .eq 27, 3) := by decide +kernel
theorem dM_zone_47 : decode prog_11_method_14_code 47 = .ok (.iload 4, 2) := by decide +kernel
theorem dM_zone_49 : decode prog_11_method_14_code 49 = .ok (.iconst 1, 1) := by decide +kernel
theorem dM_zone_50 : decode prog_11_method_14_code 50 = .ok (.iconst 5, 1) := by decide +kernel
theorem dM_zone_51 : decode prog_11_method_14_code 51 = .ok (.invokestatic 101, 3) := by decide +kernel
theorem dM_zone_54 : decode prog_11_method_14_code 54 = .ok (.ifCond .eq 17, 3) := by decide +kernel
theorem dM_zone_57 : decode prog_11_method_14_code 57 = .ok (.iload 6, 2) := by decide +kernel
theorem dM_zone_59 : decode prog_11_method_14_code 59 = .ok (.iconst 1, 1) := by decide +kernel
theorem dM_zone_60 : decode prog_11_method_14_code 60 = .ok (.iconst 5, 1) := by decide +kernel
theorem dM_zone_61 : decode prog_11_method_14_code 61 = .ok (.invokestatic 101, 3) := by decide +kernel
theorem dM_zone_64 : decode prog_11_method_14_code 64 = .ok (.ifCond .eq 7, 3) := by decide +kernel
theorem dM_zone_67 : decode prog_11_method_14_code 67 = .ok (.iconst 1, 1) := by decide +kernel
theorem dM_zone_68 : decode prog_11_method_14_code 68 = .ok (.goto 4, 3) := by decide +kernel
theorem dM_zone_71 : decode prog_11_method_14_code 71 = .ok (.iconst 0, 1) := by decide +kernel
theorem dM_zone_72 : decode prog_11_method_14_code 72 = .ok (.istore 7, 2) := by decide +kernel
theorem dM_zone_74 : decode prog_11_method_14_code 74 = .ok (.aload_n 0, 1) := by decide +kernel
theorem dM_zone_75 : decode prog_11_method_14_code 75 = .ok (.iload 7, 2) := by decide +kernel
theorem dM_zone_77 : decode prog_11_method_14_code 77 = .ok (.ifCond .ne 7, 3) := by decide +kernel
theorem dM_zone_80 : decode prog_11_method_14_code 80 = .ok (.iconst 1, 1) := by decide +kernel
theorem dM_zone_81 : decode prog_11_method_14_code 81 = .ok (.goto 4, 3) := by decide +kernel
theorem dM_zone_84 : decode prog_11_method_14_code 84 = .ok (.iconst 0, 1) := by decide +kernel
theorem dM_zone_85 : decode prog_11_method_14_code 85 = .ok (.invokevirtual 104, 3) := by decide +kernel
theorem dM_zone_88 : decode prog_11_method_14_code 88 = .ok (.ifCond .eq 4, 3) := by decide +kernel
theorem dM_zone_91 : decode prog_11_method_14_code 91 = .ok (.return_, 1) := by decide +kernel
theorem dM_zone_92 : decode prog_11_method_14_code 92 = .ok (.aload_n 0, 1) := by decide +kernel
theorem dM_zone_93 : decode prog_11_method_14_code 93 = .ok (.iload_n 1, 1) := by decide +kernel
theorem dM_zone_94 : decode prog_11_method_14_code 94 = .ok (.putfield 95, 3) := by decide +kernel
theorem dM_zone_97 : decode prog_11_method_14_code 97 = .ok (.aload_n 0, 1) := by decide +kernel
theorem dM_zone_98 : decode prog_11_method_14_code 98 = .ok (.iload_n 2, 1) := by decide +kernel
theorem dM_zone_99 : decode prog_11_method_14_code 99 = .ok (.putfield 98, 3) := by decide +kernel
theorem dM_zone_102 : decode prog_11_method_14_code 102 = .ok (.aload_n 0, 1) := by decide +kernel
theorem dM_zone_103 : decode prog_11_method_14_code 103 = .ok (.iload_n 3, 1) := by decide +kernel
theorem dM_zone_104 : decode prog_11_method_14_code 104 = .ok (.iload 4, 2) := by decide +kernel
theorem dM_zone_106 : decode prog_11_method_14_code 106 = .ok (.iload 5, 2) := by decide +kernel
theorem dM_zone_108 : decode prog_11_method_14_code 108 = .ok (.iload 6, 2) := by decide +kernel
theorem dM_zone_110 : decode prog_11_method_14_code 110 = .ok (.invokevirtual 56, 3) := by decide +kernel
theorem dM_zone_113 : decode prog_11_method_14_code 113 = .ok (.return_, 1) := by decide +kernel
theorem dM_inSummer_0 : decode prog_11_method_15_code 0 = .ok (.iconst 0, 1) := by decide +kernel
theorem dM_inSummer_1 : decode prog_11_method_15_code 1 = .ok (.istore_n 2, 1) := by decide +kernel
theorem dM_inSummer_2 : decode prog_11_method_15_code 2 = .ok (.iconst 0, 1) := by decide +kernel
theorem dM_inSummer_3 : decode prog_11_method_15_code 3 = .ok (.istore_n 3, 1) := by decide +kernel
theorem dM_inSummer_4 : decode prog_11_method_15_code 4 = .ok (.iload_n 3, 1) := by decide +kernel
theorem dM_inSummer_5 : decode prog_11_method_15_code 5 = .ok (.bipush 100, 2) := by decide +kernel
theorem dM_inSummer_7 : decode prog_11_method_15_code 7 = .ok (.if_icmp .ge 39, 3) := by decide +kernel
theorem dM_inSummer_10 : decode prog_11_method_15_code 10 = .ok (.iload_n 2, 1) := by decide +kernel
theorem dM_inSummer_11 : decode prog_11_method_15_code 11 = .ok (.ifCond .ne 35, 3) := by decide +kernel
theorem dM_inSummer_14 : decode prog_11_method_15_code 14 = .ok (.iload_n 1, 1) := by decide +kernel
theorem dM_inSummer_15 : decode prog_11_method_15_code 15 = .ok (.aload_n 0, 1) := by decide +kernel
theorem dM_inSummer_16 : decode prog_11_method_15_code 16 = .ok (.getfield 13, 3) := by decide +kernel
theorem dM_inSummer_19 : decode prog_11_method_15_code 19 = .ok (.iload_n 3, 1) := by decide +kernel
theorem dM_inSummer_20 : decode prog_11_method_15_code 20 = .ok (.iaload, 1) := by decide +kernel
theorem dM_inSummer_21 : decode prog_11_method_15_code 21 = .ok (.if_icmp .lt 17, 3) := by decide +kernel
theorem dM_inSummer_24 : decode prog_11_method_15_code 24 = .ok (.iload_n 1, 1) := by decide +kernel
theorem dM_inSummer_25 : decode prog_11_method_15_code 25 = .ok (.aload_n 0, 1) := by decide +kernel
theorem dM_inSummer_26 : decode prog_11_method_15_code 26 = .ok (.getfield 16, 3) := by decide +kernel
theorem dM_inSummer_29 : decode prog_11_method_15_code 29 = .ok (.iload_n 3, 1) := by decide +kernel
theorem dM_inSummer_30 : decode prog_11_method_15_code 30 = .ok (.iaload, 1) := by decide +kernel
theorem dM_inSummer_31 : decode prog_11_method_15_code 31 = .ok (.if_icmp .ge 7, 3) := by decide +kernel
theorem dM_inSummer_34 : decode prog_11_method_15_code 34 = .ok (.iconst 1, 1) := by decide +kernel
theorem dM_inSummer_35 : decode prog_11_method_15_code 35 = .ok (.goto 4, 3) := by decide +kernel
theorem dM_inSummer_38 : decode prog_11_method_15_code 38 = .ok (.iconst 0, 1) := by decide +kernel
theorem dM_inSummer_39 : decode prog_11_method_15_code 39 = .ok (.istore_n 2, 1) := by decide +kernel
theorem dM_inSummer_40 : decode prog_11_method_15_code 40 = .ok (.iinc 3 1, 3) := by decide +kernel
theorem dM_inSummer_43 : decode prog_11_method_15_code 43 = .ok (.goto (-39), 3) := by decide +kernel
theorem dM_inSummer_46 : decode prog_11_method_15_code 46 = .ok (.iload_n 2, 1) := by decide +kernel
theorem dM_inSummer_47 : decode prog_11_method_15_code 47 = .ok (.ireturn, 1) := by decide +kernel
theorem dM_momentOf_0 : decode prog_11_method_16_code 0 = .ok (.aload_n 0, 1) := by decide +kernel
theorem dM_momentOf_1 : decode prog_11_method_16_code 1 = .ok (.iload_n 1, 1) := by decide +kernel
theorem dM_momentOf_2 : decode prog_11_method_16_code 2 = .ok (.aload_n 0, 1) := by decide +kernel
theorem dM_momentOf_3 : decode prog_11_method_16_code 3 = .ok (.getfield 98, 3) := by decide +kernel
theorem dM_momentOf_6 : decode prog_11_method_16_code 6 = .ok (.isub, 1) := by decide +kernel
theorem dM_momentOf_7 : decode prog_11_method_16_code 7 = .ok (.invokevirtual 108, 3) := by decide +kernel
theorem dM_momentOf_10 : decode prog_11_method_16_code 10 = .ok (.ifCond .eq 12, 3) := by decide +kernel
theorem dM_momentOf_13 : decode prog_11_method_16_code 13 = .ok (.iload_n 1, 1) := by decide +kernel
theorem dM_momentOf_14 : decode prog_11_method_16_code 14 = .ok (.aload_n 0, 1) := by decide +kernel
theorem dM_momentOf_15 : decode prog_11_method_16_code 15 = .ok (.getfield 98, 3) := by decide +kernel
theorem dM_momentOf_18 : decode prog_11_method_16_code 18 = .ok (.isub, 1) := by decide +kernel
theorem dM_momentOf_19 : decode prog_11_method_16_code 19 = .ok (.goto 9, 3) := by decide +kernel
theorem dM_momentOf_22 : decode prog_11_method_16_code 22 = .ok (.iload_n 1, 1) := by decide +kernel
theorem dM_momentOf_23 : decode prog_11_method_16_code 23 = .ok (.aload_n 0, 1) := by decide +kernel
theorem dM_momentOf_24 : decode prog_11_method_16_code 24 = .ok (.getfield 95, 3) := by decide +kernel
theorem dM_momentOf_27 : decode prog_11_method_16_code 27 = .ok (.isub, 1) := by decide +kernel
theorem dM_momentOf_28 : decode prog_11_method_16_code 28 = .ok (.ireturn, 1) := by decide +kernel
theorem dM_local_0 : decode prog_11_method_17_code 0 = .ok (.aload_n 0, 1) := by decide +kernel
theorem dM_local_1 : decode prog_11_method_17_code 1 = .ok (.iconst 0, 1) := by decide +kernel
theorem dM_local_2 : decode prog_11_method_17_code 2 = .ok (.putfield 60, 3) := by decide +kernel
theorem dM_local_5 : decode prog_11_method_17_code 5 = .ok (.iload_n 1, 1) := by decide +kernel
theorem dM_local_6 : decode prog_11_method_17_code 6 = .ok (.aload_n 0, 1) := by decide +kernel
theorem dM_local_7 : decode prog_11_method_17_code 7 = .ok (.iload_n 1, 1) := by decide +kernel
theorem dM_local_8 : decode prog_11_method_17_code 8 = .ok (.invokevirtual 108, 3) := by decide +kernel
theorem dM_local_11 : decode prog_11_method_17_code 11 = .ok (.ifCond .eq 10, 3) := by decide +kernel
theorem dM_local_14 : decode prog_11_method_17_code 14 = .ok (.aload_n 0, 1) := by decide +kernel
theorem dM_local_15 : decode prog_11_method_17_code 15 = .ok (.getfield 98, 3) := by decide +kernel
theorem dM_local_18 : decode prog_11_method_17_code 18 = .ok (.goto 7, 3) := by decide +kernel
theorem dM_local_21 : decode prog_11_method_17_code 21 = .ok (.aload_n 0, 1) := by decide +kernel
theorem dM_local_22 : decode prog_11_method_17_code 22 = .ok (.getfield 95, 3) := by decide +kernel
theorem dM_local_25 : decode prog_11_method_17_code 25 = .ok (.iadd, 1) := by decide +kernel
theorem dM_local_26 : decode prog_11_method_17_code 26 = .ok (.ireturn, 1) := by decide +kernel
theorem dM_type_0 : decode prog_11_method_18_code 0 = .ok (.aload_n 0, 1) := by decide +kernel
theorem dM_type_1 : decode prog_11_method_18_code 1 = .ok (.iconst 0, 1) := by decide +kernel
theorem dM_type_2 : decode prog_11_method_18_code 2 = .ok (.putfield 60, 3) := by decide +kernel
theorem dM_type_5 : decode prog_11_method_18_code 5 = .ok (.aload_n 0, 1) := by decide +kernel
theorem dM_type_6 : decode prog_11_method_18_code 6 = .ok (.getfield 112, 3) := by decide +kernel
theorem dM_type_9 : decode prog_11_method_18_code 9 = .ok (.bipush 60, 2) := by decide +kernel
theorem dM_type_11 : decode prog_11_method_18_code 11 = .ok (.if_icmp .ne 5, 3) := by decide +kernel
theorem dM_type_14 : decode prog_11_method_18_code 14 = .ok (.iconst 0, 1) := by decide +kernel
theorem dM_type_15 : decode prog_11_method_18_code 15 = .ok (.ireturn, 1) := by decide +kernel
theorem dM_type_16 : decode prog_11_method_18_code 16 = .ok (.aload_n 0, 1) := by decide +kernel
theorem dM_type_17 : decode prog_11_method_18_code 17 = .ok (.getfield 7, 3) := by decide +kernel
theorem dM_type_20 : decode prog_11_method_18_code 20 = .ok (.aload_n 0, 1) := by decide +kernel
theorem dM_type_21 : decode prog_11_method_18_code 21 = .ok (.getfield 112, 3) := by decide +kernel
theorem dM_type_24 : decode prog_11_method_18_code 24 = .ok (.iload_n 1, 1) := by decide +kernel
theorem dM_type_25 : decode prog_11_method_18_code 25 = .ok (.iastore, 1) := by decide +kernel
theorem dM_type_26 : decode prog_11_method_18_code 26 = .ok (.aload_n 0, 1) := by decide +kernel
theorem dM_type_27 : decode prog_11_method_18_code 27 = .ok (.dup, 1) := by decide +kernel
theorem dM_type_28 : decode prog_11_method_18_code 28 = .ok (.getfield 112, 3) := by decide +kernel
theorem dM_type_31 : decode prog_11_method_18_code 31 = .ok (.iconst 1, 1) := by decide +kernel
theorem dM_type_32 : decode prog_11_method_18_code 32 = .ok (.iadd, 1) := by decide +kernel
theorem dM_type_33 : decode prog_11_method_18_code 33 = .ok (.putfield 112, 3) := by decide +kernel
theorem dM_type_36 : decode prog_11_method_18_code 36 = .ok (.iconst 1, 1) := by decide +kernel
theorem dM_type_37 : decode prog_11_method_18_code 37 = .ok (.ireturn, 1) := by decide +kernel
theorem dM_look_0 : decode prog_11_method_19_code 0 = .ok (.aload_n 0, 1) := by decide +kernel
theorem dM_look_1 : decode prog_11_method_19_code 1 = .ok (.getfield 115, 3) := by decide +kernel
theorem dM_look_4 : decode prog_11_method_19_code 4 = .ok (.aload_n 0, 1) := by decide +kernel
theorem dM_look_5 : decode prog_11_method_19_code 5 = .ok (.getfield 112, 3) := by decide +kernel
theorem dM_look_8 : decode prog_11_method_19_code 8 = .ok (.if_icmp .ge 15, 3) := by decide +kernel
theorem dM_look_11 : decode prog_11_method_19_code 11 = .ok (.aload_n 0, 1) := by decide +kernel
theorem dM_look_12 : decode prog_11_method_19_code 12 = .ok (.getfield 7, 3) := by decide +kernel
theorem dM_look_15 : decode prog_11_method_19_code 15 = .ok (.aload_n 0, 1) := by decide +kernel
theorem dM_look_16 : decode prog_11_method_19_code 16 = .ok (.getfield 115, 3) := by decide +kernel
theorem dM_look_19 : decode prog_11_method_19_code 19 = .ok (.iaload, 1) := by decide +kernel
theorem dM_look_20 : decode prog_11_method_19_code 20 = .ok (.goto 4, 3) := by decide +kernel
theorem dM_look_23 : decode prog_11_method_19_code 23 = .ok (.iconst (-1), 1) := by decide +kernel
theorem dM_look_24 : decode prog_11_method_19_code 24 = .ok (.ireturn, 1) := by decide +kernel
theorem dM_takes_0 : decode prog_11_method_20_code 0 = .ok (.aload_n 0, 1) := by decide +kernel
theorem dM_takes_1 : decode prog_11_method_20_code 1 = .ok (.invokevirtual 118, 3) := by decide +kernel
theorem dM_takes_4 : decode prog_11_method_20_code 4 = .ok (.iload_n 1, 1) := by decide +kernel
theorem dM_takes_5 : decode prog_11_method_20_code 5 = .ok (.if_icmp .ne 7, 3) := by decide +kernel
theorem dM_takes_8 : decode prog_11_method_20_code 8 = .ok (.iconst 1, 1) := by decide +kernel
theorem dM_takes_9 : decode prog_11_method_20_code 9 = .ok (.goto 4, 3) := by decide +kernel
theorem dM_takes_12 : decode prog_11_method_20_code 12 = .ok (.iconst 0, 1) := by decide +kernel
theorem dM_takes_13 : decode prog_11_method_20_code 13 = .ok (.istore_n 2, 1) := by decide +kernel
theorem dM_takes_14 : decode prog_11_method_20_code 14 = .ok (.aload_n 0, 1) := by decide +kernel
theorem dM_takes_15 : decode prog_11_method_20_code 15 = .ok (.iload_n 2, 1) := by decide +kernel
theorem dM_takes_16 : decode prog_11_method_20_code 16 = .ok (.ifCond .eq 12, 3) := by decide +kernel
theorem dM_takes_19 : decode prog_11_method_20_code 19 = .ok (.aload_n 0, 1) := by decide +kernel
theorem dM_takes_20 : decode prog_11_method_20_code 20 = .ok (.getfield 115, 3) := by decide +kernel
theorem dM_takes_23 : decode prog_11_method_20_code 23 = .ok (.iconst 1, 1) := by decide +kernel
theorem dM_takes_24 : decode prog_11_method_20_code 24 = .ok (.iadd, 1) := by decide +kernel
theorem dM_takes_25 : decode prog_11_method_20_code 25 = .ok (.goto 7, 3) := by decide +kernel
theorem dM_takes_28 : decode prog_11_method_20_code 28 = .ok (.aload_n 0, 1) := by decide +kernel
theorem dM_takes_29 : decode prog_11_method_20_code 29 = .ok (.getfield 115, 3) := by decide +kernel
theorem dM_takes_32 : decode prog_11_method_20_code 32 = .ok (.putfield 115, 3) := by decide +kernel
theorem dM_takes_35 : decode prog_11_method_20_code 35 = .ok (.iload_n 2, 1) := by decide +kernel
theorem dM_takes_36 : decode prog_11_method_20_code 36 = .ok (.ireturn, 1) := by decide +kernel
theorem dM_letters_0 : decode prog_11_method_21_code 0 = .ok (.lconst 0, 1) := by decide +kernel
theorem dM_letters_1 : decode prog_11_method_21_code 1 = .ok (.lstore_n 2, 1) := by decide +kernel
theorem dM_letters_2 : decode prog_11_method_21_code 2 = .ok (.iconst 0, 1) := by decide +kernel
theorem dM_letters_3 : decode prog_11_method_21_code 3 = .ok (.istore 4, 2) := by decide +kernel
theorem dM_letters_5 : decode prog_11_method_21_code 5 = .ok (.iload 4, 2) := by decide +kernel
theorem dM_letters_7 : decode prog_11_method_21_code 7 = .ok (.iload_n 1, 1) := by decide +kernel
theorem dM_letters_8 : decode prog_11_method_21_code 8 = .ok (.if_icmp .ge 53, 3) := by decide +kernel
theorem dM_letters_11 : decode prog_11_method_21_code 11 = .ok (.aload_n 0, 1) := by decide +kernel
theorem dM_letters_12 : decode prog_11_method_21_code 12 = .ok (.invokevirtual 118, 3) := by decide +kernel
theorem dM_letters_15 : decode prog_11_method_21_code 15 = .ok (.bipush 65, 2) := by decide +kernel
theorem dM_letters_17 : decode prog_11_method_21_code 17 = .ok (.if_icmp .lt 44, 3) := by decide +kernel
theorem dM_letters_20 : decode prog_11_method_21_code 20 = .ok (.aload_n 0, 1) := by decide +kernel
theorem dM_letters_21 : decode prog_11_method_21_code 21 = .ok (.invokevirtual 118, 3) := by decide +kernel
theorem dM_letters_24 : decode prog_11_method_21_code 24 = .ok (.bipush 90, 2) := by decide +kernel
theorem dM_letters_26 : decode prog_11_method_21_code 26 = .ok (.if_icmp .gt 35, 3) := by decide +kernel
theorem dM_letters_29 : decode prog_11_method_21_code 29 = .ok (.lload_n 2, 1) := by decide +kernel
theorem dM_letters_30 : decode prog_11_method_21_code 30 = .ok (.ldc2_w 122, 3) := by decide +kernel
theorem dM_letters_33 : decode prog_11_method_21_code 33 = .ok (.lmul, 1) := by decide +kernel
theorem dM_letters_34 : decode prog_11_method_21_code 34 = .ok (.aload_n 0, 1) := by decide +kernel
theorem dM_letters_35 : decode prog_11_method_21_code 35 = .ok (.invokevirtual 118, 3) := by decide +kernel
theorem dM_letters_38 : decode prog_11_method_21_code 38 = .ok (.i2l, 1) := by decide +kernel
theorem dM_letters_39 : decode prog_11_method_21_code 39 = .ok (.ladd, 1) := by decide +kernel
theorem dM_letters_40 : decode prog_11_method_21_code 40 = .ok (.ldc2_w 124, 3) := by decide +kernel
theorem dM_letters_43 : decode prog_11_method_21_code 43 = .ok (.lsub, 1) := by decide +kernel
theorem dM_letters_44 : decode prog_11_method_21_code 44 = .ok (.lstore_n 2, 1) := by decide +kernel
theorem dM_letters_45 : decode prog_11_method_21_code 45 = .ok (.aload_n 0, 1) := by decide +kernel
theorem dM_letters_46 : decode prog_11_method_21_code 46 = .ok (.dup, 1) := by decide +kernel
theorem dM_letters_47 : decode prog_11_method_21_code 47 = .ok (.getfield 115, 3) := by decide +kernel
theorem dM_letters_50 : decode prog_11_method_21_code 50 = .ok (.iconst 1, 1) := by decide +kernel
theorem dM_letters_51 : decode prog_11_method_21_code 51 = .ok (.iadd, 1) := by decide +kernel
theorem dM_letters_52 : decode prog_11_method_21_code 52 = .ok (.putfield 115, 3) := by decide +kernel
theorem dM_letters_55 : decode prog_11_method_21_code 55 = .ok (.iinc 4 1, 3) := by decide +kernel
theorem dM_letters_58 : decode prog_11_method_21_code 58 = .ok (.goto (-53), 3) := by decide +kernel
theorem dM_letters_61 : decode prog_11_method_21_code 61 = .ok (.lload_n 2, 1) := by decide +kernel
theorem dM_letters_62 : decode prog_11_method_21_code 62 = .ok (.lreturn, 1) := by decide +kernel
theorem dM_digits_0 : decode prog_11_method_22_code 0 = .ok (.iconst (-1), 1) := by decide +kernel
theorem dM_digits_1 : decode prog_11_method_22_code 1 = .ok (.istore_n 2, 1) := by decide +kernel
theorem dM_digits_2 : decode prog_11_method_22_code 2 = .ok (.iconst 0, 1) := by decide +kernel
theorem dM_digits_3 : decode prog_11_method_22_code 3 = .ok (.istore_n 3, 1) := by decide +kernel
theorem dM_digits_4 : decode prog_11_method_22_code 4 = .ok (.iload_n 3, 1) := by decide +kernel
theorem dM_digits_5 : decode prog_11_method_22_code 5 = .ok (.iload_n 1, 1) := by decide +kernel
theorem dM_digits_6 : decode prog_11_method_22_code 6 = .ok (.if_icmp .ge 58, 3) := by decide +kernel
theorem dM_digits_9 : decode prog_11_method_22_code 9 = .ok (.aload_n 0, 1) := by decide +kernel
theorem dM_digits_10 : decode prog_11_method_22_code 10 = .ok (.invokevirtual 118, 3) := by decide +kernel
theorem dM_digits_13 : decode prog_11_method_22_code 13 = .ok (.bipush 48, 2) := by decide +kernel
theorem dM_digits_15 : decode prog_11_method_22_code 15 = .ok (.if_icmp .lt 49, 3) := by decide +kernel
theorem dM_digits_18 : decode prog_11_method_22_code 18 = .ok (.aload_n 0, 1) := by decide +kernel
theorem dM_digits_19 : decode prog_11_method_22_code 19 = .ok (.invokevirtual 118, 3) := by decide +kernel
theorem dM_digits_22 : decode prog_11_method_22_code 22 = .ok (.bipush 57, 2) := by decide +kernel
theorem dM_digits_24 : decode prog_11_method_22_code 24 = .ok (.if_icmp .gt 40, 3) := by decide +kernel
theorem dM_digits_27 : decode prog_11_method_22_code 27 = .ok (.iload_n 2, 1) := by decide +kernel
theorem dM_digits_28 : decode prog_11_method_22_code 28 = .ok (.ifCond .ge 7, 3) := by decide +kernel
theorem dM_digits_31 : decode prog_11_method_22_code 31 = .ok (.iconst 0, 1) := by decide +kernel
theorem dM_digits_32 : decode prog_11_method_22_code 32 = .ok (.goto 7, 3) := by decide +kernel
theorem dM_digits_35 : decode prog_11_method_22_code 35 = .ok (.bipush 10, 2) := by decide +kernel
theorem dM_digits_37 : decode prog_11_method_22_code 37 = .ok (.iload_n 2, 1) := by decide +kernel
theorem dM_digits_38 : decode prog_11_method_22_code 38 = .ok (.imul, 1) := by decide +kernel
theorem dM_digits_39 : decode prog_11_method_22_code 39 = .ok (.aload_n 0, 1) := by decide +kernel
theorem dM_digits_40 : decode prog_11_method_22_code 40 = .ok (.invokevirtual 118, 3) := by decide +kernel
theorem dM_digits_43 : decode prog_11_method_22_code 43 = .ok (.iadd, 1) := by decide +kernel
theorem dM_digits_44 : decode prog_11_method_22_code 44 = .ok (.bipush 48, 2) := by decide +kernel
theorem dM_digits_46 : decode prog_11_method_22_code 46 = .ok (.isub, 1) := by decide +kernel
theorem dM_digits_47 : decode prog_11_method_22_code 47 = .ok (.istore_n 2, 1) := by decide +kernel
theorem dM_digits_48 : decode prog_11_method_22_code 48 = .ok (.aload_n 0, 1) := by decide +kernel
theorem dM_digits_49 : decode prog_11_method_22_code 49 = .ok (.dup, 1) := by decide +kernel
theorem dM_digits_50 : decode prog_11_method_22_code 50 = .ok (.getfield 115, 3) := by decide +kernel
theorem dM_digits_53 : decode prog_11_method_22_code 53 = .ok (.iconst 1, 1) := by decide +kernel
theorem dM_digits_54 : decode prog_11_method_22_code 54 = .ok (.iadd, 1) := by decide +kernel
theorem dM_digits_55 : decode prog_11_method_22_code 55 = .ok (.putfield 115, 3) := by decide +kernel
theorem dM_digits_58 : decode prog_11_method_22_code 58 = .ok (.iinc 3 1, 3) := by decide +kernel
theorem dM_digits_61 : decode prog_11_method_22_code 61 = .ok (.goto (-57), 3) := by decide +kernel
theorem dM_digits_64 : decode prog_11_method_22_code 64 = .ok (.iload_n 2, 1) := by decide +kernel
theorem dM_digits_65 : decode prog_11_method_22_code 65 = .ok (.ireturn, 1) := by decide +kernel
theorem dM_readFrequency_0 : decode prog_11_method_23_code 0 = .ok (.aload_n 0, 1) := by decide +kernel
theorem dM_readFrequency_1 : decode prog_11_method_23_code 1 = .ok (.bipush 7, 2) := by decide +kernel
theorem dM_readFrequency_3 : decode prog_11_method_23_code 3 = .ok (.invokevirtual 126, 3) := by decide +kernel
theorem dM_readFrequency_6 : decode prog_11_method_23_code 6 = .ok (.lstore_n 1, 1) := by decide +kernel
theorem dM_readFrequency_7 : decode prog_11_method_23_code 7 = .ok (.aload_n 0, 1) := by decide +kernel
theorem dM_readFrequency_8 : decode prog_11_method_23_code 8 = .ok (.lload_n 1, 1) := by decide +kernel
theorem dM_readFrequency_9 : decode prog_11_method_23_code 9 = .ok (.ldc2_w 130, 3) := by decide +kernel
theorem dM_readFrequency_12 : decode prog_11_method_23_code 12 = .ok (.lcmp, 1) := by decide +kernel
theorem dM_readFrequency_13 : decode prog_11_method_23_code 13 = .ok (.ifCond .ne 7, 3) := by decide +kernel
theorem dM_readFrequency_16 : decode prog_11_method_23_code 16 = .ok (.iconst 1, 1) := by decide +kernel
theorem dM_readFrequency_17 : decode prog_11_method_23_code 17 = .ok (.goto 40, 3) := by decide +kernel
theorem dM_readFrequency_20 : decode prog_11_method_23_code 20 = .ok (.lload_n 1, 1) := by decide +kernel
theorem dM_readFrequency_21 : decode prog_11_method_23_code 21 = .ok (.ldc2_w 132, 3) := by decide +kernel
theorem dM_readFrequency_24 : decode prog_11_method_23_code 24 = .ok (.lcmp, 1) := by decide +kernel
theorem dM_readFrequency_25 : decode prog_11_method_23_code 25 = .ok (.ifCond .ne 7, 3) := by decide +kernel
theorem dM_readFrequency_28 : decode prog_11_method_23_code 28 = .ok (.iconst 2, 1) := by decide +kernel
theorem dM_readFrequency_29 : decode prog_11_method_23_code 29 = .ok (.goto 28, 3) := by decide +kernel
theorem dM_readFrequency_32 : decode prog_11_method_23_code 32 = .ok (.lload_n 1, 1) := by decide +kernel
theorem dM_readFrequency_33 : decode prog_11_method_23_code 33 = .ok (.ldc2_w 134, 3) := by decide +kernel
theorem dM_readFrequency_36 : decode prog_11_method_23_code 36 = .ok (.lcmp, 1) := by decide +kernel
theorem dM_readFrequency_37 : decode prog_11_method_23_code 37 = .ok (.ifCond .ne 7, 3) := by decide +kernel
theorem dM_readFrequency_40 : decode prog_11_method_23_code 40 = .ok (.iconst 3, 1) := by decide +kernel
theorem dM_readFrequency_41 : decode prog_11_method_23_code 41 = .ok (.goto 16, 3) := by decide +kernel
theorem dM_readFrequency_44 : decode prog_11_method_23_code 44 = .ok (.lload_n 1, 1) := by decide +kernel
theorem dM_readFrequency_45 : decode prog_11_method_23_code 45 = .ok (.ldc2_w 136, 3) := by decide +kernel
theorem dM_readFrequency_48 : decode prog_11_method_23_code 48 = .ok (.lcmp, 1) := by decide +kernel
theorem dM_readFrequency_49 : decode prog_11_method_23_code 49 = .ok (.ifCond .ne 7, 3) := by decide +kernel
theorem dM_readFrequency_52 : decode prog_11_method_23_code 52 = .ok (.iconst 4, 1) := by decide +kernel
theorem dM_readFrequency_53 : decode prog_11_method_23_code 53 = .ok (.goto 4, 3) := by decide +kernel
theorem dM_readFrequency_56 : decode prog_11_method_23_code 56 = .ok (.iconst 0, 1) := by decide +kernel
theorem dM_readFrequency_57 : decode prog_11_method_23_code 57 = .ok (.putfield 138, 3) := by decide +kernel
theorem dM_readFrequency_60 : decode prog_11_method_23_code 60 = .ok (.aload_n 0, 1) := by decide +kernel
theorem dM_readFrequency_61 : decode prog_11_method_23_code 61 = .ok (.getfield 138, 3) := by decide +kernel
theorem dM_readFrequency_64 : decode prog_11_method_23_code 64 = .ok (.ifCond .le 7, 3) := by decide +kernel
theorem dM_readFrequency_67 : decode prog_11_method_23_code 67 = .ok (.iconst 1, 1) := by decide +kernel
theorem dM_readFrequency_68 : decode prog_11_method_23_code 68 = .ok (.goto 4, 3) := by decide +kernel
theorem dM_readFrequency_71 : decode prog_11_method_23_code 71 = .ok (.iconst 0, 1) := by decide +kernel
theorem dM_readFrequency_72 : decode prog_11_method_23_code 72 = .ok (.ireturn, 1) := by decide +kernel
