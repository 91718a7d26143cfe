/-! Decoded instructions. -/
theorem dQ_readRule_0 : decode prog_6_method_2_code 0 = .ok (.aload_n 0, 1) := by decide +kernel
theorem dQ_readRule_1 : decode prog_6_method_2_code 1 = .ok (.getfield 15, 3) := by decide +kernel
theorem dQ_readRule_4 : decode prog_6_method_2_code 4 = .ok (.ifCond .ne 23, 3) := by decide +kernel
theorem dQ_readRule_7 : decode prog_6_method_2_code 7 = .ok (.aload_n 0, 1) := by decide +kernel
theorem dQ_readRule_8 : decode prog_6_method_2_code 8 = .ok (.getfield 25, 3) := by decide +kernel
theorem dQ_readRule_11 : decode prog_6_method_2_code 11 = .ok (.getstatic 29, 3) := by decide +kernel
theorem dQ_readRule_14 : decode prog_6_method_2_code 14 = .ok (.putfield 35, 3) := by decide +kernel
theorem dQ_readRule_17 : decode prog_6_method_2_code 17 = .ok (.aload_n 0, 1) := by decide +kernel
theorem dQ_readRule_18 : decode prog_6_method_2_code 18 = .ok (.getfield 25, 3) := by decide +kernel
theorem dQ_readRule_21 : decode prog_6_method_2_code 21 = .ok (.iconst 1, 1) := by decide +kernel
theorem dQ_readRule_22 : decode prog_6_method_2_code 22 = .ok (.putfield 38, 3) := by decide +kernel
theorem dQ_readRule_25 : decode prog_6_method_2_code 25 = .ok (.iconst 1, 1) := by decide +kernel
theorem dQ_readRule_26 : decode prog_6_method_2_code 26 = .ok (.ireturn, 1) := by decide +kernel
theorem dQ_readRule_27 : decode prog_6_method_2_code 27 = .ok (.iconst 0, 1) := by decide +kernel
theorem dQ_readRule_28 : decode prog_6_method_2_code 28 = .ok (.istore_n 1, 1) := by decide +kernel
theorem dQ_readRule_29 : decode prog_6_method_2_code 29 = .ok (.iload_n 1, 1) := by decide +kernel
theorem dQ_readRule_30 : decode prog_6_method_2_code 30 = .ok (.bipush 7, 2) := by decide +kernel
theorem dQ_readRule_32 : decode prog_6_method_2_code 32 = .ok (.if_icmp .ge 48, 3) := by decide +kernel
theorem dQ_readRule_35 : decode prog_6_method_2_code 35 = .ok (.aload_n 0, 1) := by decide +kernel
theorem dQ_readRule_36 : decode prog_6_method_2_code 36 = .ok (.invokevirtual 41, 3) := by decide +kernel
theorem dQ_readRule_39 : decode prog_6_method_2_code 39 = .ok (.ifCond .ne 5, 3) := by decide +kernel
theorem dQ_readRule_42 : decode prog_6_method_2_code 42 = .ok (.iconst 0, 1) := by decide +kernel
theorem dQ_readRule_43 : decode prog_6_method_2_code 43 = .ok (.ireturn, 1) := by decide +kernel
theorem dQ_readRule_44 : decode prog_6_method_2_code 44 = .ok (.aload_n 0, 1) := by decide +kernel
theorem dQ_readRule_45 : decode prog_6_method_2_code 45 = .ok (.getfield 19, 3) := by decide +kernel
theorem dQ_readRule_48 : decode prog_6_method_2_code 48 = .ok (.aload_n 0, 1) := by decide +kernel
theorem dQ_readRule_49 : decode prog_6_method_2_code 49 = .ok (.getfield 15, 3) := by decide +kernel
theorem dQ_readRule_52 : decode prog_6_method_2_code 52 = .ok (.if_icmp .lt 11, 3) := by decide +kernel
theorem dQ_readRule_55 : decode prog_6_method_2_code 55 = .ok (.aload_n 0, 1) := by decide +kernel
theorem dQ_readRule_56 : decode prog_6_method_2_code 56 = .ok (.getfield 25, 3) := by decide +kernel
theorem dQ_readRule_59 : decode prog_6_method_2_code 59 = .ok (.invokevirtual 45, 3) := by decide +kernel
theorem dQ_readRule_62 : decode prog_6_method_2_code 62 = .ok (.ireturn, 1) := by decide +kernel
theorem dQ_readRule_63 : decode prog_6_method_2_code 63 = .ok (.aload_n 0, 1) := by decide +kernel
theorem dQ_readRule_64 : decode prog_6_method_2_code 64 = .ok (.bipush 59, 2) := by decide +kernel
theorem dQ_readRule_66 : decode prog_6_method_2_code 66 = .ok (.invokevirtual 48, 3) := by decide +kernel
theorem dQ_readRule_69 : decode prog_6_method_2_code 69 = .ok (.ifCond .ne 5, 3) := by decide +kernel
theorem dQ_readRule_72 : decode prog_6_method_2_code 72 = .ok (.iconst 0, 1) := by decide +kernel
theorem dQ_readRule_73 : decode prog_6_method_2_code 73 = .ok (.ireturn, 1) := by decide +kernel
theorem dQ_readRule_74 : decode prog_6_method_2_code 74 = .ok (.iinc 1 1, 3) := by decide +kernel
theorem dQ_readRule_77 : decode prog_6_method_2_code 77 = .ok (.goto (-48), 3) := by decide +kernel
theorem dQ_readRule_80 : decode prog_6_method_2_code 80 = .ok (.iconst 0, 1) := by decide +kernel
theorem dQ_readRule_81 : decode prog_6_method_2_code 81 = .ok (.ireturn, 1) := by decide +kernel
theorem dD_monthOf_0 : decode prog_2_method_5_code 0 = .ok (.bipush 12, 2) := by decide +kernel
theorem dD_monthOf_2 : decode prog_2_method_5_code 2 = .ok (.iload_n 0, 1) := by decide +kernel
theorem dD_monthOf_3 : decode prog_2_method_5_code 3 = .ok (.invokestatic 21, 3) := by decide +kernel
theorem dD_monthOf_6 : decode prog_2_method_5_code 6 = .ok (.imul, 1) := by decide +kernel
theorem dD_monthOf_7 : decode prog_2_method_5_code 7 = .ok (.istore_n 1, 1) := by decide +kernel
theorem dD_monthOf_8 : decode prog_2_method_5_code 8 = .ok (.iload_n 1, 1) := by decide +kernel
theorem dD_monthOf_9 : decode prog_2_method_5_code 9 = .ok (.iload_n 0, 1) := by decide +kernel
theorem dD_monthOf_10 : decode prog_2_method_5_code 10 = .ok (.iload_n 1, 1) := by decide +kernel
theorem dD_monthOf_11 : decode prog_2_method_5_code 11 = .ok (.invokestatic 25, 3) := by decide +kernel
theorem dD_monthOf_14 : decode prog_2_method_5_code 14 = .ok (.isub, 1) := by decide +kernel
theorem dD_monthOf_15 : decode prog_2_method_5_code 15 = .ok (.bipush 31, 2) := by decide +kernel
theorem dD_monthOf_17 : decode prog_2_method_5_code 17 = .ok (.idiv, 1) := by decide +kernel
theorem dD_monthOf_18 : decode prog_2_method_5_code 18 = .ok (.iadd, 1) := by decide +kernel
theorem dD_monthOf_19 : decode prog_2_method_5_code 19 = .ok (.istore_n 2, 1) := by decide +kernel
theorem dD_monthOf_20 : decode prog_2_method_5_code 20 = .ok (.iload_n 2, 1) := by decide +kernel
theorem dD_monthOf_21 : decode prog_2_method_5_code 21 = .ok (.iconst 1, 1) := by decide +kernel
theorem dD_monthOf_22 : decode prog_2_method_5_code 22 = .ok (.iadd, 1) := by decide +kernel
theorem dD_monthOf_23 : decode prog_2_method_5_code 23 = .ok (.invokestatic 25, 3) := by decide +kernel
theorem dD_monthOf_26 : decode prog_2_method_5_code 26 = .ok (.iload_n 0, 1) := by decide +kernel
theorem dD_monthOf_27 : decode prog_2_method_5_code 27 = .ok (.if_icmp .gt 9, 3) := by decide +kernel
theorem dD_monthOf_30 : decode prog_2_method_5_code 30 = .ok (.iload_n 2, 1) := by decide +kernel
theorem dD_monthOf_31 : decode prog_2_method_5_code 31 = .ok (.iconst 1, 1) := by decide +kernel
theorem dD_monthOf_32 : decode prog_2_method_5_code 32 = .ok (.iadd, 1) := by decide +kernel
theorem dD_monthOf_33 : decode prog_2_method_5_code 33 = .ok (.goto 4, 3) := by decide +kernel
theorem dD_monthOf_36 : decode prog_2_method_5_code 36 = .ok (.iload_n 2, 1) := by decide +kernel
theorem dD_monthOf_37 : decode prog_2_method_5_code 37 = .ok (.ireturn, 1) := by decide +kernel
theorem dU_init_0 : decode prog_8_method_1_code 0 = .ok (.aload_n 0, 1) := by decide +kernel
theorem dU_init_1 : decode prog_8_method_1_code 1 = .ok (.invokespecial 3, 3) := by decide +kernel
theorem dU_init_4 : decode prog_8_method_1_code 4 = .ok (.aload_n 0, 1) := by decide +kernel
theorem dU_init_5 : decode prog_8_method_1_code 5 = .ok (.aload_n 1, 1) := by decide +kernel
theorem dU_init_6 : decode prog_8_method_1_code 6 = .ok (.putfield 9, 3) := by decide +kernel
theorem dU_init_9 : decode prog_8_method_1_code 9 = .ok (.aload_n 0, 1) := by decide +kernel
theorem dU_init_10 : decode prog_8_method_1_code 10 = .ok (.iload_n 2, 1) := by decide +kernel
theorem dU_init_11 : decode prog_8_method_1_code 11 = .ok (.putfield 15, 3) := by decide +kernel
theorem dU_init_14 : decode prog_8_method_1_code 14 = .ok (.aload_n 0, 1) := by decide +kernel
theorem dU_init_15 : decode prog_8_method_1_code 15 = .ok (.aload_n 3, 1) := by decide +kernel
theorem dU_init_16 : decode prog_8_method_1_code 16 = .ok (.putfield 19, 3) := by decide +kernel
theorem dU_init_19 : decode prog_8_method_1_code 19 = .ok (.aload_n 0, 1) := by decide +kernel
theorem dU_init_20 : decode prog_8_method_1_code 20 = .ok (.iload_n 2, 1) := by decide +kernel
theorem dU_init_21 : decode prog_8_method_1_code 21 = .ok (.invokestatic 23, 3) := by decide +kernel
theorem dU_init_24 : decode prog_8_method_1_code 24 = .ok (.putfield 29, 3) := by decide +kernel
theorem dU_init_27 : decode prog_8_method_1_code 27 = .ok (.aload_n 0, 1) := by decide +kernel
theorem dU_init_28 : decode prog_8_method_1_code 28 = .ok (.iload_n 2, 1) := by decide +kernel
theorem dU_init_29 : decode prog_8_method_1_code 29 = .ok (.aload_n 0, 1) := by decide +kernel
theorem dU_init_30 : decode prog_8_method_1_code 30 = .ok (.getfield 29, 3) := by decide +kernel
theorem dU_init_33 : decode prog_8_method_1_code 33 = .ok (.invokestatic 32, 3) := by decide +kernel
theorem dU_init_36 : decode prog_8_method_1_code 36 = .ok (.isub, 1) := by decide +kernel
theorem dU_init_37 : decode prog_8_method_1_code 37 = .ok (.iconst 1, 1) := by decide +kernel
theorem dU_init_38 : decode prog_8_method_1_code 38 = .ok (.iadd, 1) := by decide +kernel
theorem dU_init_39 : decode prog_8_method_1_code 39 = .ok (.putfield 35, 3) := by decide +kernel
theorem dU_init_42 : decode prog_8_method_1_code 42 = .ok (.aload_n 0, 1) := by decide +kernel
theorem dU_init_43 : decode prog_8_method_1_code 43 = .ok (.iload_n 2, 1) := by decide +kernel
theorem dU_init_44 : decode prog_8_method_1_code 44 = .ok (.invokestatic 38, 3) := by decide +kernel
theorem dU_init_47 : decode prog_8_method_1_code 47 = .ok (.putfield 41, 3) := by decide +kernel
theorem dU_init_50 : decode prog_8_method_1_code 50 = .ok (.aload_n 0, 1) := by decide +kernel
theorem dU_init_51 : decode prog_8_method_1_code 51 = .ok (.iconst 1, 1) := by decide +kernel
theorem dU_init_52 : decode prog_8_method_1_code 52 = .ok (.aload_n 1, 1) := by decide +kernel
theorem dU_init_53 : decode prog_8_method_1_code 53 = .ok (.getfield 44, 3) := by decide +kernel
theorem dU_init_56 : decode prog_8_method_1_code 56 = .ok (.invokestatic 49, 3) := by decide +kernel
theorem dU_init_59 : decode prog_8_method_1_code 59 = .ok (.putfield 55, 3) := by decide +kernel
theorem dU_init_62 : decode prog_8_method_1_code 62 = .ok (.aload_n 0, 1) := by decide +kernel
theorem dU_init_63 : decode prog_8_method_1_code 63 = .ok (.aload_n 3, 1) := by decide +kernel
theorem dU_init_64 : decode prog_8_method_1_code 64 = .ok (.arraylength, 1) := by decide +kernel
theorem dU_init_65 : decode prog_8_method_1_code 65 = .ok (.aload_n 1, 1) := by decide +kernel
theorem dU_init_66 : decode prog_8_method_1_code 66 = .ok (.getfield 56, 3) := by decide +kernel
theorem dU_init_69 : decode prog_8_method_1_code 69 = .ok (.ifCond .ne 9, 3) := by decide +kernel
theorem dU_init_72 : decode prog_8_method_1_code 72 = .ok (.sipush 200, 3) := by decide +kernel
theorem dU_init_75 : decode prog_8_method_1_code 75 = .ok (.goto 7, 3) := by decide +kernel
theorem dU_init_78 : decode prog_8_method_1_code 78 = .ok (.aload_n 1, 1) := by decide +kernel
theorem dU_init_79 : decode prog_8_method_1_code 79 = .ok (.getfield 56, 3) := by decide +kernel
theorem dU_init_82 : decode prog_8_method_1_code 82 = .ok (.invokestatic 59, 3) := by decide +kernel
theorem dU_init_85 : decode prog_8_method_1_code 85 = .ok (.putfield 62, 3) := by decide +kernel
theorem dU_init_88 : decode prog_8_method_1_code 88 = .ok (.aload_n 0, 1) := by decide +kernel
theorem dU_init_89 : decode prog_8_method_1_code 89 = .ok (.iconst 0, 1) := by decide +kernel
theorem dU_init_90 : decode prog_8_method_1_code 90 = .ok (.putfield 65, 3) := by decide +kernel
theorem dU_init_93 : decode prog_8_method_1_code 93 = .ok (.return_, 1) := by decide +kernel
theorem dR_allowsMonth_0 : decode prog_5_method_8_code 0 = .ok (.aload_n 0, 1) := by decide +kernel
theorem dR_allowsMonth_1 : decode prog_5_method_8_code 1 = .ok (.getfield 40, 3) := by decide +kernel
theorem dR_allowsMonth_4 : decode prog_5_method_8_code 4 = .ok (.ifCond .eq 19, 3) := by decide +kernel
theorem dR_allowsMonth_7 : decode prog_5_method_8_code 7 = .ok (.aload_n 0, 1) := by decide +kernel
theorem dR_allowsMonth_8 : decode prog_5_method_8_code 8 = .ok (.getfield 40, 3) := by decide +kernel
theorem dR_allowsMonth_11 : decode prog_5_method_8_code 11 = .ok (.iconst 1, 1) := by decide +kernel
theorem dR_allowsMonth_12 : decode prog_5_method_8_code 12 = .ok (.iload_n 1, 1) := by decide +kernel
theorem dR_allowsMonth_13 : decode prog_5_method_8_code 13 = .ok (.bipush 12, 2) := by decide +kernel
theorem dR_allowsMonth_15 : decode prog_5_method_8_code 15 = .ok (.irem, 1) := by decide +kernel
theorem dR_allowsMonth_16 : decode prog_5_method_8_code 16 = .ok (.iconst 1, 1) := by decide +kernel
theorem dR_allowsMonth_17 : decode prog_5_method_8_code 17 = .ok (.iadd, 1) := by decide +kernel
theorem dR_allowsMonth_18 : decode prog_5_method_8_code 18 = .ok (.ishl, 1) := by decide +kernel
theorem dR_allowsMonth_19 : decode prog_5_method_8_code 19 = .ok (.iand, 1) := by decide +kernel
theorem dR_allowsMonth_20 : decode prog_5_method_8_code 20 = .ok (.ifCond .eq 7, 3) := by decide +kernel
theorem dR_allowsMonth_23 : decode prog_5_method_8_code 23 = .ok (.iconst 1, 1) := by decide +kernel
theorem dR_allowsMonth_24 : decode prog_5_method_8_code 24 = .ok (.goto 4, 3) := by decide +kernel
theorem dR_allowsMonth_27 : decode prog_5_method_8_code 27 = .ok (.iconst 0, 1) := by decide +kernel
theorem dR_allowsMonth_28 : decode prog_5_method_8_code 28 = .ok (.ireturn, 1) := by decide +kernel
theorem dU_enterMonth_0 : decode prog_8_method_8_code 0 = .ok (.aload_n 0, 1) := by decide +kernel
theorem dU_enterMonth_1 : decode prog_8_method_8_code 1 = .ok (.iload_n 1, 1) := by decide +kernel
theorem dU_enterMonth_2 : decode prog_8_method_8_code 2 = .ok (.invokestatic 32, 3) := by decide +kernel
theorem dU_enterMonth_5 : decode prog_8_method_8_code 5 = .ok (.putfield 133, 3) := by decide +kernel
theorem dU_enterMonth_8 : decode prog_8_method_8_code 8 = .ok (.aload_n 0, 1) := by decide +kernel
theorem dU_enterMonth_9 : decode prog_8_method_8_code 9 = .ok (.iload_n 1, 1) := by decide +kernel
theorem dU_enterMonth_10 : decode prog_8_method_8_code 10 = .ok (.iconst 1, 1) := by decide +kernel
theorem dU_enterMonth_11 : decode prog_8_method_8_code 11 = .ok (.iadd, 1) := by decide +kernel
theorem dU_enterMonth_12 : decode prog_8_method_8_code 12 = .ok (.invokestatic 32, 3) := by decide +kernel
theorem dU_enterMonth_15 : decode prog_8_method_8_code 15 = .ok (.aload_n 0, 1) := by decide +kernel
theorem dU_enterMonth_16 : decode prog_8_method_8_code 16 = .ok (.getfield 133, 3) := by decide +kernel
theorem dU_enterMonth_19 : decode prog_8_method_8_code 19 = .ok (.isub, 1) := by decide +kernel
theorem dU_enterMonth_20 : decode prog_8_method_8_code 20 = .ok (.putfield 130, 3) := by decide +kernel
theorem dU_enterMonth_23 : decode prog_8_method_8_code 23 = .ok (.aload_n 0, 1) := by decide +kernel
theorem dU_enterMonth_24 : decode prog_8_method_8_code 24 = .ok (.aload_n 0, 1) := by decide +kernel
theorem dU_enterMonth_25 : decode prog_8_method_8_code 25 = .ok (.getfield 9, 3) := by decide +kernel
theorem dU_enterMonth_28 : decode prog_8_method_8_code 28 = .ok (.iload_n 1, 1) := by decide +kernel
theorem dU_enterMonth_29 : decode prog_8_method_8_code 29 = .ok (.invokevirtual 135, 3) := by decide +kernel
theorem dU_enterMonth_32 : decode prog_8_method_8_code 32 = .ok (.putfield 103, 3) := by decide +kernel
theorem dU_enterMonth_35 : decode prog_8_method_8_code 35 = .ok (.return_, 1) := by decide +kernel
theorem dU_followMonth_0 : decode prog_8_method_9_code 0 = .ok (.iload_n 1, 1) := by decide +kernel
theorem dU_followMonth_1 : decode prog_8_method_9_code 1 = .ok (.aload_n 0, 1) := by decide +kernel
theorem dU_followMonth_2 : decode prog_8_method_9_code 2 = .ok (.getfield 133, 3) := by decide +kernel
theorem dU_followMonth_5 : decode prog_8_method_9_code 5 = .ok (.aload_n 0, 1) := by decide +kernel
theorem dU_followMonth_6 : decode prog_8_method_9_code 6 = .ok (.getfield 130, 3) := by decide +kernel
theorem dU_followMonth_9 : decode prog_8_method_9_code 9 = .ok (.iadd, 1) := by decide +kernel
theorem dU_followMonth_10 : decode prog_8_method_9_code 10 = .ok (.if_icmp .lt 11, 3) := by decide +kernel
theorem dU_followMonth_13 : decode prog_8_method_9_code 13 = .ok (.aload_n 0, 1) := by decide +kernel
theorem dU_followMonth_14 : decode prog_8_method_9_code 14 = .ok (.iload_n 1, 1) := by decide +kernel
theorem dU_followMonth_15 : decode prog_8_method_9_code 15 = .ok (.invokestatic 23, 3) := by decide +kernel
theorem dU_followMonth_18 : decode prog_8_method_9_code 18 = .ok (.invokevirtual 66, 3) := by decide +kernel
theorem dU_followMonth_21 : decode prog_8_method_9_code 21 = .ok (.return_, 1) := by decide +kernel
theorem dR_allowsNumber_0 : decode prog_5_method_9_code 0 = .ok (.aload_n 0, 1) := by decide +kernel
theorem dR_allowsNumber_1 : decode prog_5_method_9_code 1 = .ok (.invokevirtual 43, 3) := by decide +kernel
theorem dR_allowsNumber_4 : decode prog_5_method_9_code 4 = .ok (.ifCond .ne 5, 3) := by decide +kernel
theorem dR_allowsNumber_7 : decode prog_5_method_9_code 7 = .ok (.iconst 1, 1) := by decide +kernel
theorem dR_allowsNumber_8 : decode prog_5_method_9_code 8 = .ok (.ireturn, 1) := by decide +kernel
theorem dR_allowsNumber_9 : decode prog_5_method_9_code 9 = .ok (.iload_n 2, 1) := by decide +kernel
theorem dR_allowsNumber_10 : decode prog_5_method_9_code 10 = .ok (.iload_n 1, 1) := by decide +kernel
theorem dR_allowsNumber_11 : decode prog_5_method_9_code 11 = .ok (.isub, 1) := by decide +kernel
theorem dR_allowsNumber_12 : decode prog_5_method_9_code 12 = .ok (.iconst 1, 1) := by decide +kernel
theorem dR_allowsNumber_13 : decode prog_5_method_9_code 13 = .ok (.iadd, 1) := by decide +kernel
theorem dR_allowsNumber_14 : decode prog_5_method_9_code 14 = .ok (.istore_n 3, 1) := by decide +kernel
theorem dR_allowsNumber_15 : decode prog_5_method_9_code 15 = .ok (.aload_n 0, 1) := by decide +kernel
theorem dR_allowsNumber_16 : decode prog_5_method_9_code 16 = .ok (.getfield 23, 3) := by decide +kernel
theorem dR_allowsNumber_19 : decode prog_5_method_9_code 19 = .ok (.iconst 1, 1) := by decide +kernel
theorem dR_allowsNumber_20 : decode prog_5_method_9_code 20 = .ok (.iload_n 1, 1) := by decide +kernel
theorem dR_allowsNumber_21 : decode prog_5_method_9_code 21 = .ok (.ishl, 1) := by decide +kernel
theorem dR_allowsNumber_22 : decode prog_5_method_9_code 22 = .ok (.iand, 1) := by decide +kernel
theorem dR_allowsNumber_23 : decode prog_5_method_9_code 23 = .ok (.ifCond .ne 14, 3) := by decide +kernel
theorem dR_allowsNumber_26 : decode prog_5_method_9_code 26 = .ok (.aload_n 0, 1) := by decide +kernel
theorem dR_allowsNumber_27 : decode prog_5_method_9_code 27 = .ok (.getfield 20, 3) := by decide +kernel
theorem dR_allowsNumber_30 : decode prog_5_method_9_code 30 = .ok (.iconst 1, 1) := by decide +kernel
theorem dR_allowsNumber_31 : decode prog_5_method_9_code 31 = .ok (.iload_n 3, 1) := by decide +kernel
theorem dR_allowsNumber_32 : decode prog_5_method_9_code 32 = .ok (.ishl, 1) := by decide +kernel
theorem dR_allowsNumber_33 : decode prog_5_method_9_code 33 = .ok (.iand, 1) := by decide +kernel
theorem dR_allowsNumber_34 : decode prog_5_method_9_code 34 = .ok (.ifCond .eq 7, 3) := by decide +kernel
theorem dR_allowsNumber_37 : decode prog_5_method_9_code 37 = .ok (.iconst 1, 1) := by decide +kernel
theorem dR_allowsNumber_38 : decode prog_5_method_9_code 38 = .ok (.goto 4, 3) := by decide +kernel
theorem dR_allowsNumber_41 : decode prog_5_method_9_code 41 = .ok (.iconst 0, 1) := by decide +kernel
theorem dR_allowsNumber_42 : decode prog_5_method_9_code 42 = .ok (.ireturn, 1) := by decide +kernel
theorem dR_allowsWeekday_0 : decode prog_5_method_10_code 0 = .ok (.aload_n 0, 1) := by decide +kernel
theorem dR_allowsWeekday_1 : decode prog_5_method_10_code 1 = .ok (.invokevirtual 47, 3) := by decide +kernel
theorem dR_allowsWeekday_4 : decode prog_5_method_10_code 4 = .ok (.ifCond .eq 14, 3) := by decide +kernel
theorem dR_allowsWeekday_7 : decode prog_5_method_10_code 7 = .ok (.aload_n 0, 1) := by decide +kernel
theorem dR_allowsWeekday_8 : decode prog_5_method_10_code 8 = .ok (.getfield 26, 3) := by decide +kernel
theorem dR_allowsWeekday_11 : decode prog_5_method_10_code 11 = .ok (.iconst 1, 1) := by decide +kernel
theorem dR_allowsWeekday_12 : decode prog_5_method_10_code 12 = .ok (.iload_n 1, 1) := by decide +kernel
theorem dR_allowsWeekday_13 : decode prog_5_method_10_code 13 = .ok (.ishl, 1) := by decide +kernel
theorem dR_allowsWeekday_14 : decode prog_5_method_10_code 14 = .ok (.iand, 1) := by decide +kernel
theorem dR_allowsWeekday_15 : decode prog_5_method_10_code 15 = .ok (.ifCond .eq 5, 3) := by decide +kernel
theorem dR_allowsWeekday_18 : decode prog_5_method_10_code 18 = .ok (.iconst 1, 1) := by decide +kernel
theorem dR_allowsWeekday_19 : decode prog_5_method_10_code 19 = .ok (.ireturn, 1) := by decide +kernel
theorem dR_allowsWeekday_20 : decode prog_5_method_10_code 20 = .ok (.iload_n 2, 1) := by decide +kernel
theorem dR_allowsWeekday_21 : decode prog_5_method_10_code 21 = .ok (.iconst 1, 1) := by decide +kernel
theorem dR_allowsWeekday_22 : decode prog_5_method_10_code 22 = .ok (.isub, 1) := by decide +kernel
theorem dR_allowsWeekday_23 : decode prog_5_method_10_code 23 = .ok (.bipush 7, 2) := by decide +kernel
theorem dR_allowsWeekday_25 : decode prog_5_method_10_code 25 = .ok (.idiv, 1) := by decide +kernel
theorem dR_allowsWeekday_26 : decode prog_5_method_10_code 26 = .ok (.iconst 1, 1) := by decide +kernel
theorem dR_allowsWeekday_27 : decode prog_5_method_10_code 27 = .ok (.iadd, 1) := by decide +kernel
theorem dR_allowsWeekday_28 : decode prog_5_method_10_code 28 = .ok (.istore 4, 2) := by decide +kernel
theorem dR_allowsWeekday_30 : decode prog_5_method_10_code 30 = .ok (.iload_n 3, 1) := by decide +kernel
theorem dR_allowsWeekday_31 : decode prog_5_method_10_code 31 = .ok (.iload_n 2, 1) := by decide +kernel
theorem dR_allowsWeekday_32 : decode prog_5_method_10_code 32 = .ok (.isub, 1) := by decide +kernel
theorem dR_allowsWeekday_33 : decode prog_5_method_10_code 33 = .ok (.bipush 7, 2) := by decide +kernel
theorem dR_allowsWeekday_35 : decode prog_5_method_10_code 35 = .ok (.idiv, 1) := by decide +kernel
theorem dR_allowsWeekday_36 : decode prog_5_method_10_code 36 = .ok (.iconst 1, 1) := by decide +kernel
theorem dR_allowsWeekday_37 : decode prog_5_method_10_code 37 = .ok (.iadd, 1) := by decide +kernel
theorem dR_allowsWeekday_38 : decode prog_5_method_10_code 38 = .ok (.istore 5, 2) := by decide +kernel
theorem dR_allowsWeekday_40 : decode prog_5_method_10_code 40 = .ok (.aload_n 0, 1) := by decide +kernel
theorem dR_allowsWeekday_41 : decode prog_5_method_10_code 41 = .ok (.getfield 37, 3) := by decide +kernel
theorem dR_allowsWeekday_44 : decode prog_5_method_10_code 44 = .ok (.iload_n 1, 1) := by decide +kernel
theorem dR_allowsWeekday_45 : decode prog_5_method_10_code 45 = .ok (.iload 4, 2) := by decide +kernel
theorem dR_allowsWeekday_47 : decode prog_5_method_10_code 47 = .ok (.invokestatic 33, 3) := by decide +kernel
theorem dR_allowsWeekday_50 : decode prog_5_method_10_code 50 = .ok (.land, 1) := by decide +kernel
theorem dR_allowsWeekday_51 : decode prog_5_method_10_code 51 = .ok (.lconst 0, 1) := by decide +kernel
theorem dR_allowsWeekday_52 : decode prog_5_method_10_code 52 = .ok (.lcmp, 1) := by decide +kernel
theorem dR_allowsWeekday_53 : decode prog_5_method_10_code 53 = .ok (.ifCond .ne 19, 3) := by decide +kernel
theorem dR_allowsWeekday_56 : decode prog_5_method_10_code 56 = .ok (.aload_n 0, 1) := by decide +kernel
theorem dR_allowsWeekday_57 : decode prog_5_method_10_code 57 = .ok (.getfield 29, 3) := by decide +kernel
theorem dR_allowsWeekday_60 : decode prog_5_method_10_code 60 = .ok (.iload_n 1, 1) := by decide +kernel
theorem dR_allowsWeekday_61 : decode prog_5_method_10_code 61 = .ok (.iload 5, 2) := by decide +kernel
theorem dR_allowsWeekday_63 : decode prog_5_method_10_code 63 = .ok (.invokestatic 33, 3) := by decide +kernel
theorem dR_allowsWeekday_66 : decode prog_5_method_10_code 66 = .ok (.land, 1) := by decide +kernel
theorem dR_allowsWeekday_67 : decode prog_5_method_10_code 67 = .ok (.lconst 0, 1) := by decide +kernel
theorem dR_allowsWeekday_68 : decode prog_5_method_10_code 68 = .ok (.lcmp, 1) := by decide +kernel
theorem dR_allowsWeekday_69 : decode prog_5_method_10_code 69 = .ok (.ifCond .eq 7, 3) := by decide +kernel
theorem dR_allowsWeekday_72 : decode prog_5_method_10_code 72 = .ok (.iconst 1, 1) := by decide +kernel
theorem dR_allowsWeekday_73 : decode prog_5_method_10_code 73 = .ok (.goto 4, 3) := by decide +kernel
theorem dR_allowsWeekday_76 : decode prog_5_method_10_code 76 = .ok (.iconst 0, 1) := by decide +kernel
theorem dR_allowsWeekday_77 : decode prog_5_method_10_code 77 = .ok (.ireturn, 1) := by decide +kernel
theorem dU_isMeantInMonth_0 : decode prog_8_method_10_code 0 = .ok (.iload_n 1, 1) := by decide +kernel
theorem dU_isMeantInMonth_1 : decode prog_8_method_10_code 1 = .ok (.aload_n 0, 1) := by decide +kernel
theorem dU_isMeantInMonth_2 : decode prog_8_method_10_code 2 = .ok (.getfield 133, 3) := by decide +kernel
theorem dU_isMeantInMonth_5 : decode prog_8_method_10_code 5 = .ok (.isub, 1) := by decide +kernel
theorem dU_isMeantInMonth_6 : decode prog_8_method_10_code 6 = .ok (.iconst 1, 1) := by decide +kernel
theorem dU_isMeantInMonth_7 : decode prog_8_method_10_code 7 = .ok (.iadd, 1) := by decide +kernel
theorem dU_isMeantInMonth_8 : decode prog_8_method_10_code 8 = .ok (.istore_n 2, 1) := by decide +kernel
theorem dU_isMeantInMonth_9 : decode prog_8_method_10_code 9 = .ok (.aload_n 0, 1) := by decide +kernel
theorem dU_isMeantInMonth_10 : decode prog_8_method_10_code 10 = .ok (.getfield 9, 3) := by decide +kernel
theorem dU_isMeantInMonth_13 : decode prog_8_method_10_code 13 = .ok (.iload_n 2, 1) := by decide +kernel
theorem dU_isMeantInMonth_14 : decode prog_8_method_10_code 14 = .ok (.aload_n 0, 1) := by decide +kernel
theorem dU_isMeantInMonth_15 : decode prog_8_method_10_code 15 = .ok (.getfield 130, 3) := by decide +kernel
theorem dU_isMeantInMonth_18 : decode prog_8_method_10_code 18 = .ok (.invokevirtual 138, 3) := by decide +kernel
theorem dU_isMeantInMonth_21 : decode prog_8_method_10_code 21 = .ok (.ifCond .eq 26, 3) := by decide +kernel
theorem dU_isMeantInMonth_24 : decode prog_8_method_10_code 24 = .ok (.aload_n 0, 1) := by decide +kernel
theorem dU_isMeantInMonth_25 : decode prog_8_method_10_code 25 = .ok (.getfield 9, 3) := by decide +kernel
theorem dU_isMeantInMonth_28 : decode prog_8_method_10_code 28 = .ok (.iload_n 1, 1) := by decide +kernel
theorem dU_isMeantInMonth_29 : decode prog_8_method_10_code 29 = .ok (.invokestatic 38, 3) := by decide +kernel
theorem dU_isMeantInMonth_32 : decode prog_8_method_10_code 32 = .ok (.iload_n 2, 1) := by decide +kernel
theorem dU_isMeantInMonth_33 : decode prog_8_method_10_code 33 = .ok (.aload_n 0, 1) := by decide +kernel
theorem dU_isMeantInMonth_34 : decode prog_8_method_10_code 34 = .ok (.getfield 130, 3) := by decide +kernel
theorem dU_isMeantInMonth_37 : decode prog_8_method_10_code 37 = .ok (.invokevirtual 142, 3) := by decide +kernel
theorem dU_isMeantInMonth_40 : decode prog_8_method_10_code 40 = .ok (.ifCond .eq 7, 3) := by decide +kernel
theorem dU_isMeantInMonth_43 : decode prog_8_method_10_code 43 = .ok (.iconst 1, 1) := by decide +kernel
theorem dU_isMeantInMonth_44 : decode prog_8_method_10_code 44 = .ok (.goto 4, 3) := by decide +kernel
theorem dU_isMeantInMonth_47 : decode prog_8_method_10_code 47 = .ok (.iconst 0, 1) := by decide +kernel
theorem dU_isMeantInMonth_48 : decode prog_8_method_10_code 48 = .ok (.ireturn, 1) := by decide +kernel
theorem dU_add_0 : decode prog_8_method_11_code 0 = .ok (.iload_n 1, 1) := by decide +kernel
theorem dU_add_1 : decode prog_8_method_11_code 1 = .ok (.aload_n 0, 1) := by decide +kernel
theorem dU_add_2 : decode prog_8_method_11_code 2 = .ok (.getfield 15, 3) := by decide +kernel
theorem dU_add_5 : decode prog_8_method_11_code 5 = .ok (.if_icmp .lt 45, 3) := by decide +kernel
theorem dU_add_8 : decode prog_8_method_11_code 8 = .ok (.iload_n 1, 1) := by decide +kernel
theorem dU_add_9 : decode prog_8_method_11_code 9 = .ok (.aload_n 0, 1) := by decide +kernel
theorem dU_add_10 : decode prog_8_method_11_code 10 = .ok (.getfield 9, 3) := by decide +kernel
theorem dU_add_13 : decode prog_8_method_11_code 13 = .ok (.getfield 97, 3) := by decide +kernel
theorem dU_add_16 : decode prog_8_method_11_code 16 = .ok (.if_icmp .gt 34, 3) := by decide +kernel
theorem dU_add_19 : decode prog_8_method_11_code 19 = .ok (.aload_n 0, 1) := by decide +kernel
theorem dU_add_20 : decode prog_8_method_11_code 20 = .ok (.getfield 65, 3) := by decide +kernel
theorem dU_add_23 : decode prog_8_method_11_code 23 = .ok (.aload_n 0, 1) := by decide +kernel
theorem dU_add_24 : decode prog_8_method_11_code 24 = .ok (.getfield 62, 3) := by decide +kernel
theorem dU_add_27 : decode prog_8_method_11_code 27 = .ok (.if_icmp .ge 23, 3) := by decide +kernel
theorem dU_add_30 : decode prog_8_method_11_code 30 = .ok (.aload_n 0, 1) := by decide +kernel
theorem dU_add_31 : decode prog_8_method_11_code 31 = .ok (.getfield 19, 3) := by decide +kernel
theorem dU_add_34 : decode prog_8_method_11_code 34 = .ok (.aload_n 0, 1) := by decide +kernel
theorem dU_add_35 : decode prog_8_method_11_code 35 = .ok (.getfield 65, 3) := by decide +kernel
theorem dU_add_38 : decode prog_8_method_11_code 38 = .ok (.iload_n 1, 1) := by decide +kernel
theorem dU_add_39 : decode prog_8_method_11_code 39 = .ok (.iastore, 1) := by decide +kernel
theorem dU_add_40 : decode prog_8_method_11_code 40 = .ok (.aload_n 0, 1) := by decide +kernel
theorem dU_add_41 : decode prog_8_method_11_code 41 = .ok (.dup, 1) := by decide +kernel
theorem dU_add_42 : decode prog_8_method_11_code 42 = .ok (.getfield 65, 3) := by decide +kernel
theorem dU_add_45 : decode prog_8_method_11_code 45 = .ok (.iconst 1, 1) := by decide +kernel
theorem dU_add_46 : decode prog_8_method_11_code 46 = .ok (.iadd, 1) := by decide +kernel
theorem dU_add_47 : decode prog_8_method_11_code 47 = .ok (.putfield 65, 3) := by decide +kernel
theorem dU_add_50 : decode prog_8_method_11_code 50 = .ok (.return_, 1) := by decide +kernel
theorem dU_addDays_0 : decode prog_8_method_3_code 0 = .ok (.aload_n 0, 1) := by decide +kernel
theorem dU_addDays_1 : decode prog_8_method_3_code 1 = .ok (.getfield 15, 3) := by decide +kernel
theorem dU_addDays_4 : decode prog_8_method_3_code 4 = .ok (.istore_n 1, 1) := by decide +kernel
theorem dU_addDays_5 : decode prog_8_method_3_code 5 = .ok (.iload_n 1, 1) := by decide +kernel
theorem dU_addDays_6 : decode prog_8_method_3_code 6 = .ok (.aload_n 0, 1) := by decide +kernel
theorem dU_addDays_7 : decode prog_8_method_3_code 7 = .ok (.getfield 9, 3) := by decide +kernel
theorem dU_addDays_10 : decode prog_8_method_3_code 10 = .ok (.getfield 97, 3) := by decide +kernel
theorem dU_addDays_13 : decode prog_8_method_3_code 13 = .ok (.if_icmp .gt 49, 3) := by decide +kernel
theorem dU_addDays_16 : decode prog_8_method_3_code 16 = .ok (.aload_n 0, 1) := by decide +kernel
theorem dU_addDays_17 : decode prog_8_method_3_code 17 = .ok (.getfield 65, 3) := by decide +kernel
theorem dU_addDays_20 : decode prog_8_method_3_code 20 = .ok (.aload_n 0, 1) := by decide +kernel
theorem dU_addDays_21 : decode prog_8_method_3_code 21 = .ok (.getfield 62, 3) := by decide +kernel
theorem dU_addDays_24 : decode prog_8_method_3_code 24 = .ok (.if_icmp .ge 38, 3) := by decide +kernel
theorem dU_addDays_27 : decode prog_8_method_3_code 27 = .ok (.aload_n 0, 1) := by decide +kernel
theorem dU_addDays_28 : decode prog_8_method_3_code 28 = .ok (.iload_n 1, 1) := by decide +kernel
theorem dU_addDays_29 : decode prog_8_method_3_code 29 = .ok (.invokevirtual 100, 3) := by decide +kernel
theorem dU_addDays_32 : decode prog_8_method_3_code 32 = .ok (.aload_n 0, 1) := by decide +kernel
theorem dU_addDays_33 : decode prog_8_method_3_code 33 = .ok (.getfield 103, 3) := by decide +kernel
theorem dU_addDays_36 : decode prog_8_method_3_code 36 = .ok (.ifCond .eq 16, 3) := by decide +kernel
theorem dU_addDays_39 : decode prog_8_method_3_code 39 = .ok (.aload_n 0, 1) := by decide +kernel
theorem dU_addDays_40 : decode prog_8_method_3_code 40 = .ok (.iload_n 1, 1) := by decide +kernel
theorem dU_addDays_41 : decode prog_8_method_3_code 41 = .ok (.invokevirtual 107, 3) := by decide +kernel
theorem dU_addDays_44 : decode prog_8_method_3_code 44 = .ok (.ifCond .eq 8, 3) := by decide +kernel
theorem dU_addDays_47 : decode prog_8_method_3_code 47 = .ok (.aload_n 0, 1) := by decide +kernel
theorem dU_addDays_48 : decode prog_8_method_3_code 48 = .ok (.iload_n 1, 1) := by decide +kernel
theorem dU_addDays_49 : decode prog_8_method_3_code 49 = .ok (.invokevirtual 111, 3) := by decide +kernel
theorem dU_addDays_52 : decode prog_8_method_3_code 52 = .ok (.iload_n 1, 1) := by decide +kernel
theorem dU_addDays_53 : decode prog_8_method_3_code 53 = .ok (.aload_n 0, 1) := by decide +kernel
theorem dU_addDays_54 : decode prog_8_method_3_code 54 = .ok (.getfield 55, 3) := by decide +kernel
theorem dU_addDays_57 : decode prog_8_method_3_code 57 = .ok (.iadd, 1) := by decide +kernel
theorem dU_addDays_58 : decode prog_8_method_3_code 58 = .ok (.istore_n 1, 1) := by decide +kernel
theorem dU_addDays_59 : decode prog_8_method_3_code 59 = .ok (.goto (-54), 3) := by decide +kernel
theorem dU_addDays_62 : decode prog_8_method_3_code 62 = .ok (.return_, 1) := by decide +kernel
theorem dU_addWeeks_0 : decode prog_8_method_4_code 0 = .ok (.aload_n 0, 1) := by decide +kernel
theorem dU_addWeeks_1 : decode prog_8_method_4_code 1 = .ok (.getfield 9, 3) := by decide +kernel
theorem dU_addWeeks_4 : decode prog_8_method_4_code 4 = .ok (.getfield 114, 3) := by decide +kernel
theorem dU_addWeeks_7 : decode prog_8_method_4_code 7 = .ok (.ifCond .eq 13, 3) := by decide +kernel
theorem dU_addWeeks_10 : decode prog_8_method_4_code 10 = .ok (.aload_n 0, 1) := by decide +kernel
theorem dU_addWeeks_11 : decode prog_8_method_4_code 11 = .ok (.getfield 9, 3) := by decide +kernel
theorem dU_addWeeks_14 : decode prog_8_method_4_code 14 = .ok (.getfield 114, 3) := by decide +kernel
theorem dU_addWeeks_17 : decode prog_8_method_4_code 17 = .ok (.goto 9, 3) := by decide +kernel
theorem dU_addWeeks_20 : decode prog_8_method_4_code 20 = .ok (.iconst 1, 1) := by decide +kernel
theorem dU_addWeeks_21 : decode prog_8_method_4_code 21 = .ok (.aload_n 0, 1) := by decide +kernel
theorem dU_addWeeks_22 : decode prog_8_method_4_code 22 = .ok (.getfield 41, 3) := by decide +kernel
theorem dU_addWeeks_25 : decode prog_8_method_4_code 25 = .ok (.ishl, 1) := by decide +kernel
theorem dU_addWeeks_26 : decode prog_8_method_4_code 26 = .ok (.istore_n 1, 1) := by decide +kernel
theorem dU_addWeeks_27 : decode prog_8_method_4_code 27 = .ok (.aload_n 0, 1) := by decide +kernel
theorem dU_addWeeks_28 : decode prog_8_method_4_code 28 = .ok (.getfield 15, 3) := by decide +kernel
theorem dU_addWeeks_31 : decode prog_8_method_4_code 31 = .ok (.aload_n 0, 1) := by decide +kernel
theorem dU_addWeeks_32 : decode prog_8_method_4_code 32 = .ok (.getfield 41, 3) := by decide +kernel
theorem dU_addWeeks_35 : decode prog_8_method_4_code 35 = .ok (.isub, 1) := by decide +kernel
theorem dU_addWeeks_36 : decode prog_8_method_4_code 36 = .ok (.istore_n 2, 1) := by decide +kernel
theorem dU_addWeeks_37 : decode prog_8_method_4_code 37 = .ok (.iload_n 2, 1) := by decide +kernel
theorem dU_addWeeks_38 : decode prog_8_method_4_code 38 = .ok (.aload_n 0, 1) := by decide +kernel
theorem dU_addWeeks_39 : decode prog_8_method_4_code 39 = .ok (.getfield 9, 3) := by decide +kernel
theorem dU_addWeeks_42 : decode prog_8_method_4_code 42 = .ok (.getfield 97, 3) := by decide +kernel
theorem dU_addWeeks_45 : decode prog_8_method_4_code 45 = .ok (.if_icmp .gt 70, 3) := by decide +kernel
theorem dU_addWeeks_48 : decode prog_8_method_4_code 48 = .ok (.aload_n 0, 1) := by decide +kernel
theorem dU_addWeeks_49 : decode prog_8_method_4_code 49 = .ok (.getfield 65, 3) := by decide +kernel
theorem dU_addWeeks_52 : decode prog_8_method_4_code 52 = .ok (.aload_n 0, 1) := by decide +kernel
theorem dU_addWeeks_53 : decode prog_8_method_4_code 53 = .ok (.getfield 62, 3) := by decide +kernel
theorem dU_addWeeks_56 : decode prog_8_method_4_code 56 = .ok (.if_icmp .ge 59, 3) := by decide +kernel
theorem dU_addWeeks_59 : decode prog_8_method_4_code 59 = .ok (.iconst 0, 1) := by decide +kernel
theorem dU_addWeeks_60 : decode prog_8_method_4_code 60 = .ok (.istore_n 3, 1) := by decide +kernel
theorem dU_addWeeks_61 : decode prog_8_method_4_code 61 = .ok (.iload_n 3, 1) := by decide +kernel
theorem dU_addWeeks_62 : decode prog_8_method_4_code 62 = .ok (.bipush 7, 2) := by decide +kernel
theorem dU_addWeeks_64 : decode prog_8_method_4_code 64 = .ok (.if_icmp .ge 38, 3) := by decide +kernel
theorem dU_addWeeks_67 : decode prog_8_method_4_code 67 = .ok (.aload_n 0, 1) := by decide +kernel
theorem dU_addWeeks_68 : decode prog_8_method_4_code 68 = .ok (.iload_n 2, 1) := by decide +kernel
theorem dU_addWeeks_69 : decode prog_8_method_4_code 69 = .ok (.iload_n 3, 1) := by decide +kernel
theorem dU_addWeeks_70 : decode prog_8_method_4_code 70 = .ok (.iadd, 1) := by decide +kernel
theorem dU_addWeeks_71 : decode prog_8_method_4_code 71 = .ok (.invokevirtual 100, 3) := by decide +kernel
theorem dU_addWeeks_74 : decode prog_8_method_4_code 74 = .ok (.aload_n 0, 1) := by decide +kernel
theorem dU_addWeeks_75 : decode prog_8_method_4_code 75 = .ok (.getfield 103, 3) := by decide +kernel
theorem dU_addWeeks_78 : decode prog_8_method_4_code 78 = .ok (.ifCond .eq 18, 3) := by decide +kernel
theorem dU_addWeeks_81 : decode prog_8_method_4_code 81 = .ok (.iload_n 1, 1) := by decide +kernel
theorem dU_addWeeks_82 : decode prog_8_method_4_code 82 = .ok (.iconst 1, 1) := by decide +kernel
theorem dU_addWeeks_83 : decode prog_8_method_4_code 83 = .ok (.iload_n 3, 1) := by decide +kernel
theorem dU_addWeeks_84 : decode prog_8_method_4_code 84 = .ok (.ishl, 1) := by decide +kernel
theorem dU_addWeeks_85 : decode prog_8_method_4_code 85 = .ok (.iand, 1) := by decide +kernel
theorem dU_addWeeks_86 : decode prog_8_method_4_code 86 = .ok (.ifCond .eq 10, 3) := by decide +kernel
theorem dU_addWeeks_89 : decode prog_8_method_4_code 89 = .ok (.aload_n 0, 1) := by decide +kernel
theorem dU_addWeeks_90 : decode prog_8_method_4_code 90 = .ok (.iload_n 2, 1) := by decide +kernel
theorem dU_addWeeks_91 : decode prog_8_method_4_code 91 = .ok (.iload_n 3, 1) := by decide +kernel
theorem dU_addWeeks_92 : decode prog_8_method_4_code 92 = .ok (.iadd, 1) := by decide +kernel
theorem dU_addWeeks_93 : decode prog_8_method_4_code 93 = .ok (.invokevirtual 111, 3) := by decide +kernel
theorem dU_addWeeks_96 : decode prog_8_method_4_code 96 = .ok (.iinc 3 1, 3) := by decide +kernel
theorem dU_addWeeks_99 : decode prog_8_method_4_code 99 = .ok (.goto (-38), 3) := by decide +kernel
theorem dU_addWeeks_102 : decode prog_8_method_4_code 102 = .ok (.iload_n 2, 1) := by decide +kernel
theorem dU_addWeeks_103 : decode prog_8_method_4_code 103 = .ok (.bipush 7, 2) := by decide +kernel
theorem dU_addWeeks_105 : decode prog_8_method_4_code 105 = .ok (.aload_n 0, 1) := by decide +kernel
theorem dU_addWeeks_106 : decode prog_8_method_4_code 106 = .ok (.getfield 55, 3) := by decide +kernel
theorem dU_addWeeks_109 : decode prog_8_method_4_code 109 = .ok (.imul, 1) := by decide +kernel
theorem dU_addWeeks_110 : decode prog_8_method_4_code 110 = .ok (.iadd, 1) := by decide +kernel
theorem dU_addWeeks_111 : decode prog_8_method_4_code 111 = .ok (.istore_n 2, 1) := by decide +kernel
theorem dU_addWeeks_112 : decode prog_8_method_4_code 112 = .ok (.goto (-75), 3) := by decide +kernel
theorem dU_addWeeks_115 : decode prog_8_method_4_code 115 = .ok (.return_, 1) := by decide +kernel
theorem dU_addMonth_0 : decode prog_8_method_7_code 0 = .ok (.aload_n 0, 1) := by decide +kernel
theorem dU_addMonth_1 : decode prog_8_method_7_code 1 = .ok (.iload_n 1, 1) := by decide +kernel
theorem dU_addMonth_2 : decode prog_8_method_7_code 2 = .ok (.invokevirtual 66, 3) := by decide +kernel
theorem dU_addMonth_5 : decode prog_8_method_7_code 5 = .ok (.aload_n 0, 1) := by decide +kernel
theorem dU_addMonth_6 : decode prog_8_method_7_code 6 = .ok (.getfield 103, 3) := by decide +kernel
theorem dU_addMonth_9 : decode prog_8_method_7_code 9 = .ok (.ifCond .ne 4, 3) := by decide +kernel
theorem dU_addMonth_12 : decode prog_8_method_7_code 12 = .ok (.return_, 1) := by decide +kernel
theorem dU_addMonth_13 : decode prog_8_method_7_code 13 = .ok (.aload_n 0, 1) := by decide +kernel
theorem dU_addMonth_14 : decode prog_8_method_7_code 14 = .ok (.getfield 9, 3) := by decide +kernel
theorem dU_addMonth_17 : decode prog_8_method_7_code 17 = .ok (.invokevirtual 123, 3) := by decide +kernel
theorem dU_addMonth_20 : decode prog_8_method_7_code 20 = .ok (.ifCond .ne 17, 3) := by decide +kernel
theorem dU_addMonth_23 : decode prog_8_method_7_code 23 = .ok (.aload_n 0, 1) := by decide +kernel
theorem dU_addMonth_24 : decode prog_8_method_7_code 24 = .ok (.getfield 9, 3) := by decide +kernel
theorem dU_addMonth_27 : decode prog_8_method_7_code 27 = .ok (.invokevirtual 127, 3) := by decide +kernel
theorem dU_addMonth_30 : decode prog_8_method_7_code 30 = .ok (.ifCond .ne 7, 3) := by decide +kernel
theorem dU_addMonth_33 : decode prog_8_method_7_code 33 = .ok (.iconst 1, 1) := by decide +kernel
theorem dU_addMonth_34 : decode prog_8_method_7_code 34 = .ok (.goto 4, 3) := by decide +kernel
theorem dU_addMonth_37 : decode prog_8_method_7_code 37 = .ok (.iconst 0, 1) := by decide +kernel
theorem dU_addMonth_38 : decode prog_8_method_7_code 38 = .ok (.istore_n 2, 1) := by decide +kernel
theorem dU_addMonth_39 : decode prog_8_method_7_code 39 = .ok (.iconst 1, 1) := by decide +kernel
theorem dU_addMonth_40 : decode prog_8_method_7_code 40 = .ok (.istore_n 3, 1) := by decide +kernel
theorem dU_addMonth_41 : decode prog_8_method_7_code 41 = .ok (.iload_n 3, 1) := by decide +kernel
theorem dU_addMonth_42 : decode prog_8_method_7_code 42 = .ok (.aload_n 0, 1) := by decide +kernel
theorem dU_addMonth_43 : decode prog_8_method_7_code 43 = .ok (.getfield 130, 3) := by decide +kernel
theorem dU_addMonth_46 : decode prog_8_method_7_code 46 = .ok (.if_icmp .gt 49, 3) := by decide +kernel
theorem dU_addMonth_49 : decode prog_8_method_7_code 49 = .ok (.aload_n 0, 1) := by decide +kernel
theorem dU_addMonth_50 : decode prog_8_method_7_code 50 = .ok (.getfield 133, 3) := by decide +kernel
theorem dU_addMonth_53 : decode prog_8_method_7_code 53 = .ok (.iload_n 3, 1) := by decide +kernel
theorem dU_addMonth_54 : decode prog_8_method_7_code 54 = .ok (.iadd, 1) := by decide +kernel
theorem dU_addMonth_55 : decode prog_8_method_7_code 55 = .ok (.iconst 1, 1) := by decide +kernel
theorem dU_addMonth_56 : decode prog_8_method_7_code 56 = .ok (.isub, 1) := by decide +kernel
theorem dU_addMonth_57 : decode prog_8_method_7_code 57 = .ok (.istore 4, 2) := by decide +kernel
theorem dU_addMonth_59 : decode prog_8_method_7_code 59 = .ok (.iload_n 2, 1) := by decide +kernel
theorem dU_addMonth_60 : decode prog_8_method_7_code 60 = .ok (.ifCond .eq 14, 3) := by decide +kernel
theorem dU_addMonth_63 : decode prog_8_method_7_code 63 = .ok (.iload_n 3, 1) := by decide +kernel
theorem dU_addMonth_64 : decode prog_8_method_7_code 64 = .ok (.aload_n 0, 1) := by decide +kernel
theorem dU_addMonth_65 : decode prog_8_method_7_code 65 = .ok (.getfield 35, 3) := by decide +kernel
theorem dU_addMonth_68 : decode prog_8_method_7_code 68 = .ok (.if_icmp .ne 21, 3) := by decide +kernel
theorem dU_addMonth_71 : decode prog_8_method_7_code 71 = .ok (.goto 12, 3) := by decide +kernel
theorem dU_addMonth_74 : decode prog_8_method_7_code 74 = .ok (.aload_n 0, 1) := by decide +kernel
theorem dU_addMonth_75 : decode prog_8_method_7_code 75 = .ok (.iload 4, 2) := by decide +kernel
theorem dU_addMonth_77 : decode prog_8_method_7_code 77 = .ok (.invokevirtual 107, 3) := by decide +kernel
theorem dU_addMonth_80 : decode prog_8_method_7_code 80 = .ok (.ifCond .eq 9, 3) := by decide +kernel
theorem dU_addMonth_83 : decode prog_8_method_7_code 83 = .ok (.aload_n 0, 1) := by decide +kernel
theorem dU_addMonth_84 : decode prog_8_method_7_code 84 = .ok (.iload 4, 2) := by decide +kernel
theorem dU_addMonth_86 : decode prog_8_method_7_code 86 = .ok (.invokevirtual 111, 3) := by decide +kernel
theorem dU_addMonth_89 : decode prog_8_method_7_code 89 = .ok (.iinc 3 1, 3) := by decide +kernel
theorem dU_addMonth_92 : decode prog_8_method_7_code 92 = .ok (.goto (-51), 3) := by decide +kernel
theorem dU_addMonth_95 : decode prog_8_method_7_code 95 = .ok (.return_, 1) := by decide +kernel
