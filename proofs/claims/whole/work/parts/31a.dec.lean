/-! Decoded instructions. -/
theorem dL_times_0 : decode method_6_code 0 = .ok (.aload_n 2, 1) := by decide +kernel
theorem dL_times_1 : decode method_6_code 1 = .ok (.iconst 0, 1) := by decide +kernel
theorem dL_times_2 : decode method_6_code 2 = .ok (.aload_n 0, 1) := by decide +kernel
theorem dL_times_3 : decode method_6_code 3 = .ok (.iload_n 1, 1) := by decide +kernel
theorem dL_times_4 : decode method_6_code 4 = .ok (.invokevirtual 27, 3) := by decide +kernel
theorem dL_times_7 : decode method_6_code 7 = .ok (.i2l, 1) := by decide +kernel
theorem dL_times_8 : decode method_6_code 8 = .ok (.lastore, 1) := by decide +kernel
theorem dL_times_9 : decode method_6_code 9 = .ok (.goto 6, 3) := by decide +kernel
theorem dL_times_12 : decode method_6_code 12 = .ok (.astore_n 3, 1) := by decide +kernel
theorem dL_times_13 : decode method_6_code 13 = .ok (.iconst 1, 1) := by decide +kernel
theorem dL_times_14 : decode method_6_code 14 = .ok (.ireturn, 1) := by decide +kernel
theorem dL_times_15 : decode method_6_code 15 = .ok (.iconst 0, 1) := by decide +kernel
theorem dL_times_16 : decode method_6_code 16 = .ok (.ireturn, 1) := by decide +kernel
theorem dL_day_0 : decode method_7_code 0 = .ok (.aload_n 3, 1) := by decide +kernel
theorem dL_day_1 : decode method_7_code 1 = .ok (.iconst 0, 1) := by decide +kernel
theorem dL_day_2 : decode method_7_code 2 = .ok (.aload_n 0, 1) := by decide +kernel
theorem dL_day_3 : decode method_7_code 3 = .ok (.iload_n 1, 1) := by decide +kernel
theorem dL_day_4 : decode method_7_code 4 = .ok (.iload_n 2, 1) := by decide +kernel
theorem dL_day_5 : decode method_7_code 5 = .ok (.invokevirtual 31, 3) := by decide +kernel
theorem dL_day_8 : decode method_7_code 8 = .ok (.i2l, 1) := by decide +kernel
theorem dL_day_9 : decode method_7_code 9 = .ok (.lastore, 1) := by decide +kernel
theorem dL_day_10 : decode method_7_code 10 = .ok (.goto 7, 3) := by decide +kernel
theorem dL_day_13 : decode method_7_code 13 = .ok (.astore 4, 2) := by decide +kernel
theorem dL_day_15 : decode method_7_code 15 = .ok (.iconst 1, 1) := by decide +kernel
theorem dL_day_16 : decode method_7_code 16 = .ok (.ireturn, 1) := by decide +kernel
theorem dL_day_17 : decode method_7_code 17 = .ok (.iconst 0, 1) := by decide +kernel
theorem dL_day_18 : decode method_7_code 18 = .ok (.ireturn, 1) := by decide +kernel
theorem dL_moment_0 : decode method_8_code 0 = .ok (.aload_n 3, 1) := by decide +kernel
theorem dL_moment_1 : decode method_8_code 1 = .ok (.iconst 0, 1) := by decide +kernel
theorem dL_moment_2 : decode method_8_code 2 = .ok (.aload_n 0, 1) := by decide +kernel
theorem dL_moment_3 : decode method_8_code 3 = .ok (.iload_n 1, 1) := by decide +kernel
theorem dL_moment_4 : decode method_8_code 4 = .ok (.iload_n 2, 1) := by decide +kernel
theorem dL_moment_5 : decode method_8_code 5 = .ok (.invokevirtual 35, 3) := by decide +kernel
theorem dL_moment_8 : decode method_8_code 8 = .ok (.i2l, 1) := by decide +kernel
theorem dL_moment_9 : decode method_8_code 9 = .ok (.lastore, 1) := by decide +kernel
theorem dL_moment_10 : decode method_8_code 10 = .ok (.goto 7, 3) := by decide +kernel
theorem dL_moment_13 : decode method_8_code 13 = .ok (.astore 4, 2) := by decide +kernel
theorem dL_moment_15 : decode method_8_code 15 = .ok (.iconst 1, 1) := by decide +kernel
theorem dL_moment_16 : decode method_8_code 16 = .ok (.ireturn, 1) := by decide +kernel
theorem dL_moment_17 : decode method_8_code 17 = .ok (.iconst 0, 1) := by decide +kernel
theorem dL_moment_18 : decode method_8_code 18 = .ok (.ireturn, 1) := by decide +kernel
theorem dL_busy_0 : decode method_9_code 0 = .ok (.aload_n 3, 1) := by decide +kernel
theorem dL_busy_1 : decode method_9_code 1 = .ok (.iconst 0, 1) := by decide +kernel
theorem dL_busy_2 : decode method_9_code 2 = .ok (.aload_n 0, 1) := by decide +kernel
theorem dL_busy_3 : decode method_9_code 3 = .ok (.iload_n 1, 1) := by decide +kernel
theorem dL_busy_4 : decode method_9_code 4 = .ok (.iload_n 2, 1) := by decide +kernel
theorem dL_busy_5 : decode method_9_code 5 = .ok (.invokevirtual 38, 3) := by decide +kernel
theorem dL_busy_8 : decode method_9_code 8 = .ok (.i2l, 1) := by decide +kernel
theorem dL_busy_9 : decode method_9_code 9 = .ok (.lastore, 1) := by decide +kernel
theorem dL_busy_10 : decode method_9_code 10 = .ok (.goto 7, 3) := by decide +kernel
theorem dL_busy_13 : decode method_9_code 13 = .ok (.astore 4, 2) := by decide +kernel
theorem dL_busy_15 : decode method_9_code 15 = .ok (.iconst 1, 1) := by decide +kernel
theorem dL_busy_16 : decode method_9_code 16 = .ok (.ireturn, 1) := by decide +kernel
theorem dL_busy_17 : decode method_9_code 17 = .ok (.iconst 0, 1) := by decide +kernel
theorem dL_busy_18 : decode method_9_code 18 = .ok (.ireturn, 1) := by decide +kernel
theorem dL_span_0 : decode method_10_code 0 = .ok (.aload_n 3, 1) := by decide +kernel
theorem dL_span_1 : decode method_10_code 1 = .ok (.iconst 0, 1) := by decide +kernel
theorem dL_span_2 : decode method_10_code 2 = .ok (.aload_n 0, 1) := by decide +kernel
theorem dL_span_3 : decode method_10_code 3 = .ok (.iload_n 1, 1) := by decide +kernel
theorem dL_span_4 : decode method_10_code 4 = .ok (.iload_n 2, 1) := by decide +kernel
theorem dL_span_5 : decode method_10_code 5 = .ok (.invokevirtual 41, 3) := by decide +kernel
theorem dL_span_8 : decode method_10_code 8 = .ok (.i2l, 1) := by decide +kernel
theorem dL_span_9 : decode method_10_code 9 = .ok (.lastore, 1) := by decide +kernel
theorem dL_span_10 : decode method_10_code 10 = .ok (.goto 7, 3) := by decide +kernel
theorem dL_span_13 : decode method_10_code 13 = .ok (.astore 4, 2) := by decide +kernel
theorem dL_span_15 : decode method_10_code 15 = .ok (.iconst 1, 1) := by decide +kernel
theorem dL_span_16 : decode method_10_code 16 = .ok (.ireturn, 1) := by decide +kernel
theorem dL_span_17 : decode method_10_code 17 = .ok (.iconst 0, 1) := by decide +kernel
theorem dL_span_18 : decode method_10_code 18 = .ok (.ireturn, 1) := by decide +kernel
theorem dL_clash_0 : decode method_11_code 0 = .ok (.aload_n 3, 1) := by decide +kernel
theorem dL_clash_1 : decode method_11_code 1 = .ok (.iconst 0, 1) := by decide +kernel
theorem dL_clash_2 : decode method_11_code 2 = .ok (.aload_n 0, 1) := by decide +kernel
theorem dL_clash_3 : decode method_11_code 3 = .ok (.iload_n 1, 1) := by decide +kernel
theorem dL_clash_4 : decode method_11_code 4 = .ok (.iload_n 2, 1) := by decide +kernel
theorem dL_clash_5 : decode method_11_code 5 = .ok (.invokevirtual 45, 3) := by decide +kernel
theorem dL_clash_8 : decode method_11_code 8 = .ok (.i2l, 1) := by decide +kernel
theorem dL_clash_9 : decode method_11_code 9 = .ok (.lastore, 1) := by decide +kernel
theorem dL_clash_10 : decode method_11_code 10 = .ok (.goto 7, 3) := by decide +kernel
theorem dL_clash_13 : decode method_11_code 13 = .ok (.astore 4, 2) := by decide +kernel
theorem dL_clash_15 : decode method_11_code 15 = .ok (.iconst 1, 1) := by decide +kernel
theorem dL_clash_16 : decode method_11_code 16 = .ok (.ireturn, 1) := by decide +kernel
theorem dL_clash_17 : decode method_11_code 17 = .ok (.iconst 0, 1) := by decide +kernel
theorem dL_clash_18 : decode method_11_code 18 = .ok (.ireturn, 1) := by decide +kernel
