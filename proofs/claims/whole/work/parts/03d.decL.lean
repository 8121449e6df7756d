theorem dL_addJob_0 : decode cL_addJob 0 = .ok (.aload 4, 2) := by decide +kernel
theorem dL_addJob_2 : decode cL_addJob 2 = .ok (.iconst 0, 1) := by decide +kernel
theorem dL_addJob_3 : decode cL_addJob 3 = .ok (.aload_n 0, 1) := by decide +kernel
theorem dL_addJob_4 : decode cL_addJob 4 = .ok (.iload_n 1, 1) := by decide +kernel
theorem dL_addJob_5 : decode cL_addJob 5 = .ok (.iload_n 2, 1) := by decide +kernel
theorem dL_addJob_6 : decode cL_addJob 6 = .ok (.iload_n 3, 1) := by decide +kernel
theorem dL_addJob_7 : decode cL_addJob 7 = .ok (.invokevirtual 7, 3) := by decide +kernel
theorem dL_addJob_10 : decode cL_addJob 10 = .ok (.i2l, 1) := by decide +kernel
theorem dL_addJob_11 : decode cL_addJob 11 = .ok (.lastore, 1) := by decide +kernel
theorem dL_addJob_12 : decode cL_addJob 12 = .ok (.goto 11, 3) := by decide +kernel
theorem dL_addJob_15 : decode cL_addJob 15 = .ok (.astore 5, 2) := by decide +kernel
theorem dL_addJob_17 : decode cL_addJob 17 = .ok (.iconst 1, 1) := by decide +kernel
theorem dL_addJob_18 : decode cL_addJob 18 = .ok (.ireturn, 1) := by decide +kernel
theorem dL_addJob_19 : decode cL_addJob 19 = .ok (.astore 5, 2) := by decide +kernel
theorem dL_addJob_21 : decode cL_addJob 21 = .ok (.iconst 2, 1) := by decide +kernel
theorem dL_addJob_22 : decode cL_addJob 22 = .ok (.ireturn, 1) := by decide +kernel
theorem dL_addJob_23 : decode cL_addJob 23 = .ok (.iconst 0, 1) := by decide +kernel
theorem dL_addJob_24 : decode cL_addJob 24 = .ok (.ireturn, 1) := by decide +kernel
theorem dL_addOperation_0 : decode cL_addOperation 0 = .ok (.aload 5, 2) := by decide +kernel
theorem dL_addOperation_2 : decode cL_addOperation 2 = .ok (.iconst 0, 1) := by decide +kernel
theorem dL_addOperation_3 : decode cL_addOperation 3 = .ok (.aload_n 0, 1) := by decide +kernel
theorem dL_addOperation_4 : decode cL_addOperation 4 = .ok (.iload_n 1, 1) := by decide +kernel
theorem dL_addOperation_5 : decode cL_addOperation 5 = .ok (.iload_n 2, 1) := by decide +kernel
theorem dL_addOperation_6 : decode cL_addOperation 6 = .ok (.iload_n 3, 1) := by decide +kernel
theorem dL_addOperation_7 : decode cL_addOperation 7 = .ok (.iload 4, 2) := by decide +kernel
theorem dL_addOperation_9 : decode cL_addOperation 9 = .ok (.invokevirtual 17, 3) := by decide +kernel
theorem dL_addOperation_12 : decode cL_addOperation 12 = .ok (.i2l, 1) := by decide +kernel
theorem dL_addOperation_13 : decode cL_addOperation 13 = .ok (.lastore, 1) := by decide +kernel
theorem dL_addOperation_14 : decode cL_addOperation 14 = .ok (.goto 15, 3) := by decide +kernel
theorem dL_addOperation_17 : decode cL_addOperation 17 = .ok (.astore 6, 2) := by decide +kernel
theorem dL_addOperation_19 : decode cL_addOperation 19 = .ok (.iconst 1, 1) := by decide +kernel
theorem dL_addOperation_20 : decode cL_addOperation 20 = .ok (.ireturn, 1) := by decide +kernel
theorem dL_addOperation_21 : decode cL_addOperation 21 = .ok (.astore 6, 2) := by decide +kernel
theorem dL_addOperation_23 : decode cL_addOperation 23 = .ok (.iconst 2, 1) := by decide +kernel
theorem dL_addOperation_24 : decode cL_addOperation 24 = .ok (.ireturn, 1) := by decide +kernel
theorem dL_addOperation_25 : decode cL_addOperation 25 = .ok (.astore 6, 2) := by decide +kernel
theorem dL_addOperation_27 : decode cL_addOperation 27 = .ok (.iconst 3, 1) := by decide +kernel
theorem dL_addOperation_28 : decode cL_addOperation 28 = .ok (.ireturn, 1) := by decide +kernel
theorem dL_addOperation_29 : decode cL_addOperation 29 = .ok (.iconst 0, 1) := by decide +kernel
theorem dL_addOperation_30 : decode cL_addOperation 30 = .ok (.ireturn, 1) := by decide +kernel
theorem dL_setJob_0 : decode cL_setJob 0 = .ok (.aload 4, 2) := by decide +kernel
theorem dL_setJob_2 : decode cL_setJob 2 = .ok (.iconst 0, 1) := by decide +kernel
theorem dL_setJob_3 : decode cL_setJob 3 = .ok (.aload_n 0, 1) := by decide +kernel
theorem dL_setJob_4 : decode cL_setJob 4 = .ok (.iload_n 1, 1) := by decide +kernel
theorem dL_setJob_5 : decode cL_setJob 5 = .ok (.iload_n 2, 1) := by decide +kernel
theorem dL_setJob_6 : decode cL_setJob 6 = .ok (.iload_n 3, 1) := by decide +kernel
theorem dL_setJob_7 : decode cL_setJob 7 = .ok (.invokevirtual 23, 3) := by decide +kernel
theorem dL_setJob_10 : decode cL_setJob 10 = .ok (.i2l, 1) := by decide +kernel
theorem dL_setJob_11 : decode cL_setJob 11 = .ok (.lastore, 1) := by decide +kernel
theorem dL_setJob_12 : decode cL_setJob 12 = .ok (.goto 11, 3) := by decide +kernel
theorem dL_setJob_15 : decode cL_setJob 15 = .ok (.astore 5, 2) := by decide +kernel
theorem dL_setJob_17 : decode cL_setJob 17 = .ok (.iconst 1, 1) := by decide +kernel
theorem dL_setJob_18 : decode cL_setJob 18 = .ok (.ireturn, 1) := by decide +kernel
theorem dL_setJob_19 : decode cL_setJob 19 = .ok (.astore 5, 2) := by decide +kernel
theorem dL_setJob_21 : decode cL_setJob 21 = .ok (.iconst 2, 1) := by decide +kernel
theorem dL_setJob_22 : decode cL_setJob 22 = .ok (.ireturn, 1) := by decide +kernel
theorem dL_setJob_23 : decode cL_setJob 23 = .ok (.iconst 0, 1) := by decide +kernel
theorem dL_setJob_24 : decode cL_setJob 24 = .ok (.ireturn, 1) := by decide +kernel
theorem dL_setDuration_0 : decode cL_setDuration 0 = .ok (.aload_n 3, 1) := by decide +kernel
theorem dL_setDuration_1 : decode cL_setDuration 1 = .ok (.iconst 0, 1) := by decide +kernel
theorem dL_setDuration_2 : decode cL_setDuration 2 = .ok (.aload_n 0, 1) := by decide +kernel
theorem dL_setDuration_3 : decode cL_setDuration 3 = .ok (.iload_n 1, 1) := by decide +kernel
theorem dL_setDuration_4 : decode cL_setDuration 4 = .ok (.iload_n 2, 1) := by decide +kernel
theorem dL_setDuration_5 : decode cL_setDuration 5 = .ok (.invokevirtual 26, 3) := by decide +kernel
theorem dL_setDuration_8 : decode cL_setDuration 8 = .ok (.i2l, 1) := by decide +kernel
theorem dL_setDuration_9 : decode cL_setDuration 9 = .ok (.lastore, 1) := by decide +kernel
theorem dL_setDuration_10 : decode cL_setDuration 10 = .ok (.goto 11, 3) := by decide +kernel
theorem dL_setDuration_13 : decode cL_setDuration 13 = .ok (.astore 4, 2) := by decide +kernel
theorem dL_setDuration_15 : decode cL_setDuration 15 = .ok (.iconst 1, 1) := by decide +kernel
theorem dL_setDuration_16 : decode cL_setDuration 16 = .ok (.ireturn, 1) := by decide +kernel
theorem dL_setDuration_17 : decode cL_setDuration 17 = .ok (.astore 4, 2) := by decide +kernel
theorem dL_setDuration_19 : decode cL_setDuration 19 = .ok (.iconst 2, 1) := by decide +kernel
theorem dL_setDuration_20 : decode cL_setDuration 20 = .ok (.ireturn, 1) := by decide +kernel
theorem dL_setDuration_21 : decode cL_setDuration 21 = .ok (.iconst 0, 1) := by decide +kernel
theorem dL_setDuration_22 : decode cL_setDuration 22 = .ok (.ireturn, 1) := by decide +kernel
theorem dL_setSetup_0 : decode cL_setSetup 0 = .ok (.aload 4, 2) := by decide +kernel
theorem dL_setSetup_2 : decode cL_setSetup 2 = .ok (.iconst 0, 1) := by decide +kernel
theorem dL_setSetup_3 : decode cL_setSetup 3 = .ok (.aload_n 0, 1) := by decide +kernel
theorem dL_setSetup_4 : decode cL_setSetup 4 = .ok (.iload_n 1, 1) := by decide +kernel
theorem dL_setSetup_5 : decode cL_setSetup 5 = .ok (.iload_n 2, 1) := by decide +kernel
theorem dL_setSetup_6 : decode cL_setSetup 6 = .ok (.iload_n 3, 1) := by decide +kernel
theorem dL_setSetup_7 : decode cL_setSetup 7 = .ok (.invokevirtual 30, 3) := by decide +kernel
theorem dL_setSetup_10 : decode cL_setSetup 10 = .ok (.i2l, 1) := by decide +kernel
theorem dL_setSetup_11 : decode cL_setSetup 11 = .ok (.lastore, 1) := by decide +kernel
theorem dL_setSetup_12 : decode cL_setSetup 12 = .ok (.goto 11, 3) := by decide +kernel
theorem dL_setSetup_15 : decode cL_setSetup 15 = .ok (.astore 5, 2) := by decide +kernel
theorem dL_setSetup_17 : decode cL_setSetup 17 = .ok (.iconst 1, 1) := by decide +kernel
theorem dL_setSetup_18 : decode cL_setSetup 18 = .ok (.ireturn, 1) := by decide +kernel
theorem dL_setSetup_19 : decode cL_setSetup 19 = .ok (.astore 5, 2) := by decide +kernel
theorem dL_setSetup_21 : decode cL_setSetup 21 = .ok (.iconst 2, 1) := by decide +kernel
theorem dL_setSetup_22 : decode cL_setSetup 22 = .ok (.ireturn, 1) := by decide +kernel
theorem dL_setSetup_23 : decode cL_setSetup 23 = .ok (.iconst 0, 1) := by decide +kernel
theorem dL_setSetup_24 : decode cL_setSetup 24 = .ok (.ireturn, 1) := by decide +kernel
theorem dL_addBreakdown_0 : decode cL_addBreakdown 0 = .ok (.aload 4, 2) := by decide +kernel
theorem dL_addBreakdown_2 : decode cL_addBreakdown 2 = .ok (.iconst 0, 1) := by decide +kernel
theorem dL_addBreakdown_3 : decode cL_addBreakdown 3 = .ok (.aload_n 0, 1) := by decide +kernel
theorem dL_addBreakdown_4 : decode cL_addBreakdown 4 = .ok (.iload_n 1, 1) := by decide +kernel
theorem dL_addBreakdown_5 : decode cL_addBreakdown 5 = .ok (.iload_n 2, 1) := by decide +kernel
theorem dL_addBreakdown_6 : decode cL_addBreakdown 6 = .ok (.iload_n 3, 1) := by decide +kernel
theorem dL_addBreakdown_7 : decode cL_addBreakdown 7 = .ok (.invokevirtual 33, 3) := by decide +kernel
theorem dL_addBreakdown_10 : decode cL_addBreakdown 10 = .ok (.i2l, 1) := by decide +kernel
theorem dL_addBreakdown_11 : decode cL_addBreakdown 11 = .ok (.lastore, 1) := by decide +kernel
theorem dL_addBreakdown_12 : decode cL_addBreakdown 12 = .ok (.goto 15, 3) := by decide +kernel
theorem dL_addBreakdown_15 : decode cL_addBreakdown 15 = .ok (.astore 5, 2) := by decide +kernel
theorem dL_addBreakdown_17 : decode cL_addBreakdown 17 = .ok (.iconst 1, 1) := by decide +kernel
theorem dL_addBreakdown_18 : decode cL_addBreakdown 18 = .ok (.ireturn, 1) := by decide +kernel
theorem dL_addBreakdown_19 : decode cL_addBreakdown 19 = .ok (.astore 5, 2) := by decide +kernel
theorem dL_addBreakdown_21 : decode cL_addBreakdown 21 = .ok (.iconst 2, 1) := by decide +kernel
theorem dL_addBreakdown_22 : decode cL_addBreakdown 22 = .ok (.ireturn, 1) := by decide +kernel
theorem dL_addBreakdown_23 : decode cL_addBreakdown 23 = .ok (.astore 5, 2) := by decide +kernel
theorem dL_addBreakdown_25 : decode cL_addBreakdown 25 = .ok (.iconst 3, 1) := by decide +kernel
theorem dL_addBreakdown_26 : decode cL_addBreakdown 26 = .ok (.ireturn, 1) := by decide +kernel
theorem dL_addBreakdown_27 : decode cL_addBreakdown 27 = .ok (.iconst 0, 1) := by decide +kernel
theorem dL_addBreakdown_28 : decode cL_addBreakdown 28 = .ok (.ireturn, 1) := by decide +kernel
theorem dL_clearBreakdowns_0 : decode cL_clearBreakdowns 0 = .ok (.aload_n 2, 1) := by decide +kernel
theorem dL_clearBreakdowns_1 : decode cL_clearBreakdowns 1 = .ok (.iconst 0, 1) := by decide +kernel
theorem dL_clearBreakdowns_2 : decode cL_clearBreakdowns 2 = .ok (.aload_n 0, 1) := by decide +kernel
theorem dL_clearBreakdowns_3 : decode cL_clearBreakdowns 3 = .ok (.iload_n 1, 1) := by decide +kernel
theorem dL_clearBreakdowns_4 : decode cL_clearBreakdowns 4 = .ok (.invokevirtual 36, 3) := by decide +kernel
theorem dL_clearBreakdowns_7 : decode cL_clearBreakdowns 7 = .ok (.i2l, 1) := by decide +kernel
theorem dL_clearBreakdowns_8 : decode cL_clearBreakdowns 8 = .ok (.lastore, 1) := by decide +kernel
theorem dL_clearBreakdowns_9 : decode cL_clearBreakdowns 9 = .ok (.goto 6, 3) := by decide +kernel
theorem dL_clearBreakdowns_12 : decode cL_clearBreakdowns 12 = .ok (.astore_n 3, 1) := by decide +kernel
theorem dL_clearBreakdowns_13 : decode cL_clearBreakdowns 13 = .ok (.iconst 1, 1) := by decide +kernel
theorem dL_clearBreakdowns_14 : decode cL_clearBreakdowns 14 = .ok (.ireturn, 1) := by decide +kernel
theorem dL_clearBreakdowns_15 : decode cL_clearBreakdowns 15 = .ok (.iconst 0, 1) := by decide +kernel
theorem dL_clearBreakdowns_16 : decode cL_clearBreakdowns 16 = .ok (.ireturn, 1) := by decide +kernel
theorem dL_count_0 : decode cL_count 0 = .ok (.aload_n 2, 1) := by decide +kernel
theorem dL_count_1 : decode cL_count 1 = .ok (.iconst 0, 1) := by decide +kernel
theorem dL_count_2 : decode cL_count 2 = .ok (.aload_n 0, 1) := by decide +kernel
theorem dL_count_3 : decode cL_count 3 = .ok (.iload_n 1, 1) := by decide +kernel
theorem dL_count_4 : decode cL_count 4 = .ok (.invokevirtual 40, 3) := by decide +kernel
theorem dL_count_7 : decode cL_count 7 = .ok (.i2l, 1) := by decide +kernel
theorem dL_count_8 : decode cL_count 8 = .ok (.lastore, 1) := by decide +kernel
theorem dL_count_9 : decode cL_count 9 = .ok (.goto 6, 3) := by decide +kernel
theorem dL_count_12 : decode cL_count 12 = .ok (.astore_n 3, 1) := by decide +kernel
theorem dL_count_13 : decode cL_count 13 = .ok (.iconst 1, 1) := by decide +kernel
theorem dL_count_14 : decode cL_count 14 = .ok (.ireturn, 1) := by decide +kernel
theorem dL_count_15 : decode cL_count 15 = .ok (.iconst 0, 1) := by decide +kernel
theorem dL_count_16 : decode cL_count 16 = .ok (.ireturn, 1) := by decide +kernel
theorem dL_property_0 : decode cL_property 0 = .ok (.aload_n 3, 1) := by decide +kernel
theorem dL_property_1 : decode cL_property 1 = .ok (.iconst 0, 1) := by decide +kernel
theorem dL_property_2 : decode cL_property 2 = .ok (.aload_n 0, 1) := by decide +kernel
theorem dL_property_3 : decode cL_property 3 = .ok (.iload_n 1, 1) := by decide +kernel
theorem dL_property_4 : decode cL_property 4 = .ok (.iload_n 2, 1) := by decide +kernel
theorem dL_property_5 : decode cL_property 5 = .ok (.invokevirtual 43, 3) := by decide +kernel
theorem dL_property_8 : decode cL_property 8 = .ok (.i2l, 1) := by decide +kernel
theorem dL_property_9 : decode cL_property 9 = .ok (.lastore, 1) := by decide +kernel
theorem dL_property_10 : decode cL_property 10 = .ok (.goto 11, 3) := by decide +kernel
theorem dL_property_13 : decode cL_property 13 = .ok (.astore 4, 2) := by decide +kernel
theorem dL_property_15 : decode cL_property 15 = .ok (.iconst 1, 1) := by decide +kernel
theorem dL_property_16 : decode cL_property 16 = .ok (.ireturn, 1) := by decide +kernel
theorem dL_property_17 : decode cL_property 17 = .ok (.astore 4, 2) := by decide +kernel
theorem dL_property_19 : decode cL_property 19 = .ok (.iconst 2, 1) := by decide +kernel
theorem dL_property_20 : decode cL_property 20 = .ok (.ireturn, 1) := by decide +kernel
theorem dL_property_21 : decode cL_property 21 = .ok (.iconst 0, 1) := by decide +kernel
theorem dL_property_22 : decode cL_property 22 = .ok (.ireturn, 1) := by decide +kernel
theorem dL_order_0 : decode cL_order 0 = .ok (.aload_n 3, 1) := by decide +kernel
theorem dL_order_1 : decode cL_order 1 = .ok (.iconst 0, 1) := by decide +kernel
theorem dL_order_2 : decode cL_order 2 = .ok (.aload_n 0, 1) := by decide +kernel
theorem dL_order_3 : decode cL_order 3 = .ok (.iload_n 1, 1) := by decide +kernel
theorem dL_order_4 : decode cL_order 4 = .ok (.iload_n 2, 1) := by decide +kernel
theorem dL_order_5 : decode cL_order 5 = .ok (.invokevirtual 46, 3) := by decide +kernel
theorem dL_order_8 : decode cL_order 8 = .ok (.i2l, 1) := by decide +kernel
theorem dL_order_9 : decode cL_order 9 = .ok (.lastore, 1) := by decide +kernel
theorem dL_order_10 : decode cL_order 10 = .ok (.goto 11, 3) := by decide +kernel
theorem dL_order_13 : decode cL_order 13 = .ok (.astore 4, 2) := by decide +kernel
theorem dL_order_15 : decode cL_order 15 = .ok (.iconst 1, 1) := by decide +kernel
theorem dL_order_16 : decode cL_order 16 = .ok (.ireturn, 1) := by decide +kernel
theorem dL_order_17 : decode cL_order 17 = .ok (.astore 4, 2) := by decide +kernel
theorem dL_order_19 : decode cL_order 19 = .ok (.iconst 2, 1) := by decide +kernel
theorem dL_order_20 : decode cL_order 20 = .ok (.ireturn, 1) := by decide +kernel
theorem dL_order_21 : decode cL_order 21 = .ok (.iconst 0, 1) := by decide +kernel
theorem dL_order_22 : decode cL_order 22 = .ok (.ireturn, 1) := by decide +kernel
theorem dL_time_0 : decode cL_time 0 = .ok (.aload_n 3, 1) := by decide +kernel
theorem dL_time_1 : decode cL_time 1 = .ok (.iconst 0, 1) := by decide +kernel
theorem dL_time_2 : decode cL_time 2 = .ok (.aload_n 0, 1) := by decide +kernel
theorem dL_time_3 : decode cL_time 3 = .ok (.iload_n 1, 1) := by decide +kernel
theorem dL_time_4 : decode cL_time 4 = .ok (.iload_n 2, 1) := by decide +kernel
theorem dL_time_5 : decode cL_time 5 = .ok (.invokevirtual 51, 3) := by decide +kernel
theorem dL_time_8 : decode cL_time 8 = .ok (.i2l, 1) := by decide +kernel
theorem dL_time_9 : decode cL_time 9 = .ok (.lastore, 1) := by decide +kernel
theorem dL_time_10 : decode cL_time 10 = .ok (.goto 11, 3) := by decide +kernel
theorem dL_time_13 : decode cL_time 13 = .ok (.astore 4, 2) := by decide +kernel
theorem dL_time_15 : decode cL_time 15 = .ok (.iconst 1, 1) := by decide +kernel
theorem dL_time_16 : decode cL_time 16 = .ok (.ireturn, 1) := by decide +kernel
theorem dL_time_17 : decode cL_time 17 = .ok (.astore 4, 2) := by decide +kernel
theorem dL_time_19 : decode cL_time 19 = .ok (.iconst 2, 1) := by decide +kernel
theorem dL_time_20 : decode cL_time 20 = .ok (.ireturn, 1) := by decide +kernel
theorem dL_time_21 : decode cL_time 21 = .ok (.iconst 0, 1) := by decide +kernel
theorem dL_time_22 : decode cL_time 22 = .ok (.ireturn, 1) := by decide +kernel
theorem dL_slack_0 : decode cL_slack 0 = .ok (.aload_n 2, 1) := by decide +kernel
theorem dL_slack_1 : decode cL_slack 1 = .ok (.iconst 0, 1) := by decide +kernel
theorem dL_slack_2 : decode cL_slack 2 = .ok (.aload_n 0, 1) := by decide +kernel
theorem dL_slack_3 : decode cL_slack 3 = .ok (.iload_n 1, 1) := by decide +kernel
theorem dL_slack_4 : decode cL_slack 4 = .ok (.invokevirtual 54, 3) := by decide +kernel
theorem dL_slack_7 : decode cL_slack 7 = .ok (.i2l, 1) := by decide +kernel
theorem dL_slack_8 : decode cL_slack 8 = .ok (.lastore, 1) := by decide +kernel
theorem dL_slack_9 : decode cL_slack 9 = .ok (.goto 6, 3) := by decide +kernel
theorem dL_slack_12 : decode cL_slack 12 = .ok (.astore_n 3, 1) := by decide +kernel
theorem dL_slack_13 : decode cL_slack 13 = .ok (.iconst 1, 1) := by decide +kernel
theorem dL_slack_14 : decode cL_slack 14 = .ok (.ireturn, 1) := by decide +kernel
theorem dL_slack_15 : decode cL_slack 15 = .ok (.iconst 0, 1) := by decide +kernel
theorem dL_slack_16 : decode cL_slack 16 = .ok (.ireturn, 1) := by decide +kernel
theorem dL_completion_0 : decode cL_completion 0 = .ok (.aload_n 2, 1) := by decide +kernel
theorem dL_completion_1 : decode cL_completion 1 = .ok (.iconst 0, 1) := by decide +kernel
theorem dL_completion_2 : decode cL_completion 2 = .ok (.aload_n 0, 1) := by decide +kernel
theorem dL_completion_3 : decode cL_completion 3 = .ok (.iload_n 1, 1) := by decide +kernel
theorem dL_completion_4 : decode cL_completion 4 = .ok (.invokevirtual 57, 3) := by decide +kernel
theorem dL_completion_7 : decode cL_completion 7 = .ok (.i2l, 1) := by decide +kernel
theorem dL_completion_8 : decode cL_completion 8 = .ok (.lastore, 1) := by decide +kernel
theorem dL_completion_9 : decode cL_completion 9 = .ok (.goto 6, 3) := by decide +kernel
theorem dL_completion_12 : decode cL_completion 12 = .ok (.astore_n 3, 1) := by decide +kernel
theorem dL_completion_13 : decode cL_completion 13 = .ok (.iconst 1, 1) := by decide +kernel
theorem dL_completion_14 : decode cL_completion 14 = .ok (.ireturn, 1) := by decide +kernel
theorem dL_completion_15 : decode cL_completion 15 = .ok (.iconst 0, 1) := by decide +kernel
theorem dL_completion_16 : decode cL_completion 16 = .ok (.ireturn, 1) := by decide +kernel
theorem dL_objective_0 : decode cL_objective 0 = .ok (.aload_n 2, 1) := by decide +kernel
theorem dL_objective_1 : decode cL_objective 1 = .ok (.iconst 0, 1) := by decide +kernel
theorem dL_objective_2 : decode cL_objective 2 = .ok (.aload_n 0, 1) := by decide +kernel
theorem dL_objective_3 : decode cL_objective 3 = .ok (.iload_n 1, 1) := by decide +kernel
theorem dL_objective_4 : decode cL_objective 4 = .ok (.invokevirtual 60, 3) := by decide +kernel
theorem dL_objective_7 : decode cL_objective 7 = .ok (.i2l, 1) := by decide +kernel
theorem dL_objective_8 : decode cL_objective 8 = .ok (.lastore, 1) := by decide +kernel
theorem dL_objective_9 : decode cL_objective 9 = .ok (.goto 6, 3) := by decide +kernel
theorem dL_objective_12 : decode cL_objective 12 = .ok (.astore_n 3, 1) := by decide +kernel
theorem dL_objective_13 : decode cL_objective 13 = .ok (.iconst 1, 1) := by decide +kernel
theorem dL_objective_14 : decode cL_objective 14 = .ok (.ireturn, 1) := by decide +kernel
theorem dL_objective_15 : decode cL_objective 15 = .ok (.iconst 0, 1) := by decide +kernel
theorem dL_objective_16 : decode cL_objective 16 = .ok (.ireturn, 1) := by decide +kernel
theorem dL_utilization_0 : decode cL_utilization 0 = .ok (.aload_n 2, 1) := by decide +kernel
theorem dL_utilization_1 : decode cL_utilization 1 = .ok (.iconst 0, 1) := by decide +kernel
theorem dL_utilization_2 : decode cL_utilization 2 = .ok (.aload_n 0, 1) := by decide +kernel
theorem dL_utilization_3 : decode cL_utilization 3 = .ok (.iload_n 1, 1) := by decide +kernel
theorem dL_utilization_4 : decode cL_utilization 4 = .ok (.invokevirtual 63, 3) := by decide +kernel
theorem dL_utilization_7 : decode cL_utilization 7 = .ok (.dastore, 1) := by decide +kernel
theorem dL_utilization_8 : decode cL_utilization 8 = .ok (.goto 6, 3) := by decide +kernel
theorem dL_utilization_11 : decode cL_utilization 11 = .ok (.astore_n 3, 1) := by decide +kernel
theorem dL_utilization_12 : decode cL_utilization 12 = .ok (.iconst 1, 1) := by decide +kernel
theorem dL_utilization_13 : decode cL_utilization 13 = .ok (.ireturn, 1) := by decide +kernel
theorem dL_utilization_14 : decode cL_utilization 14 = .ok (.iconst 0, 1) := by decide +kernel
theorem dL_utilization_15 : decode cL_utilization 15 = .ok (.ireturn, 1) := by decide +kernel
theorem dL_path_0 : decode cL_path 0 = .ok (.aload_n 2, 1) := by decide +kernel
theorem dL_path_1 : decode cL_path 1 = .ok (.iconst 0, 1) := by decide +kernel
theorem dL_path_2 : decode cL_path 2 = .ok (.aload_n 0, 1) := by decide +kernel
theorem dL_path_3 : decode cL_path 3 = .ok (.iload_n 1, 1) := by decide +kernel
theorem dL_path_4 : decode cL_path 4 = .ok (.invokevirtual 67, 3) := by decide +kernel
theorem dL_path_7 : decode cL_path 7 = .ok (.i2l, 1) := by decide +kernel
theorem dL_path_8 : decode cL_path 8 = .ok (.lastore, 1) := by decide +kernel
theorem dL_path_9 : decode cL_path 9 = .ok (.goto 6, 3) := by decide +kernel
theorem dL_path_12 : decode cL_path 12 = .ok (.astore_n 3, 1) := by decide +kernel
theorem dL_path_13 : decode cL_path 13 = .ok (.iconst 1, 1) := by decide +kernel
theorem dL_path_14 : decode cL_path 14 = .ok (.ireturn, 1) := by decide +kernel
theorem dL_path_15 : decode cL_path 15 = .ok (.iconst 0, 1) := by decide +kernel
theorem dL_path_16 : decode cL_path 16 = .ok (.ireturn, 1) := by decide +kernel
theorem dL_blockLength_0 : decode cL_blockLength 0 = .ok (.aload_n 2, 1) := by decide +kernel
theorem dL_blockLength_1 : decode cL_blockLength 1 = .ok (.iconst 0, 1) := by decide +kernel
theorem dL_blockLength_2 : decode cL_blockLength 2 = .ok (.aload_n 0, 1) := by decide +kernel
theorem dL_blockLength_3 : decode cL_blockLength 3 = .ok (.iload_n 1, 1) := by decide +kernel
theorem dL_blockLength_4 : decode cL_blockLength 4 = .ok (.invokevirtual 70, 3) := by decide +kernel
theorem dL_blockLength_7 : decode cL_blockLength 7 = .ok (.i2l, 1) := by decide +kernel
theorem dL_blockLength_8 : decode cL_blockLength 8 = .ok (.lastore, 1) := by decide +kernel
theorem dL_blockLength_9 : decode cL_blockLength 9 = .ok (.goto 6, 3) := by decide +kernel
theorem dL_blockLength_12 : decode cL_blockLength 12 = .ok (.astore_n 3, 1) := by decide +kernel
theorem dL_blockLength_13 : decode cL_blockLength 13 = .ok (.iconst 1, 1) := by decide +kernel
theorem dL_blockLength_14 : decode cL_blockLength 14 = .ok (.ireturn, 1) := by decide +kernel
theorem dL_blockLength_15 : decode cL_blockLength 15 = .ok (.iconst 0, 1) := by decide +kernel
theorem dL_blockLength_16 : decode cL_blockLength 16 = .ok (.ireturn, 1) := by decide +kernel
theorem dL_swap_0 : decode cL_swap 0 = .ok (.aload_n 3, 1) := by decide +kernel
theorem dL_swap_1 : decode cL_swap 1 = .ok (.iconst 0, 1) := by decide +kernel
theorem dL_swap_2 : decode cL_swap 2 = .ok (.aload_n 0, 1) := by decide +kernel
theorem dL_swap_3 : decode cL_swap 3 = .ok (.iload_n 1, 1) := by decide +kernel
theorem dL_swap_4 : decode cL_swap 4 = .ok (.iload_n 2, 1) := by decide +kernel
theorem dL_swap_5 : decode cL_swap 5 = .ok (.invokevirtual 73, 3) := by decide +kernel
theorem dL_swap_8 : decode cL_swap 8 = .ok (.i2l, 1) := by decide +kernel
theorem dL_swap_9 : decode cL_swap 9 = .ok (.lastore, 1) := by decide +kernel
theorem dL_swap_10 : decode cL_swap 10 = .ok (.goto 15, 3) := by decide +kernel
theorem dL_swap_13 : decode cL_swap 13 = .ok (.astore 4, 2) := by decide +kernel
theorem dL_swap_15 : decode cL_swap 15 = .ok (.iconst 1, 1) := by decide +kernel
theorem dL_swap_16 : decode cL_swap 16 = .ok (.ireturn, 1) := by decide +kernel
theorem dL_swap_17 : decode cL_swap 17 = .ok (.astore 4, 2) := by decide +kernel
theorem dL_swap_19 : decode cL_swap 19 = .ok (.iconst 2, 1) := by decide +kernel
theorem dL_swap_20 : decode cL_swap 20 = .ok (.ireturn, 1) := by decide +kernel
theorem dL_swap_21 : decode cL_swap 21 = .ok (.astore 4, 2) := by decide +kernel
theorem dL_swap_23 : decode cL_swap 23 = .ok (.iconst 3, 1) := by decide +kernel
theorem dL_swap_24 : decode cL_swap 24 = .ok (.ireturn, 1) := by decide +kernel
theorem dL_swap_25 : decode cL_swap 25 = .ok (.iconst 0, 1) := by decide +kernel
theorem dL_swap_26 : decode cL_swap 26 = .ok (.ireturn, 1) := by decide +kernel
theorem dL_move_0 : decode cL_move 0 = .ok (.aload_n 3, 1) := by decide +kernel
theorem dL_move_1 : decode cL_move 1 = .ok (.iconst 0, 1) := by decide +kernel
theorem dL_move_2 : decode cL_move 2 = .ok (.aload_n 0, 1) := by decide +kernel
theorem dL_move_3 : decode cL_move 3 = .ok (.iload_n 1, 1) := by decide +kernel
theorem dL_move_4 : decode cL_move 4 = .ok (.iload_n 2, 1) := by decide +kernel
theorem dL_move_5 : decode cL_move 5 = .ok (.invokevirtual 76, 3) := by decide +kernel
theorem dL_move_8 : decode cL_move 8 = .ok (.i2l, 1) := by decide +kernel
theorem dL_move_9 : decode cL_move 9 = .ok (.lastore, 1) := by decide +kernel
theorem dL_move_10 : decode cL_move 10 = .ok (.goto 15, 3) := by decide +kernel
theorem dL_move_13 : decode cL_move 13 = .ok (.astore 4, 2) := by decide +kernel
theorem dL_move_15 : decode cL_move 15 = .ok (.iconst 1, 1) := by decide +kernel
theorem dL_move_16 : decode cL_move 16 = .ok (.ireturn, 1) := by decide +kernel
theorem dL_move_17 : decode cL_move 17 = .ok (.astore 4, 2) := by decide +kernel
theorem dL_move_19 : decode cL_move 19 = .ok (.iconst 2, 1) := by decide +kernel
theorem dL_move_20 : decode cL_move 20 = .ok (.ireturn, 1) := by decide +kernel
theorem dL_move_21 : decode cL_move 21 = .ok (.astore 4, 2) := by decide +kernel
theorem dL_move_23 : decode cL_move 23 = .ok (.iconst 3, 1) := by decide +kernel
theorem dL_move_24 : decode cL_move 24 = .ok (.ireturn, 1) := by decide +kernel
theorem dL_move_25 : decode cL_move 25 = .ok (.iconst 0, 1) := by decide +kernel
theorem dL_move_26 : decode cL_move 26 = .ok (.ireturn, 1) := by decide +kernel
theorem dL_dispatch_0 : decode cL_dispatch 0 = .ok (.aload_n 2, 1) := by decide +kernel
theorem dL_dispatch_1 : decode cL_dispatch 1 = .ok (.iconst 0, 1) := by decide +kernel
theorem dL_dispatch_2 : decode cL_dispatch 2 = .ok (.aload_n 0, 1) := by decide +kernel
theorem dL_dispatch_3 : decode cL_dispatch 3 = .ok (.iload_n 1, 1) := by decide +kernel
theorem dL_dispatch_4 : decode cL_dispatch 4 = .ok (.invokevirtual 79, 3) := by decide +kernel
theorem dL_dispatch_7 : decode cL_dispatch 7 = .ok (.i2l, 1) := by decide +kernel
theorem dL_dispatch_8 : decode cL_dispatch 8 = .ok (.lastore, 1) := by decide +kernel
theorem dL_dispatch_9 : decode cL_dispatch 9 = .ok (.goto 6, 3) := by decide +kernel
theorem dL_dispatch_12 : decode cL_dispatch 12 = .ok (.astore_n 3, 1) := by decide +kernel
theorem dL_dispatch_13 : decode cL_dispatch 13 = .ok (.iconst 1, 1) := by decide +kernel
theorem dL_dispatch_14 : decode cL_dispatch 14 = .ok (.ireturn, 1) := by decide +kernel
theorem dL_dispatch_15 : decode cL_dispatch 15 = .ok (.iconst 0, 1) := by decide +kernel
theorem dL_dispatch_16 : decode cL_dispatch 16 = .ok (.ireturn, 1) := by decide +kernel
theorem dL_repair_0 : decode cL_repair 0 = .ok (.aload_n 3, 1) := by decide +kernel
theorem dL_repair_1 : decode cL_repair 1 = .ok (.iconst 0, 1) := by decide +kernel
theorem dL_repair_2 : decode cL_repair 2 = .ok (.aload_n 0, 1) := by decide +kernel
theorem dL_repair_3 : decode cL_repair 3 = .ok (.iload_n 1, 1) := by decide +kernel
theorem dL_repair_4 : decode cL_repair 4 = .ok (.iload_n 2, 1) := by decide +kernel
theorem dL_repair_5 : decode cL_repair 5 = .ok (.invokevirtual 82, 3) := by decide +kernel
theorem dL_repair_8 : decode cL_repair 8 = .ok (.i2l, 1) := by decide +kernel
theorem dL_repair_9 : decode cL_repair 9 = .ok (.lastore, 1) := by decide +kernel
theorem dL_repair_10 : decode cL_repair 10 = .ok (.goto 7, 3) := by decide +kernel
theorem dL_repair_13 : decode cL_repair 13 = .ok (.astore 4, 2) := by decide +kernel
theorem dL_repair_15 : decode cL_repair 15 = .ok (.iconst 1, 1) := by decide +kernel
theorem dL_repair_16 : decode cL_repair 16 = .ok (.ireturn, 1) := by decide +kernel
theorem dL_repair_17 : decode cL_repair 17 = .ok (.iconst 0, 1) := by decide +kernel
theorem dL_repair_18 : decode cL_repair 18 = .ok (.ireturn, 1) := by decide +kernel
theorem dL_best_0 : decode cL_best 0 = .ok (.aload_n 2, 1) := by decide +kernel
theorem dL_best_1 : decode cL_best 1 = .ok (.iconst 0, 1) := by decide +kernel
theorem dL_best_2 : decode cL_best 2 = .ok (.aload_n 0, 1) := by decide +kernel
theorem dL_best_3 : decode cL_best 3 = .ok (.iload_n 1, 1) := by decide +kernel
theorem dL_best_4 : decode cL_best 4 = .ok (.invokevirtual 85, 3) := by decide +kernel
theorem dL_best_7 : decode cL_best 7 = .ok (.i2l, 1) := by decide +kernel
theorem dL_best_8 : decode cL_best 8 = .ok (.lastore, 1) := by decide +kernel
theorem dL_best_9 : decode cL_best 9 = .ok (.goto 6, 3) := by decide +kernel
theorem dL_best_12 : decode cL_best 12 = .ok (.astore_n 3, 1) := by decide +kernel
theorem dL_best_13 : decode cL_best 13 = .ok (.iconst 1, 1) := by decide +kernel
theorem dL_best_14 : decode cL_best 14 = .ok (.ireturn, 1) := by decide +kernel
theorem dL_best_15 : decode cL_best 15 = .ok (.iconst 0, 1) := by decide +kernel
theorem dL_best_16 : decode cL_best 16 = .ok (.ireturn, 1) := by decide +kernel
theorem dL_reoptimize_0 : decode cL_reoptimize 0 = .ok (.aload_n 2, 1) := by decide +kernel
theorem dL_reoptimize_1 : decode cL_reoptimize 1 = .ok (.iconst 0, 1) := by decide +kernel
theorem dL_reoptimize_2 : decode cL_reoptimize 2 = .ok (.aload_n 0, 1) := by decide +kernel
theorem dL_reoptimize_3 : decode cL_reoptimize 3 = .ok (.iload_n 1, 1) := by decide +kernel
theorem dL_reoptimize_4 : decode cL_reoptimize 4 = .ok (.invokevirtual 88, 3) := by decide +kernel
theorem dL_reoptimize_7 : decode cL_reoptimize 7 = .ok (.i2l, 1) := by decide +kernel
theorem dL_reoptimize_8 : decode cL_reoptimize 8 = .ok (.lastore, 1) := by decide +kernel
theorem dL_reoptimize_9 : decode cL_reoptimize 9 = .ok (.goto 6, 3) := by decide +kernel
theorem dL_reoptimize_12 : decode cL_reoptimize 12 = .ok (.astore_n 3, 1) := by decide +kernel
theorem dL_reoptimize_13 : decode cL_reoptimize 13 = .ok (.iconst 1, 1) := by decide +kernel
theorem dL_reoptimize_14 : decode cL_reoptimize 14 = .ok (.ireturn, 1) := by decide +kernel
theorem dL_reoptimize_15 : decode cL_reoptimize 15 = .ok (.iconst 0, 1) := by decide +kernel
theorem dL_reoptimize_16 : decode cL_reoptimize 16 = .ok (.ireturn, 1) := by decide +kernel
theorem dL_bottleneck_0 : decode cL_bottleneck 0 = .ok (.aload_n 2, 1) := by decide +kernel
theorem dL_bottleneck_1 : decode cL_bottleneck 1 = .ok (.iconst 0, 1) := by decide +kernel
theorem dL_bottleneck_2 : decode cL_bottleneck 2 = .ok (.aload_n 0, 1) := by decide +kernel
theorem dL_bottleneck_3 : decode cL_bottleneck 3 = .ok (.iload_n 1, 1) := by decide +kernel
theorem dL_bottleneck_4 : decode cL_bottleneck 4 = .ok (.invokevirtual 91, 3) := by decide +kernel
theorem dL_bottleneck_7 : decode cL_bottleneck 7 = .ok (.i2l, 1) := by decide +kernel
theorem dL_bottleneck_8 : decode cL_bottleneck 8 = .ok (.lastore, 1) := by decide +kernel
theorem dL_bottleneck_9 : decode cL_bottleneck 9 = .ok (.goto 6, 3) := by decide +kernel
theorem dL_bottleneck_12 : decode cL_bottleneck 12 = .ok (.astore_n 3, 1) := by decide +kernel
theorem dL_bottleneck_13 : decode cL_bottleneck 13 = .ok (.iconst 1, 1) := by decide +kernel
theorem dL_bottleneck_14 : decode cL_bottleneck 14 = .ok (.ireturn, 1) := by decide +kernel
theorem dL_bottleneck_15 : decode cL_bottleneck 15 = .ok (.iconst 0, 1) := by decide +kernel
theorem dL_bottleneck_16 : decode cL_bottleneck 16 = .ok (.ireturn, 1) := by decide +kernel
theorem dL_tabu_0 : decode cL_tabu 0 = .ok (.aload_n 3, 1) := by decide +kernel
theorem dL_tabu_1 : decode cL_tabu 1 = .ok (.iconst 0, 1) := by decide +kernel
theorem dL_tabu_2 : decode cL_tabu 2 = .ok (.aload_n 0, 1) := by decide +kernel
theorem dL_tabu_3 : decode cL_tabu 3 = .ok (.iload_n 1, 1) := by decide +kernel
theorem dL_tabu_4 : decode cL_tabu 4 = .ok (.iload_n 2, 1) := by decide +kernel
theorem dL_tabu_5 : decode cL_tabu 5 = .ok (.invokevirtual 94, 3) := by decide +kernel
theorem dL_tabu_8 : decode cL_tabu 8 = .ok (.i2l, 1) := by decide +kernel
theorem dL_tabu_9 : decode cL_tabu 9 = .ok (.lastore, 1) := by decide +kernel
theorem dL_tabu_10 : decode cL_tabu 10 = .ok (.goto 7, 3) := by decide +kernel
theorem dL_tabu_13 : decode cL_tabu 13 = .ok (.astore 4, 2) := by decide +kernel
theorem dL_tabu_15 : decode cL_tabu 15 = .ok (.iconst 1, 1) := by decide +kernel
theorem dL_tabu_16 : decode cL_tabu 16 = .ok (.ireturn, 1) := by decide +kernel
theorem dL_tabu_17 : decode cL_tabu 17 = .ok (.iconst 0, 1) := by decide +kernel
theorem dL_tabu_18 : decode cL_tabu 18 = .ok (.ireturn, 1) := by decide +kernel
theorem dL_bound_0 : decode cL_bound 0 = .ok (.aload_n 2, 1) := by decide +kernel
theorem dL_bound_1 : decode cL_bound 1 = .ok (.iconst 0, 1) := by decide +kernel
theorem dL_bound_2 : decode cL_bound 2 = .ok (.aload_n 0, 1) := by decide +kernel
theorem dL_bound_3 : decode cL_bound 3 = .ok (.iload_n 1, 1) := by decide +kernel
theorem dL_bound_4 : decode cL_bound 4 = .ok (.invokevirtual 97, 3) := by decide +kernel
theorem dL_bound_7 : decode cL_bound 7 = .ok (.i2l, 1) := by decide +kernel
theorem dL_bound_8 : decode cL_bound 8 = .ok (.lastore, 1) := by decide +kernel
theorem dL_bound_9 : decode cL_bound 9 = .ok (.goto 6, 3) := by decide +kernel
theorem dL_bound_12 : decode cL_bound 12 = .ok (.astore_n 3, 1) := by decide +kernel
theorem dL_bound_13 : decode cL_bound 13 = .ok (.iconst 1, 1) := by decide +kernel
theorem dL_bound_14 : decode cL_bound 14 = .ok (.ireturn, 1) := by decide +kernel
theorem dL_bound_15 : decode cL_bound 15 = .ok (.iconst 0, 1) := by decide +kernel
theorem dL_bound_16 : decode cL_bound 16 = .ok (.ireturn, 1) := by decide +kernel
theorem dL_append_0 : decode cL_append 0 = .ok (.aload_n 0, 1) := by decide +kernel
theorem dL_append_1 : decode cL_append 1 = .ok (.iload_n 1, 1) := by decide +kernel
theorem dL_append_2 : decode cL_append 2 = .ok (.invokevirtual 100, 3) := by decide +kernel
theorem dL_append_5 : decode cL_append 5 = .ok (.goto 6, 3) := by decide +kernel
theorem dL_append_8 : decode cL_append 8 = .ok (.astore_n 2, 1) := by decide +kernel
theorem dL_append_9 : decode cL_append 9 = .ok (.iconst 1, 1) := by decide +kernel
theorem dL_append_10 : decode cL_append 10 = .ok (.ireturn, 1) := by decide +kernel
theorem dL_append_11 : decode cL_append 11 = .ok (.iconst 0, 1) := by decide +kernel
theorem dL_append_12 : decode cL_append 12 = .ok (.ireturn, 1) := by decide +kernel
theorem dL_read_0 : decode cL_read 0 = .ok (.aload_n 1, 1) := by decide +kernel
theorem dL_read_1 : decode cL_read 1 = .ok (.iconst 0, 1) := by decide +kernel
theorem dL_read_2 : decode cL_read 2 = .ok (.aload_n 0, 1) := by decide +kernel
theorem dL_read_3 : decode cL_read 3 = .ok (.invokevirtual 104, 3) := by decide +kernel
theorem dL_read_6 : decode cL_read 6 = .ok (.i2l, 1) := by decide +kernel
theorem dL_read_7 : decode cL_read 7 = .ok (.lastore, 1) := by decide +kernel
theorem dL_read_8 : decode cL_read 8 = .ok (.goto 9, 3) := by decide +kernel
theorem dL_read_11 : decode cL_read 11 = .ok (.astore_n 2, 1) := by decide +kernel
theorem dL_read_12 : decode cL_read 12 = .ok (.iconst 1, 1) := by decide +kernel
theorem dL_read_13 : decode cL_read 13 = .ok (.ireturn, 1) := by decide +kernel
theorem dL_read_14 : decode cL_read 14 = .ok (.astore_n 2, 1) := by decide +kernel
theorem dL_read_15 : decode cL_read 15 = .ok (.iconst 2, 1) := by decide +kernel
theorem dL_read_16 : decode cL_read 16 = .ok (.ireturn, 1) := by decide +kernel
theorem dL_read_17 : decode cL_read 17 = .ok (.iconst 0, 1) := by decide +kernel
theorem dL_read_18 : decode cL_read 18 = .ok (.ireturn, 1) := by decide +kernel
theorem dL_failure_0 : decode cL_failure 0 = .ok (.aload_n 2, 1) := by decide +kernel
theorem dL_failure_1 : decode cL_failure 1 = .ok (.iconst 0, 1) := by decide +kernel
theorem dL_failure_2 : decode cL_failure 2 = .ok (.aload_n 0, 1) := by decide +kernel
theorem dL_failure_3 : decode cL_failure 3 = .ok (.iload_n 1, 1) := by decide +kernel
theorem dL_failure_4 : decode cL_failure 4 = .ok (.invokevirtual 108, 3) := by decide +kernel
theorem dL_failure_7 : decode cL_failure 7 = .ok (.i2l, 1) := by decide +kernel
theorem dL_failure_8 : decode cL_failure 8 = .ok (.lastore, 1) := by decide +kernel
theorem dL_failure_9 : decode cL_failure 9 = .ok (.goto 6, 3) := by decide +kernel
theorem dL_failure_12 : decode cL_failure 12 = .ok (.astore_n 3, 1) := by decide +kernel
theorem dL_failure_13 : decode cL_failure 13 = .ok (.iconst 1, 1) := by decide +kernel
theorem dL_failure_14 : decode cL_failure 14 = .ok (.ireturn, 1) := by decide +kernel
theorem dL_failure_15 : decode cL_failure 15 = .ok (.iconst 0, 1) := by decide +kernel
theorem dL_failure_16 : decode cL_failure 16 = .ok (.ireturn, 1) := by decide +kernel
theorem dL_restore_0 : decode cL_restore 0 = .ok (.aload_n 0, 1) := by decide +kernel
theorem dL_restore_1 : decode cL_restore 1 = .ok (.invokevirtual 111, 3) := by decide +kernel
theorem dL_restore_4 : decode cL_restore 4 = .ok (.goto 6, 3) := by decide +kernel
theorem dL_restore_7 : decode cL_restore 7 = .ok (.astore_n 1, 1) := by decide +kernel
theorem dL_restore_8 : decode cL_restore 8 = .ok (.iconst 1, 1) := by decide +kernel
theorem dL_restore_9 : decode cL_restore 9 = .ok (.ireturn, 1) := by decide +kernel
theorem dL_restore_10 : decode cL_restore 10 = .ok (.iconst 0, 1) := by decide +kernel
theorem dL_restore_11 : decode cL_restore 11 = .ok (.ireturn, 1) := by decide +kernel
