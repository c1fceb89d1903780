theorem dL_addPerson_0 : decode cL_addPerson 0 = .ok (.aload_n 2, 1) := by decide +kernel
theorem dL_addPerson_1 : decode cL_addPerson 1 = .ok (.iconst 0, 1) := by decide +kernel
theorem dL_addPerson_2 : decode cL_addPerson 2 = .ok (.aload_n 0, 1) := by decide +kernel
theorem dL_addPerson_3 : decode cL_addPerson 3 = .ok (.iload_n 1, 1) := by decide +kernel
theorem dL_addPerson_4 : decode cL_addPerson 4 = .ok (.invokevirtual 7, 3) := by decide +kernel
theorem dL_addPerson_7 : decode cL_addPerson 7 = .ok (.i2l, 1) := by decide +kernel
theorem dL_addPerson_8 : decode cL_addPerson 8 = .ok (.lastore, 1) := by decide +kernel
theorem dL_addPerson_9 : decode cL_addPerson 9 = .ok (.goto 9, 3) := by decide +kernel
theorem dL_addPerson_12 : decode cL_addPerson 12 = .ok (.astore_n 3, 1) := by decide +kernel
theorem dL_addPerson_13 : decode cL_addPerson 13 = .ok (.iconst 1, 1) := by decide +kernel
theorem dL_addPerson_14 : decode cL_addPerson 14 = .ok (.ireturn, 1) := by decide +kernel
theorem dL_addPerson_15 : decode cL_addPerson 15 = .ok (.astore_n 3, 1) := by decide +kernel
theorem dL_addPerson_16 : decode cL_addPerson 16 = .ok (.iconst 2, 1) := by decide +kernel
theorem dL_addPerson_17 : decode cL_addPerson 17 = .ok (.ireturn, 1) := by decide +kernel
theorem dL_addPerson_18 : decode cL_addPerson 18 = .ok (.iconst 0, 1) := by decide +kernel
theorem dL_addPerson_19 : decode cL_addPerson 19 = .ok (.ireturn, 1) := by decide +kernel
theorem dL_setDuty_0 : decode cL_setDuty 0 = .ok (.aload_n 3, 1) := by decide +kernel
theorem dL_setDuty_1 : decode cL_setDuty 1 = .ok (.iconst 0, 1) := by decide +kernel
theorem dL_setDuty_2 : decode cL_setDuty 2 = .ok (.aload_n 0, 1) := by decide +kernel
theorem dL_setDuty_3 : decode cL_setDuty 3 = .ok (.iload_n 1, 1) := by decide +kernel
theorem dL_setDuty_4 : decode cL_setDuty 4 = .ok (.iload_n 2, 1) := by decide +kernel
theorem dL_setDuty_5 : decode cL_setDuty 5 = .ok (.invokevirtual 17, 3) := by decide +kernel
theorem dL_setDuty_8 : decode cL_setDuty 8 = .ok (.ifCond .eq 7, 3) := by decide +kernel
theorem dL_setDuty_11 : decode cL_setDuty 11 = .ok (.lconst 1, 1) := by decide +kernel
theorem dL_setDuty_12 : decode cL_setDuty 12 = .ok (.goto 4, 3) := by decide +kernel
theorem dL_setDuty_15 : decode cL_setDuty 15 = .ok (.lconst 0, 1) := by decide +kernel
theorem dL_setDuty_16 : decode cL_setDuty 16 = .ok (.lastore, 1) := by decide +kernel
theorem dL_setDuty_17 : decode cL_setDuty 17 = .ok (.goto 11, 3) := by decide +kernel
theorem dL_setDuty_20 : decode cL_setDuty 20 = .ok (.astore 4, 2) := by decide +kernel
theorem dL_setDuty_22 : decode cL_setDuty 22 = .ok (.iconst 1, 1) := by decide +kernel
theorem dL_setDuty_23 : decode cL_setDuty 23 = .ok (.ireturn, 1) := by decide +kernel
theorem dL_setDuty_24 : decode cL_setDuty 24 = .ok (.astore 4, 2) := by decide +kernel
theorem dL_setDuty_26 : decode cL_setDuty 26 = .ok (.iconst 2, 1) := by decide +kernel
theorem dL_setDuty_27 : decode cL_setDuty 27 = .ok (.ireturn, 1) := by decide +kernel
theorem dL_setDuty_28 : decode cL_setDuty 28 = .ok (.iconst 0, 1) := by decide +kernel
theorem dL_setDuty_29 : decode cL_setDuty 29 = .ok (.ireturn, 1) := by decide +kernel
theorem dL_addStep_0 : decode cL_addStep 0 = .ok (.aload 6, 2) := by decide +kernel
theorem dL_addStep_2 : decode cL_addStep 2 = .ok (.iconst 0, 1) := by decide +kernel
theorem dL_addStep_3 : decode cL_addStep 3 = .ok (.aload_n 0, 1) := by decide +kernel
theorem dL_addStep_4 : decode cL_addStep 4 = .ok (.iload_n 1, 1) := by decide +kernel
theorem dL_addStep_5 : decode cL_addStep 5 = .ok (.iload_n 2, 1) := by decide +kernel
theorem dL_addStep_6 : decode cL_addStep 6 = .ok (.iload_n 3, 1) := by decide +kernel
theorem dL_addStep_7 : decode cL_addStep 7 = .ok (.iload 4, 2) := by decide +kernel
theorem dL_addStep_9 : decode cL_addStep 9 = .ok (.iload 5, 2) := by decide +kernel
theorem dL_addStep_11 : decode cL_addStep 11 = .ok (.invokevirtual 23, 3) := by decide +kernel
theorem dL_addStep_14 : decode cL_addStep 14 = .ok (.i2l, 1) := by decide +kernel
theorem dL_addStep_15 : decode cL_addStep 15 = .ok (.lastore, 1) := by decide +kernel
theorem dL_addStep_16 : decode cL_addStep 16 = .ok (.goto 11, 3) := by decide +kernel
theorem dL_addStep_19 : decode cL_addStep 19 = .ok (.astore 7, 2) := by decide +kernel
theorem dL_addStep_21 : decode cL_addStep 21 = .ok (.iconst 1, 1) := by decide +kernel
theorem dL_addStep_22 : decode cL_addStep 22 = .ok (.ireturn, 1) := by decide +kernel
theorem dL_addStep_23 : decode cL_addStep 23 = .ok (.astore 7, 2) := by decide +kernel
theorem dL_addStep_25 : decode cL_addStep 25 = .ok (.iconst 2, 1) := by decide +kernel
theorem dL_addStep_26 : decode cL_addStep 26 = .ok (.ireturn, 1) := by decide +kernel
theorem dL_addStep_27 : decode cL_addStep 27 = .ok (.iconst 0, 1) := by decide +kernel
theorem dL_addStep_28 : decode cL_addStep 28 = .ok (.ireturn, 1) := by decide +kernel
theorem dL_need_0 : decode cL_need 0 = .ok (.aload_n 3, 1) := by decide +kernel
theorem dL_need_1 : decode cL_need 1 = .ok (.iconst 0, 1) := by decide +kernel
theorem dL_need_2 : decode cL_need 2 = .ok (.aload_n 0, 1) := by decide +kernel
theorem dL_need_3 : decode cL_need 3 = .ok (.iload_n 1, 1) := by decide +kernel
theorem dL_need_4 : decode cL_need 4 = .ok (.iload_n 2, 1) := by decide +kernel
theorem dL_need_5 : decode cL_need 5 = .ok (.invokevirtual 27, 3) := by decide +kernel
theorem dL_need_8 : decode cL_need 8 = .ok (.i2l, 1) := by decide +kernel
theorem dL_need_9 : decode cL_need 9 = .ok (.lastore, 1) := by decide +kernel
theorem dL_need_10 : decode cL_need 10 = .ok (.goto 15, 3) := by decide +kernel
theorem dL_need_13 : decode cL_need 13 = .ok (.astore 4, 2) := by decide +kernel
theorem dL_need_15 : decode cL_need 15 = .ok (.iconst 1, 1) := by decide +kernel
theorem dL_need_16 : decode cL_need 16 = .ok (.ireturn, 1) := by decide +kernel
theorem dL_need_17 : decode cL_need 17 = .ok (.astore 4, 2) := by decide +kernel
theorem dL_need_19 : decode cL_need 19 = .ok (.iconst 2, 1) := by decide +kernel
theorem dL_need_20 : decode cL_need 20 = .ok (.ireturn, 1) := by decide +kernel
theorem dL_need_21 : decode cL_need 21 = .ok (.astore 4, 2) := by decide +kernel
theorem dL_need_23 : decode cL_need 23 = .ok (.iconst 3, 1) := by decide +kernel
theorem dL_need_24 : decode cL_need 24 = .ok (.ireturn, 1) := by decide +kernel
theorem dL_need_25 : decode cL_need 25 = .ok (.iconst 0, 1) := by decide +kernel
theorem dL_need_26 : decode cL_need 26 = .ok (.ireturn, 1) := by decide +kernel
theorem dL_condition_0 : decode cL_condition 0 = .ok (.aload 5, 2) := by decide +kernel
theorem dL_condition_2 : decode cL_condition 2 = .ok (.iconst 0, 1) := by decide +kernel
theorem dL_condition_3 : decode cL_condition 3 = .ok (.aload_n 0, 1) := by decide +kernel
theorem dL_condition_4 : decode cL_condition 4 = .ok (.iload_n 1, 1) := by decide +kernel
theorem dL_condition_5 : decode cL_condition 5 = .ok (.iload_n 2, 1) := by decide +kernel
theorem dL_condition_6 : decode cL_condition 6 = .ok (.iload_n 3, 1) := by decide +kernel
theorem dL_condition_7 : decode cL_condition 7 = .ok (.iload 4, 2) := by decide +kernel
theorem dL_condition_9 : decode cL_condition 9 = .ok (.invokevirtual 31, 3) := by decide +kernel
theorem dL_condition_12 : decode cL_condition 12 = .ok (.i2l, 1) := by decide +kernel
theorem dL_condition_13 : decode cL_condition 13 = .ok (.lastore, 1) := by decide +kernel
theorem dL_condition_14 : decode cL_condition 14 = .ok (.goto 15, 3) := by decide +kernel
theorem dL_condition_17 : decode cL_condition 17 = .ok (.astore 6, 2) := by decide +kernel
theorem dL_condition_19 : decode cL_condition 19 = .ok (.iconst 1, 1) := by decide +kernel
theorem dL_condition_20 : decode cL_condition 20 = .ok (.ireturn, 1) := by decide +kernel
theorem dL_condition_21 : decode cL_condition 21 = .ok (.astore 6, 2) := by decide +kernel
theorem dL_condition_23 : decode cL_condition 23 = .ok (.iconst 2, 1) := by decide +kernel
theorem dL_condition_24 : decode cL_condition 24 = .ok (.ireturn, 1) := by decide +kernel
theorem dL_condition_25 : decode cL_condition 25 = .ok (.astore 6, 2) := by decide +kernel
theorem dL_condition_27 : decode cL_condition 27 = .ok (.iconst 3, 1) := by decide +kernel
theorem dL_condition_28 : decode cL_condition 28 = .ok (.ireturn, 1) := by decide +kernel
theorem dL_condition_29 : decode cL_condition 29 = .ok (.iconst 0, 1) := by decide +kernel
theorem dL_condition_30 : decode cL_condition 30 = .ok (.ireturn, 1) := by decide +kernel
theorem dL_setFallback_0 : decode cL_setFallback 0 = .ok (.aload_n 3, 1) := by decide +kernel
theorem dL_setFallback_1 : decode cL_setFallback 1 = .ok (.iconst 0, 1) := by decide +kernel
theorem dL_setFallback_2 : decode cL_setFallback 2 = .ok (.aload_n 0, 1) := by decide +kernel
theorem dL_setFallback_3 : decode cL_setFallback 3 = .ok (.iload_n 1, 1) := by decide +kernel
theorem dL_setFallback_4 : decode cL_setFallback 4 = .ok (.iload_n 2, 1) := by decide +kernel
theorem dL_setFallback_5 : decode cL_setFallback 5 = .ok (.invokevirtual 35, 3) := by decide +kernel
theorem dL_setFallback_8 : decode cL_setFallback 8 = .ok (.i2l, 1) := by decide +kernel
theorem dL_setFallback_9 : decode cL_setFallback 9 = .ok (.lastore, 1) := by decide +kernel
theorem dL_setFallback_10 : decode cL_setFallback 10 = .ok (.goto 15, 3) := by decide +kernel
theorem dL_setFallback_13 : decode cL_setFallback 13 = .ok (.astore 4, 2) := by decide +kernel
theorem dL_setFallback_15 : decode cL_setFallback 15 = .ok (.iconst 1, 1) := by decide +kernel
theorem dL_setFallback_16 : decode cL_setFallback 16 = .ok (.ireturn, 1) := by decide +kernel
theorem dL_setFallback_17 : decode cL_setFallback 17 = .ok (.astore 4, 2) := by decide +kernel
theorem dL_setFallback_19 : decode cL_setFallback 19 = .ok (.iconst 2, 1) := by decide +kernel
theorem dL_setFallback_20 : decode cL_setFallback 20 = .ok (.ireturn, 1) := by decide +kernel
theorem dL_setFallback_21 : decode cL_setFallback 21 = .ok (.astore 4, 2) := by decide +kernel
theorem dL_setFallback_23 : decode cL_setFallback 23 = .ok (.iconst 3, 1) := by decide +kernel
theorem dL_setFallback_24 : decode cL_setFallback 24 = .ok (.ireturn, 1) := by decide +kernel
theorem dL_setFallback_25 : decode cL_setFallback 25 = .ok (.iconst 0, 1) := by decide +kernel
theorem dL_setFallback_26 : decode cL_setFallback 26 = .ok (.ireturn, 1) := by decide +kernel
theorem dL_setReading_0 : decode cL_setReading 0 = .ok (.aload_n 3, 1) := by decide +kernel
theorem dL_setReading_1 : decode cL_setReading 1 = .ok (.iconst 0, 1) := by decide +kernel
theorem dL_setReading_2 : decode cL_setReading 2 = .ok (.aload_n 0, 1) := by decide +kernel
theorem dL_setReading_3 : decode cL_setReading 3 = .ok (.iload_n 1, 1) := by decide +kernel
theorem dL_setReading_4 : decode cL_setReading 4 = .ok (.iload_n 2, 1) := by decide +kernel
theorem dL_setReading_5 : decode cL_setReading 5 = .ok (.invokevirtual 38, 3) := by decide +kernel
theorem dL_setReading_8 : decode cL_setReading 8 = .ok (.i2l, 1) := by decide +kernel
theorem dL_setReading_9 : decode cL_setReading 9 = .ok (.lastore, 1) := by decide +kernel
theorem dL_setReading_10 : decode cL_setReading 10 = .ok (.goto 7, 3) := by decide +kernel
theorem dL_setReading_13 : decode cL_setReading 13 = .ok (.astore 4, 2) := by decide +kernel
theorem dL_setReading_15 : decode cL_setReading 15 = .ok (.iconst 1, 1) := by decide +kernel
theorem dL_setReading_16 : decode cL_setReading 16 = .ok (.ireturn, 1) := by decide +kernel
theorem dL_setReading_17 : decode cL_setReading 17 = .ok (.iconst 0, 1) := by decide +kernel
theorem dL_setReading_18 : decode cL_setReading 18 = .ok (.ireturn, 1) := by decide +kernel
theorem dL_start_0 : decode cL_start 0 = .ok (.aload_n 1, 1) := by decide +kernel
theorem dL_start_1 : decode cL_start 1 = .ok (.iconst 0, 1) := by decide +kernel
theorem dL_start_2 : decode cL_start 2 = .ok (.aload_n 0, 1) := by decide +kernel
theorem dL_start_3 : decode cL_start 3 = .ok (.invokevirtual 41, 3) := by decide +kernel
theorem dL_start_6 : decode cL_start 6 = .ok (.i2l, 1) := by decide +kernel
theorem dL_start_7 : decode cL_start 7 = .ok (.lastore, 1) := by decide +kernel
theorem dL_start_8 : decode cL_start 8 = .ok (.goto 6, 3) := by decide +kernel
theorem dL_start_11 : decode cL_start 11 = .ok (.astore_n 2, 1) := by decide +kernel
theorem dL_start_12 : decode cL_start 12 = .ok (.iconst 1, 1) := by decide +kernel
theorem dL_start_13 : decode cL_start 13 = .ok (.ireturn, 1) := by decide +kernel
theorem dL_start_14 : decode cL_start 14 = .ok (.iconst 0, 1) := by decide +kernel
theorem dL_start_15 : decode cL_start 15 = .ok (.ireturn, 1) := by decide +kernel
theorem dL_close_0 : decode cL_close 0 = .ok (.aload_n 1, 1) := by decide +kernel
theorem dL_close_1 : decode cL_close 1 = .ok (.iconst 0, 1) := by decide +kernel
theorem dL_close_2 : decode cL_close 2 = .ok (.aload_n 0, 1) := by decide +kernel
theorem dL_close_3 : decode cL_close 3 = .ok (.invokevirtual 45, 3) := by decide +kernel
theorem dL_close_6 : decode cL_close 6 = .ok (.i2l, 1) := by decide +kernel
theorem dL_close_7 : decode cL_close 7 = .ok (.lastore, 1) := by decide +kernel
theorem dL_close_8 : decode cL_close 8 = .ok (.goto 6, 3) := by decide +kernel
theorem dL_close_11 : decode cL_close 11 = .ok (.astore_n 2, 1) := by decide +kernel
theorem dL_close_12 : decode cL_close 12 = .ok (.iconst 1, 1) := by decide +kernel
theorem dL_close_13 : decode cL_close 13 = .ok (.ireturn, 1) := by decide +kernel
theorem dL_close_14 : decode cL_close 14 = .ok (.iconst 0, 1) := by decide +kernel
theorem dL_close_15 : decode cL_close 15 = .ok (.ireturn, 1) := by decide +kernel
theorem dL_begin_0 : decode cL_begin 0 = .ok (.aload_n 3, 1) := by decide +kernel
theorem dL_begin_1 : decode cL_begin 1 = .ok (.iconst 0, 1) := by decide +kernel
theorem dL_begin_2 : decode cL_begin 2 = .ok (.aload_n 0, 1) := by decide +kernel
theorem dL_begin_3 : decode cL_begin 3 = .ok (.iload_n 1, 1) := by decide +kernel
theorem dL_begin_4 : decode cL_begin 4 = .ok (.iload_n 2, 1) := by decide +kernel
theorem dL_begin_5 : decode cL_begin 5 = .ok (.invokevirtual 48, 3) := by decide +kernel
theorem dL_begin_8 : decode cL_begin 8 = .ok (.i2l, 1) := by decide +kernel
theorem dL_begin_9 : decode cL_begin 9 = .ok (.lastore, 1) := by decide +kernel
theorem dL_begin_10 : decode cL_begin 10 = .ok (.goto 15, 3) := by decide +kernel
theorem dL_begin_13 : decode cL_begin 13 = .ok (.astore 4, 2) := by decide +kernel
theorem dL_begin_15 : decode cL_begin 15 = .ok (.iconst 1, 1) := by decide +kernel
theorem dL_begin_16 : decode cL_begin 16 = .ok (.ireturn, 1) := by decide +kernel
theorem dL_begin_17 : decode cL_begin 17 = .ok (.astore 4, 2) := by decide +kernel
theorem dL_begin_19 : decode cL_begin 19 = .ok (.iconst 2, 1) := by decide +kernel
theorem dL_begin_20 : decode cL_begin 20 = .ok (.ireturn, 1) := by decide +kernel
theorem dL_begin_21 : decode cL_begin 21 = .ok (.astore 4, 2) := by decide +kernel
theorem dL_begin_23 : decode cL_begin 23 = .ok (.iconst 3, 1) := by decide +kernel
theorem dL_begin_24 : decode cL_begin 24 = .ok (.ireturn, 1) := by decide +kernel
theorem dL_begin_25 : decode cL_begin 25 = .ok (.iconst 0, 1) := by decide +kernel
theorem dL_begin_26 : decode cL_begin 26 = .ok (.ireturn, 1) := by decide +kernel
theorem dL_finish_0 : decode cL_finish 0 = .ok (.aload_n 3, 1) := by decide +kernel
theorem dL_finish_1 : decode cL_finish 1 = .ok (.iconst 0, 1) := by decide +kernel
theorem dL_finish_2 : decode cL_finish 2 = .ok (.aload_n 0, 1) := by decide +kernel
theorem dL_finish_3 : decode cL_finish 3 = .ok (.iload_n 1, 1) := by decide +kernel
theorem dL_finish_4 : decode cL_finish 4 = .ok (.iload_n 2, 1) := by decide +kernel
theorem dL_finish_5 : decode cL_finish 5 = .ok (.invokevirtual 53, 3) := by decide +kernel
theorem dL_finish_8 : decode cL_finish 8 = .ok (.i2l, 1) := by decide +kernel
theorem dL_finish_9 : decode cL_finish 9 = .ok (.lastore, 1) := by decide +kernel
theorem dL_finish_10 : decode cL_finish 10 = .ok (.goto 15, 3) := by decide +kernel
theorem dL_finish_13 : decode cL_finish 13 = .ok (.astore 4, 2) := by decide +kernel
theorem dL_finish_15 : decode cL_finish 15 = .ok (.iconst 1, 1) := by decide +kernel
theorem dL_finish_16 : decode cL_finish 16 = .ok (.ireturn, 1) := by decide +kernel
theorem dL_finish_17 : decode cL_finish 17 = .ok (.astore 4, 2) := by decide +kernel
theorem dL_finish_19 : decode cL_finish 19 = .ok (.iconst 2, 1) := by decide +kernel
theorem dL_finish_20 : decode cL_finish 20 = .ok (.ireturn, 1) := by decide +kernel
theorem dL_finish_21 : decode cL_finish 21 = .ok (.astore 4, 2) := by decide +kernel
theorem dL_finish_23 : decode cL_finish 23 = .ok (.iconst 3, 1) := by decide +kernel
theorem dL_finish_24 : decode cL_finish 24 = .ok (.ireturn, 1) := by decide +kernel
theorem dL_finish_25 : decode cL_finish 25 = .ok (.iconst 0, 1) := by decide +kernel
theorem dL_finish_26 : decode cL_finish 26 = .ok (.ireturn, 1) := by decide +kernel
theorem dL_handOver_0 : decode cL_handOver 0 = .ok (.aload_n 3, 1) := by decide +kernel
theorem dL_handOver_1 : decode cL_handOver 1 = .ok (.iconst 0, 1) := by decide +kernel
theorem dL_handOver_2 : decode cL_handOver 2 = .ok (.aload_n 0, 1) := by decide +kernel
theorem dL_handOver_3 : decode cL_handOver 3 = .ok (.iload_n 1, 1) := by decide +kernel
theorem dL_handOver_4 : decode cL_handOver 4 = .ok (.iload_n 2, 1) := by decide +kernel
theorem dL_handOver_5 : decode cL_handOver 5 = .ok (.invokevirtual 57, 3) := by decide +kernel
theorem dL_handOver_8 : decode cL_handOver 8 = .ok (.i2l, 1) := by decide +kernel
theorem dL_handOver_9 : decode cL_handOver 9 = .ok (.lastore, 1) := by decide +kernel
theorem dL_handOver_10 : decode cL_handOver 10 = .ok (.goto 19, 3) := by decide +kernel
theorem dL_handOver_13 : decode cL_handOver 13 = .ok (.astore 4, 2) := by decide +kernel
theorem dL_handOver_15 : decode cL_handOver 15 = .ok (.iconst 1, 1) := by decide +kernel
theorem dL_handOver_16 : decode cL_handOver 16 = .ok (.ireturn, 1) := by decide +kernel
theorem dL_handOver_17 : decode cL_handOver 17 = .ok (.astore 4, 2) := by decide +kernel
theorem dL_handOver_19 : decode cL_handOver 19 = .ok (.iconst 2, 1) := by decide +kernel
theorem dL_handOver_20 : decode cL_handOver 20 = .ok (.ireturn, 1) := by decide +kernel
theorem dL_handOver_21 : decode cL_handOver 21 = .ok (.astore 4, 2) := by decide +kernel
theorem dL_handOver_23 : decode cL_handOver 23 = .ok (.iconst 3, 1) := by decide +kernel
theorem dL_handOver_24 : decode cL_handOver 24 = .ok (.ireturn, 1) := by decide +kernel
theorem dL_handOver_25 : decode cL_handOver 25 = .ok (.astore 4, 2) := by decide +kernel
theorem dL_handOver_27 : decode cL_handOver 27 = .ok (.iconst 4, 1) := by decide +kernel
theorem dL_handOver_28 : decode cL_handOver 28 = .ok (.ireturn, 1) := by decide +kernel
theorem dL_handOver_29 : decode cL_handOver 29 = .ok (.iconst 0, 1) := by decide +kernel
theorem dL_handOver_30 : decode cL_handOver 30 = .ok (.ireturn, 1) := by decide +kernel
theorem dL_undo_0 : decode cL_undo 0 = .ok (.aload_n 2, 1) := by decide +kernel
theorem dL_undo_1 : decode cL_undo 1 = .ok (.iconst 0, 1) := by decide +kernel
theorem dL_undo_2 : decode cL_undo 2 = .ok (.aload_n 0, 1) := by decide +kernel
theorem dL_undo_3 : decode cL_undo 3 = .ok (.iload_n 1, 1) := by decide +kernel
theorem dL_undo_4 : decode cL_undo 4 = .ok (.invokevirtual 60, 3) := by decide +kernel
theorem dL_undo_7 : decode cL_undo 7 = .ok (.i2l, 1) := by decide +kernel
theorem dL_undo_8 : decode cL_undo 8 = .ok (.lastore, 1) := by decide +kernel
theorem dL_undo_9 : decode cL_undo 9 = .ok (.goto 12, 3) := by decide +kernel
theorem dL_undo_12 : decode cL_undo 12 = .ok (.astore_n 3, 1) := by decide +kernel
theorem dL_undo_13 : decode cL_undo 13 = .ok (.iconst 1, 1) := by decide +kernel
theorem dL_undo_14 : decode cL_undo 14 = .ok (.ireturn, 1) := by decide +kernel
theorem dL_undo_15 : decode cL_undo 15 = .ok (.astore_n 3, 1) := by decide +kernel
theorem dL_undo_16 : decode cL_undo 16 = .ok (.iconst 2, 1) := by decide +kernel
theorem dL_undo_17 : decode cL_undo 17 = .ok (.ireturn, 1) := by decide +kernel
theorem dL_undo_18 : decode cL_undo 18 = .ok (.astore_n 3, 1) := by decide +kernel
theorem dL_undo_19 : decode cL_undo 19 = .ok (.iconst 3, 1) := by decide +kernel
theorem dL_undo_20 : decode cL_undo 20 = .ok (.ireturn, 1) := by decide +kernel
theorem dL_undo_21 : decode cL_undo 21 = .ok (.iconst 0, 1) := by decide +kernel
theorem dL_undo_22 : decode cL_undo 22 = .ok (.ireturn, 1) := by decide +kernel
theorem dL_pass_0 : decode cL_pass 0 = .ok (.aload_n 2, 1) := by decide +kernel
theorem dL_pass_1 : decode cL_pass 1 = .ok (.iconst 0, 1) := by decide +kernel
theorem dL_pass_2 : decode cL_pass 2 = .ok (.aload_n 0, 1) := by decide +kernel
theorem dL_pass_3 : decode cL_pass 3 = .ok (.iload_n 1, 1) := by decide +kernel
theorem dL_pass_4 : decode cL_pass 4 = .ok (.invokevirtual 63, 3) := by decide +kernel
theorem dL_pass_7 : decode cL_pass 7 = .ok (.i2l, 1) := by decide +kernel
theorem dL_pass_8 : decode cL_pass 8 = .ok (.lastore, 1) := by decide +kernel
theorem dL_pass_9 : decode cL_pass 9 = .ok (.goto 6, 3) := by decide +kernel
theorem dL_pass_12 : decode cL_pass 12 = .ok (.astore_n 3, 1) := by decide +kernel
theorem dL_pass_13 : decode cL_pass 13 = .ok (.iconst 1, 1) := by decide +kernel
theorem dL_pass_14 : decode cL_pass 14 = .ok (.ireturn, 1) := by decide +kernel
theorem dL_pass_15 : decode cL_pass 15 = .ok (.iconst 0, 1) := by decide +kernel
theorem dL_pass_16 : decode cL_pass 16 = .ok (.ireturn, 1) := by decide +kernel
theorem dL_isOnDuty_0 : decode cL_isOnDuty 0 = .ok (.aload_n 2, 1) := by decide +kernel
theorem dL_isOnDuty_1 : decode cL_isOnDuty 1 = .ok (.iconst 0, 1) := by decide +kernel
theorem dL_isOnDuty_2 : decode cL_isOnDuty 2 = .ok (.aload_n 0, 1) := by decide +kernel
theorem dL_isOnDuty_3 : decode cL_isOnDuty 3 = .ok (.iload_n 1, 1) := by decide +kernel
theorem dL_isOnDuty_4 : decode cL_isOnDuty 4 = .ok (.invokevirtual 66, 3) := by decide +kernel
theorem dL_isOnDuty_7 : decode cL_isOnDuty 7 = .ok (.ifCond .eq 7, 3) := by decide +kernel
theorem dL_isOnDuty_10 : decode cL_isOnDuty 10 = .ok (.lconst 1, 1) := by decide +kernel
theorem dL_isOnDuty_11 : decode cL_isOnDuty 11 = .ok (.goto 4, 3) := by decide +kernel
theorem dL_isOnDuty_14 : decode cL_isOnDuty 14 = .ok (.lconst 0, 1) := by decide +kernel
theorem dL_isOnDuty_15 : decode cL_isOnDuty 15 = .ok (.lastore, 1) := by decide +kernel
theorem dL_isOnDuty_16 : decode cL_isOnDuty 16 = .ok (.goto 6, 3) := by decide +kernel
theorem dL_isOnDuty_19 : decode cL_isOnDuty 19 = .ok (.astore_n 3, 1) := by decide +kernel
theorem dL_isOnDuty_20 : decode cL_isOnDuty 20 = .ok (.iconst 1, 1) := by decide +kernel
theorem dL_isOnDuty_21 : decode cL_isOnDuty 21 = .ok (.ireturn, 1) := by decide +kernel
theorem dL_isOnDuty_22 : decode cL_isOnDuty 22 = .ok (.iconst 0, 1) := by decide +kernel
theorem dL_isOnDuty_23 : decode cL_isOnDuty 23 = .ok (.ireturn, 1) := by decide +kernel
theorem dL_hasRole_0 : decode cL_hasRole 0 = .ok (.aload_n 3, 1) := by decide +kernel
theorem dL_hasRole_1 : decode cL_hasRole 1 = .ok (.iconst 0, 1) := by decide +kernel
theorem dL_hasRole_2 : decode cL_hasRole 2 = .ok (.aload_n 0, 1) := by decide +kernel
theorem dL_hasRole_3 : decode cL_hasRole 3 = .ok (.iload_n 1, 1) := by decide +kernel
theorem dL_hasRole_4 : decode cL_hasRole 4 = .ok (.iload_n 2, 1) := by decide +kernel
theorem dL_hasRole_5 : decode cL_hasRole 5 = .ok (.invokevirtual 70, 3) := by decide +kernel
theorem dL_hasRole_8 : decode cL_hasRole 8 = .ok (.ifCond .eq 7, 3) := by decide +kernel
theorem dL_hasRole_11 : decode cL_hasRole 11 = .ok (.lconst 1, 1) := by decide +kernel
theorem dL_hasRole_12 : decode cL_hasRole 12 = .ok (.goto 4, 3) := by decide +kernel
theorem dL_hasRole_15 : decode cL_hasRole 15 = .ok (.lconst 0, 1) := by decide +kernel
theorem dL_hasRole_16 : decode cL_hasRole 16 = .ok (.lastore, 1) := by decide +kernel
theorem dL_hasRole_17 : decode cL_hasRole 17 = .ok (.goto 11, 3) := by decide +kernel
theorem dL_hasRole_20 : decode cL_hasRole 20 = .ok (.astore 4, 2) := by decide +kernel
theorem dL_hasRole_22 : decode cL_hasRole 22 = .ok (.iconst 1, 1) := by decide +kernel
theorem dL_hasRole_23 : decode cL_hasRole 23 = .ok (.ireturn, 1) := by decide +kernel
theorem dL_hasRole_24 : decode cL_hasRole 24 = .ok (.astore 4, 2) := by decide +kernel
theorem dL_hasRole_26 : decode cL_hasRole 26 = .ok (.iconst 2, 1) := by decide +kernel
theorem dL_hasRole_27 : decode cL_hasRole 27 = .ok (.ireturn, 1) := by decide +kernel
theorem dL_hasRole_28 : decode cL_hasRole 28 = .ok (.iconst 0, 1) := by decide +kernel
theorem dL_hasRole_29 : decode cL_hasRole 29 = .ok (.ireturn, 1) := by decide +kernel
theorem dL_workOf_0 : decode cL_workOf 0 = .ok (.aload_n 2, 1) := by decide +kernel
theorem dL_workOf_1 : decode cL_workOf 1 = .ok (.iconst 0, 1) := by decide +kernel
theorem dL_workOf_2 : decode cL_workOf 2 = .ok (.aload_n 0, 1) := by decide +kernel
theorem dL_workOf_3 : decode cL_workOf 3 = .ok (.iload_n 1, 1) := by decide +kernel
theorem dL_workOf_4 : decode cL_workOf 4 = .ok (.invokevirtual 74, 3) := by decide +kernel
theorem dL_workOf_7 : decode cL_workOf 7 = .ok (.i2l, 1) := by decide +kernel
theorem dL_workOf_8 : decode cL_workOf 8 = .ok (.lastore, 1) := by decide +kernel
theorem dL_workOf_9 : decode cL_workOf 9 = .ok (.goto 6, 3) := by decide +kernel
theorem dL_workOf_12 : decode cL_workOf 12 = .ok (.astore_n 3, 1) := by decide +kernel
theorem dL_workOf_13 : decode cL_workOf 13 = .ok (.iconst 1, 1) := by decide +kernel
theorem dL_workOf_14 : decode cL_workOf 14 = .ok (.ireturn, 1) := by decide +kernel
theorem dL_workOf_15 : decode cL_workOf 15 = .ok (.iconst 0, 1) := by decide +kernel
theorem dL_workOf_16 : decode cL_workOf 16 = .ok (.ireturn, 1) := by decide +kernel
theorem dL_readingOf_0 : decode cL_readingOf 0 = .ok (.aload_n 2, 1) := by decide +kernel
theorem dL_readingOf_1 : decode cL_readingOf 1 = .ok (.iconst 0, 1) := by decide +kernel
theorem dL_readingOf_2 : decode cL_readingOf 2 = .ok (.aload_n 0, 1) := by decide +kernel
theorem dL_readingOf_3 : decode cL_readingOf 3 = .ok (.iload_n 1, 1) := by decide +kernel
theorem dL_readingOf_4 : decode cL_readingOf 4 = .ok (.invokevirtual 77, 3) := by decide +kernel
theorem dL_readingOf_7 : decode cL_readingOf 7 = .ok (.i2l, 1) := by decide +kernel
theorem dL_readingOf_8 : decode cL_readingOf 8 = .ok (.lastore, 1) := by decide +kernel
theorem dL_readingOf_9 : decode cL_readingOf 9 = .ok (.goto 6, 3) := by decide +kernel
theorem dL_readingOf_12 : decode cL_readingOf 12 = .ok (.astore_n 3, 1) := by decide +kernel
theorem dL_readingOf_13 : decode cL_readingOf 13 = .ok (.iconst 1, 1) := by decide +kernel
theorem dL_readingOf_14 : decode cL_readingOf 14 = .ok (.ireturn, 1) := by decide +kernel
theorem dL_readingOf_15 : decode cL_readingOf 15 = .ok (.iconst 0, 1) := by decide +kernel
theorem dL_readingOf_16 : decode cL_readingOf 16 = .ok (.ireturn, 1) := by decide +kernel
theorem dL_doesGuardHold_0 : decode cL_doesGuardHold 0 = .ok (.aload_n 2, 1) := by decide +kernel
theorem dL_doesGuardHold_1 : decode cL_doesGuardHold 1 = .ok (.iconst 0, 1) := by decide +kernel
theorem dL_doesGuardHold_2 : decode cL_doesGuardHold 2 = .ok (.aload_n 0, 1) := by decide +kernel
theorem dL_doesGuardHold_3 : decode cL_doesGuardHold 3 = .ok (.iload_n 1, 1) := by decide +kernel
theorem dL_doesGuardHold_4 : decode cL_doesGuardHold 4 = .ok (.invokevirtual 80, 3) := by decide +kernel
theorem dL_doesGuardHold_7 : decode cL_doesGuardHold 7 = .ok (.ifCond .eq 7, 3) := by decide +kernel
theorem dL_doesGuardHold_10 : decode cL_doesGuardHold 10 = .ok (.lconst 1, 1) := by decide +kernel
theorem dL_doesGuardHold_11 : decode cL_doesGuardHold 11 = .ok (.goto 4, 3) := by decide +kernel
theorem dL_doesGuardHold_14 : decode cL_doesGuardHold 14 = .ok (.lconst 0, 1) := by decide +kernel
theorem dL_doesGuardHold_15 : decode cL_doesGuardHold 15 = .ok (.lastore, 1) := by decide +kernel
theorem dL_doesGuardHold_16 : decode cL_doesGuardHold 16 = .ok (.goto 6, 3) := by decide +kernel
theorem dL_doesGuardHold_19 : decode cL_doesGuardHold 19 = .ok (.astore_n 3, 1) := by decide +kernel
theorem dL_doesGuardHold_20 : decode cL_doesGuardHold 20 = .ok (.iconst 1, 1) := by decide +kernel
theorem dL_doesGuardHold_21 : decode cL_doesGuardHold 21 = .ok (.ireturn, 1) := by decide +kernel
theorem dL_doesGuardHold_22 : decode cL_doesGuardHold 22 = .ok (.iconst 0, 1) := by decide +kernel
theorem dL_doesGuardHold_23 : decode cL_doesGuardHold 23 = .ok (.ireturn, 1) := by decide +kernel
theorem dL_guardReading_0 : decode cL_guardReading 0 = .ok (.aload_n 3, 1) := by decide +kernel
theorem dL_guardReading_1 : decode cL_guardReading 1 = .ok (.iconst 0, 1) := by decide +kernel
theorem dL_guardReading_2 : decode cL_guardReading 2 = .ok (.aload_n 0, 1) := by decide +kernel
theorem dL_guardReading_3 : decode cL_guardReading 3 = .ok (.iload_n 1, 1) := by decide +kernel
theorem dL_guardReading_4 : decode cL_guardReading 4 = .ok (.iload_n 2, 1) := by decide +kernel
theorem dL_guardReading_5 : decode cL_guardReading 5 = .ok (.invokevirtual 83, 3) := by decide +kernel
theorem dL_guardReading_8 : decode cL_guardReading 8 = .ok (.i2l, 1) := by decide +kernel
theorem dL_guardReading_9 : decode cL_guardReading 9 = .ok (.lastore, 1) := by decide +kernel
theorem dL_guardReading_10 : decode cL_guardReading 10 = .ok (.goto 15, 3) := by decide +kernel
theorem dL_guardReading_13 : decode cL_guardReading 13 = .ok (.astore 4, 2) := by decide +kernel
theorem dL_guardReading_15 : decode cL_guardReading 15 = .ok (.iconst 1, 1) := by decide +kernel
theorem dL_guardReading_16 : decode cL_guardReading 16 = .ok (.ireturn, 1) := by decide +kernel
theorem dL_guardReading_17 : decode cL_guardReading 17 = .ok (.astore 4, 2) := by decide +kernel
theorem dL_guardReading_19 : decode cL_guardReading 19 = .ok (.iconst 2, 1) := by decide +kernel
theorem dL_guardReading_20 : decode cL_guardReading 20 = .ok (.ireturn, 1) := by decide +kernel
theorem dL_guardReading_21 : decode cL_guardReading 21 = .ok (.astore 4, 2) := by decide +kernel
theorem dL_guardReading_23 : decode cL_guardReading 23 = .ok (.iconst 3, 1) := by decide +kernel
theorem dL_guardReading_24 : decode cL_guardReading 24 = .ok (.ireturn, 1) := by decide +kernel
theorem dL_guardReading_25 : decode cL_guardReading 25 = .ok (.iconst 0, 1) := by decide +kernel
theorem dL_guardReading_26 : decode cL_guardReading 26 = .ok (.ireturn, 1) := by decide +kernel
theorem dL_stateOf_0 : decode cL_stateOf 0 = .ok (.aload_n 2, 1) := by decide +kernel
theorem dL_stateOf_1 : decode cL_stateOf 1 = .ok (.iconst 0, 1) := by decide +kernel
theorem dL_stateOf_2 : decode cL_stateOf 2 = .ok (.aload_n 0, 1) := by decide +kernel
theorem dL_stateOf_3 : decode cL_stateOf 3 = .ok (.iload_n 1, 1) := by decide +kernel
theorem dL_stateOf_4 : decode cL_stateOf 4 = .ok (.invokevirtual 88, 3) := by decide +kernel
theorem dL_stateOf_7 : decode cL_stateOf 7 = .ok (.i2l, 1) := by decide +kernel
theorem dL_stateOf_8 : decode cL_stateOf 8 = .ok (.lastore, 1) := by decide +kernel
theorem dL_stateOf_9 : decode cL_stateOf 9 = .ok (.goto 9, 3) := by decide +kernel
theorem dL_stateOf_12 : decode cL_stateOf 12 = .ok (.astore_n 3, 1) := by decide +kernel
theorem dL_stateOf_13 : decode cL_stateOf 13 = .ok (.iconst 1, 1) := by decide +kernel
theorem dL_stateOf_14 : decode cL_stateOf 14 = .ok (.ireturn, 1) := by decide +kernel
theorem dL_stateOf_15 : decode cL_stateOf 15 = .ok (.astore_n 3, 1) := by decide +kernel
theorem dL_stateOf_16 : decode cL_stateOf 16 = .ok (.iconst 2, 1) := by decide +kernel
theorem dL_stateOf_17 : decode cL_stateOf 17 = .ok (.ireturn, 1) := by decide +kernel
theorem dL_stateOf_18 : decode cL_stateOf 18 = .ok (.iconst 0, 1) := by decide +kernel
theorem dL_stateOf_19 : decode cL_stateOf 19 = .ok (.ireturn, 1) := by decide +kernel
theorem dL_triesOf_0 : decode cL_triesOf 0 = .ok (.aload_n 2, 1) := by decide +kernel
theorem dL_triesOf_1 : decode cL_triesOf 1 = .ok (.iconst 0, 1) := by decide +kernel
theorem dL_triesOf_2 : decode cL_triesOf 2 = .ok (.aload_n 0, 1) := by decide +kernel
theorem dL_triesOf_3 : decode cL_triesOf 3 = .ok (.iload_n 1, 1) := by decide +kernel
theorem dL_triesOf_4 : decode cL_triesOf 4 = .ok (.invokevirtual 92, 3) := by decide +kernel
theorem dL_triesOf_7 : decode cL_triesOf 7 = .ok (.i2l, 1) := by decide +kernel
theorem dL_triesOf_8 : decode cL_triesOf 8 = .ok (.lastore, 1) := by decide +kernel
theorem dL_triesOf_9 : decode cL_triesOf 9 = .ok (.goto 9, 3) := by decide +kernel
theorem dL_triesOf_12 : decode cL_triesOf 12 = .ok (.astore_n 3, 1) := by decide +kernel
theorem dL_triesOf_13 : decode cL_triesOf 13 = .ok (.iconst 1, 1) := by decide +kernel
theorem dL_triesOf_14 : decode cL_triesOf 14 = .ok (.ireturn, 1) := by decide +kernel
theorem dL_triesOf_15 : decode cL_triesOf 15 = .ok (.astore_n 3, 1) := by decide +kernel
theorem dL_triesOf_16 : decode cL_triesOf 16 = .ok (.iconst 2, 1) := by decide +kernel
theorem dL_triesOf_17 : decode cL_triesOf 17 = .ok (.ireturn, 1) := by decide +kernel
theorem dL_triesOf_18 : decode cL_triesOf 18 = .ok (.iconst 0, 1) := by decide +kernel
theorem dL_triesOf_19 : decode cL_triesOf 19 = .ok (.ireturn, 1) := by decide +kernel
theorem dL_isReady_0 : decode cL_isReady 0 = .ok (.aload_n 2, 1) := by decide +kernel
theorem dL_isReady_1 : decode cL_isReady 1 = .ok (.iconst 0, 1) := by decide +kernel
theorem dL_isReady_2 : decode cL_isReady 2 = .ok (.aload_n 0, 1) := by decide +kernel
theorem dL_isReady_3 : decode cL_isReady 3 = .ok (.iload_n 1, 1) := by decide +kernel
theorem dL_isReady_4 : decode cL_isReady 4 = .ok (.invokevirtual 95, 3) := by decide +kernel
theorem dL_isReady_7 : decode cL_isReady 7 = .ok (.ifCond .eq 7, 3) := by decide +kernel
theorem dL_isReady_10 : decode cL_isReady 10 = .ok (.lconst 1, 1) := by decide +kernel
theorem dL_isReady_11 : decode cL_isReady 11 = .ok (.goto 4, 3) := by decide +kernel
theorem dL_isReady_14 : decode cL_isReady 14 = .ok (.lconst 0, 1) := by decide +kernel
theorem dL_isReady_15 : decode cL_isReady 15 = .ok (.lastore, 1) := by decide +kernel
theorem dL_isReady_16 : decode cL_isReady 16 = .ok (.goto 6, 3) := by decide +kernel
theorem dL_isReady_19 : decode cL_isReady 19 = .ok (.astore_n 3, 1) := by decide +kernel
theorem dL_isReady_20 : decode cL_isReady 20 = .ok (.iconst 1, 1) := by decide +kernel
theorem dL_isReady_21 : decode cL_isReady 21 = .ok (.ireturn, 1) := by decide +kernel
theorem dL_isReady_22 : decode cL_isReady 22 = .ok (.iconst 0, 1) := by decide +kernel
theorem dL_isReady_23 : decode cL_isReady 23 = .ok (.ireturn, 1) := by decide +kernel
theorem dL_whyNot_0 : decode cL_whyNot 0 = .ok (.aload_n 2, 1) := by decide +kernel
theorem dL_whyNot_1 : decode cL_whyNot 1 = .ok (.iconst 0, 1) := by decide +kernel
theorem dL_whyNot_2 : decode cL_whyNot 2 = .ok (.aload_n 0, 1) := by decide +kernel
theorem dL_whyNot_3 : decode cL_whyNot 3 = .ok (.iload_n 1, 1) := by decide +kernel
theorem dL_whyNot_4 : decode cL_whyNot 4 = .ok (.invokevirtual 98, 3) := by decide +kernel
theorem dL_whyNot_7 : decode cL_whyNot 7 = .ok (.i2l, 1) := by decide +kernel
theorem dL_whyNot_8 : decode cL_whyNot 8 = .ok (.lastore, 1) := by decide +kernel
theorem dL_whyNot_9 : decode cL_whyNot 9 = .ok (.goto 6, 3) := by decide +kernel
theorem dL_whyNot_12 : decode cL_whyNot 12 = .ok (.astore_n 3, 1) := by decide +kernel
theorem dL_whyNot_13 : decode cL_whyNot 13 = .ok (.iconst 1, 1) := by decide +kernel
theorem dL_whyNot_14 : decode cL_whyNot 14 = .ok (.ireturn, 1) := by decide +kernel
theorem dL_whyNot_15 : decode cL_whyNot 15 = .ok (.iconst 0, 1) := by decide +kernel
theorem dL_whyNot_16 : decode cL_whyNot 16 = .ok (.ireturn, 1) := by decide +kernel
theorem dL_nextStep_0 : decode cL_nextStep 0 = .ok (.aload_n 2, 1) := by decide +kernel
theorem dL_nextStep_1 : decode cL_nextStep 1 = .ok (.iconst 0, 1) := by decide +kernel
theorem dL_nextStep_2 : decode cL_nextStep 2 = .ok (.aload_n 0, 1) := by decide +kernel
theorem dL_nextStep_3 : decode cL_nextStep 3 = .ok (.iload_n 1, 1) := by decide +kernel
theorem dL_nextStep_4 : decode cL_nextStep 4 = .ok (.invokevirtual 101, 3) := by decide +kernel
theorem dL_nextStep_7 : decode cL_nextStep 7 = .ok (.i2l, 1) := by decide +kernel
theorem dL_nextStep_8 : decode cL_nextStep 8 = .ok (.lastore, 1) := by decide +kernel
theorem dL_nextStep_9 : decode cL_nextStep 9 = .ok (.goto 9, 3) := by decide +kernel
theorem dL_nextStep_12 : decode cL_nextStep 12 = .ok (.astore_n 3, 1) := by decide +kernel
theorem dL_nextStep_13 : decode cL_nextStep 13 = .ok (.iconst 1, 1) := by decide +kernel
theorem dL_nextStep_14 : decode cL_nextStep 14 = .ok (.ireturn, 1) := by decide +kernel
theorem dL_nextStep_15 : decode cL_nextStep 15 = .ok (.astore_n 3, 1) := by decide +kernel
theorem dL_nextStep_16 : decode cL_nextStep 16 = .ok (.iconst 2, 1) := by decide +kernel
theorem dL_nextStep_17 : decode cL_nextStep 17 = .ok (.ireturn, 1) := by decide +kernel
theorem dL_nextStep_18 : decode cL_nextStep 18 = .ok (.iconst 0, 1) := by decide +kernel
theorem dL_nextStep_19 : decode cL_nextStep 19 = .ok (.ireturn, 1) := by decide +kernel
theorem dL_restOf_0 : decode cL_restOf 0 = .ok (.aload_n 2, 1) := by decide +kernel
theorem dL_restOf_1 : decode cL_restOf 1 = .ok (.iconst 0, 1) := by decide +kernel
theorem dL_restOf_2 : decode cL_restOf 2 = .ok (.aload_n 0, 1) := by decide +kernel
theorem dL_restOf_3 : decode cL_restOf 3 = .ok (.iload_n 1, 1) := by decide +kernel
theorem dL_restOf_4 : decode cL_restOf 4 = .ok (.invokevirtual 104, 3) := by decide +kernel
theorem dL_restOf_7 : decode cL_restOf 7 = .ok (.i2l, 1) := by decide +kernel
theorem dL_restOf_8 : decode cL_restOf 8 = .ok (.lastore, 1) := by decide +kernel
theorem dL_restOf_9 : decode cL_restOf 9 = .ok (.goto 6, 3) := by decide +kernel
theorem dL_restOf_12 : decode cL_restOf 12 = .ok (.astore_n 3, 1) := by decide +kernel
theorem dL_restOf_13 : decode cL_restOf 13 = .ok (.iconst 1, 1) := by decide +kernel
theorem dL_restOf_14 : decode cL_restOf 14 = .ok (.ireturn, 1) := by decide +kernel
theorem dL_restOf_15 : decode cL_restOf 15 = .ok (.iconst 0, 1) := by decide +kernel
theorem dL_restOf_16 : decode cL_restOf 16 = .ok (.ireturn, 1) := by decide +kernel
theorem dL_restBySweep_0 : decode cL_restBySweep 0 = .ok (.aload_n 2, 1) := by decide +kernel
theorem dL_restBySweep_1 : decode cL_restBySweep 1 = .ok (.iconst 0, 1) := by decide +kernel
theorem dL_restBySweep_2 : decode cL_restBySweep 2 = .ok (.aload_n 0, 1) := by decide +kernel
theorem dL_restBySweep_3 : decode cL_restBySweep 3 = .ok (.iload_n 1, 1) := by decide +kernel
theorem dL_restBySweep_4 : decode cL_restBySweep 4 = .ok (.invokevirtual 107, 3) := by decide +kernel
theorem dL_restBySweep_7 : decode cL_restBySweep 7 = .ok (.i2l, 1) := by decide +kernel
theorem dL_restBySweep_8 : decode cL_restBySweep 8 = .ok (.lastore, 1) := by decide +kernel
theorem dL_restBySweep_9 : decode cL_restBySweep 9 = .ok (.goto 6, 3) := by decide +kernel
theorem dL_restBySweep_12 : decode cL_restBySweep 12 = .ok (.astore_n 3, 1) := by decide +kernel
theorem dL_restBySweep_13 : decode cL_restBySweep 13 = .ok (.iconst 1, 1) := by decide +kernel
theorem dL_restBySweep_14 : decode cL_restBySweep 14 = .ok (.ireturn, 1) := by decide +kernel
theorem dL_restBySweep_15 : decode cL_restBySweep 15 = .ok (.iconst 0, 1) := by decide +kernel
theorem dL_restBySweep_16 : decode cL_restBySweep 16 = .ok (.ireturn, 1) := by decide +kernel
theorem dL_isSettled_0 : decode cL_isSettled 0 = .ok (.aload_n 2, 1) := by decide +kernel
theorem dL_isSettled_1 : decode cL_isSettled 1 = .ok (.iconst 0, 1) := by decide +kernel
theorem dL_isSettled_2 : decode cL_isSettled 2 = .ok (.aload_n 0, 1) := by decide +kernel
theorem dL_isSettled_3 : decode cL_isSettled 3 = .ok (.iload_n 1, 1) := by decide +kernel
theorem dL_isSettled_4 : decode cL_isSettled 4 = .ok (.invokevirtual 110, 3) := by decide +kernel
theorem dL_isSettled_7 : decode cL_isSettled 7 = .ok (.ifCond .eq 7, 3) := by decide +kernel
theorem dL_isSettled_10 : decode cL_isSettled 10 = .ok (.lconst 1, 1) := by decide +kernel
theorem dL_isSettled_11 : decode cL_isSettled 11 = .ok (.goto 4, 3) := by decide +kernel
theorem dL_isSettled_14 : decode cL_isSettled 14 = .ok (.lconst 0, 1) := by decide +kernel
theorem dL_isSettled_15 : decode cL_isSettled 15 = .ok (.lastore, 1) := by decide +kernel
theorem dL_isSettled_16 : decode cL_isSettled 16 = .ok (.goto 6, 3) := by decide +kernel
theorem dL_isSettled_19 : decode cL_isSettled 19 = .ok (.astore_n 3, 1) := by decide +kernel
theorem dL_isSettled_20 : decode cL_isSettled 20 = .ok (.iconst 1, 1) := by decide +kernel
theorem dL_isSettled_21 : decode cL_isSettled 21 = .ok (.ireturn, 1) := by decide +kernel
theorem dL_isSettled_22 : decode cL_isSettled 22 = .ok (.iconst 0, 1) := by decide +kernel
theorem dL_isSettled_23 : decode cL_isSettled 23 = .ok (.ireturn, 1) := by decide +kernel
theorem dL_handoverEnd_0 : decode cL_handoverEnd 0 = .ok (.aload_n 1, 1) := by decide +kernel
theorem dL_handoverEnd_1 : decode cL_handoverEnd 1 = .ok (.iconst 0, 1) := by decide +kernel
theorem dL_handoverEnd_2 : decode cL_handoverEnd 2 = .ok (.aload_n 0, 1) := by decide +kernel
theorem dL_handoverEnd_3 : decode cL_handoverEnd 3 = .ok (.invokevirtual 113, 3) := by decide +kernel
theorem dL_handoverEnd_6 : decode cL_handoverEnd 6 = .ok (.i2l, 1) := by decide +kernel
theorem dL_handoverEnd_7 : decode cL_handoverEnd 7 = .ok (.lastore, 1) := by decide +kernel
theorem dL_handoverEnd_8 : decode cL_handoverEnd 8 = .ok (.goto 6, 3) := by decide +kernel
theorem dL_handoverEnd_11 : decode cL_handoverEnd 11 = .ok (.astore_n 2, 1) := by decide +kernel
theorem dL_handoverEnd_12 : decode cL_handoverEnd 12 = .ok (.iconst 1, 1) := by decide +kernel
theorem dL_handoverEnd_13 : decode cL_handoverEnd 13 = .ok (.ireturn, 1) := by decide +kernel
theorem dL_handoverEnd_14 : decode cL_handoverEnd 14 = .ok (.iconst 0, 1) := by decide +kernel
theorem dL_handoverEnd_15 : decode cL_handoverEnd 15 = .ok (.ireturn, 1) := by decide +kernel
theorem dL_isPaused_0 : decode cL_isPaused 0 = .ok (.aload_n 2, 1) := by decide +kernel
theorem dL_isPaused_1 : decode cL_isPaused 1 = .ok (.iconst 0, 1) := by decide +kernel
theorem dL_isPaused_2 : decode cL_isPaused 2 = .ok (.aload_n 0, 1) := by decide +kernel
theorem dL_isPaused_3 : decode cL_isPaused 3 = .ok (.iload_n 1, 1) := by decide +kernel
theorem dL_isPaused_4 : decode cL_isPaused 4 = .ok (.invokevirtual 116, 3) := by decide +kernel
theorem dL_isPaused_7 : decode cL_isPaused 7 = .ok (.ifCond .eq 7, 3) := by decide +kernel
theorem dL_isPaused_10 : decode cL_isPaused 10 = .ok (.lconst 1, 1) := by decide +kernel
theorem dL_isPaused_11 : decode cL_isPaused 11 = .ok (.goto 4, 3) := by decide +kernel
theorem dL_isPaused_14 : decode cL_isPaused 14 = .ok (.lconst 0, 1) := by decide +kernel
theorem dL_isPaused_15 : decode cL_isPaused 15 = .ok (.lastore, 1) := by decide +kernel
theorem dL_isPaused_16 : decode cL_isPaused 16 = .ok (.goto 6, 3) := by decide +kernel
theorem dL_isPaused_19 : decode cL_isPaused 19 = .ok (.astore_n 3, 1) := by decide +kernel
theorem dL_isPaused_20 : decode cL_isPaused 20 = .ok (.iconst 1, 1) := by decide +kernel
theorem dL_isPaused_21 : decode cL_isPaused 21 = .ok (.ireturn, 1) := by decide +kernel
theorem dL_isPaused_22 : decode cL_isPaused 22 = .ok (.iconst 0, 1) := by decide +kernel
theorem dL_isPaused_23 : decode cL_isPaused 23 = .ok (.ireturn, 1) := by decide +kernel
theorem dL_workedOn_0 : decode cL_workedOn 0 = .ok (.aload_n 2, 1) := by decide +kernel
theorem dL_workedOn_1 : decode cL_workedOn 1 = .ok (.iconst 0, 1) := by decide +kernel
theorem dL_workedOn_2 : decode cL_workedOn 2 = .ok (.aload_n 0, 1) := by decide +kernel
theorem dL_workedOn_3 : decode cL_workedOn 3 = .ok (.iload_n 1, 1) := by decide +kernel
theorem dL_workedOn_4 : decode cL_workedOn 4 = .ok (.invokevirtual 119, 3) := by decide +kernel
theorem dL_workedOn_7 : decode cL_workedOn 7 = .ok (.i2l, 1) := by decide +kernel
theorem dL_workedOn_8 : decode cL_workedOn 8 = .ok (.lastore, 1) := by decide +kernel
theorem dL_workedOn_9 : decode cL_workedOn 9 = .ok (.goto 9, 3) := by decide +kernel
theorem dL_workedOn_12 : decode cL_workedOn 12 = .ok (.astore_n 3, 1) := by decide +kernel
theorem dL_workedOn_13 : decode cL_workedOn 13 = .ok (.iconst 1, 1) := by decide +kernel
theorem dL_workedOn_14 : decode cL_workedOn 14 = .ok (.ireturn, 1) := by decide +kernel
theorem dL_workedOn_15 : decode cL_workedOn 15 = .ok (.astore_n 3, 1) := by decide +kernel
theorem dL_workedOn_16 : decode cL_workedOn 16 = .ok (.iconst 2, 1) := by decide +kernel
theorem dL_workedOn_17 : decode cL_workedOn 17 = .ok (.ireturn, 1) := by decide +kernel
theorem dL_workedOn_18 : decode cL_workedOn 18 = .ok (.iconst 0, 1) := by decide +kernel
theorem dL_workedOn_19 : decode cL_workedOn 19 = .ok (.ireturn, 1) := by decide +kernel
theorem dL_lastDone_0 : decode cL_lastDone 0 = .ok (.aload_n 1, 1) := by decide +kernel
theorem dL_lastDone_1 : decode cL_lastDone 1 = .ok (.iconst 0, 1) := by decide +kernel
theorem dL_lastDone_2 : decode cL_lastDone 2 = .ok (.aload_n 0, 1) := by decide +kernel
theorem dL_lastDone_3 : decode cL_lastDone 3 = .ok (.invokevirtual 122, 3) := by decide +kernel
theorem dL_lastDone_6 : decode cL_lastDone 6 = .ok (.i2l, 1) := by decide +kernel
theorem dL_lastDone_7 : decode cL_lastDone 7 = .ok (.lastore, 1) := by decide +kernel
theorem dL_lastDone_8 : decode cL_lastDone 8 = .ok (.goto 6, 3) := by decide +kernel
theorem dL_lastDone_11 : decode cL_lastDone 11 = .ok (.astore_n 2, 1) := by decide +kernel
theorem dL_lastDone_12 : decode cL_lastDone 12 = .ok (.iconst 1, 1) := by decide +kernel
theorem dL_lastDone_13 : decode cL_lastDone 13 = .ok (.ireturn, 1) := by decide +kernel
theorem dL_lastDone_14 : decode cL_lastDone 14 = .ok (.iconst 0, 1) := by decide +kernel
theorem dL_lastDone_15 : decode cL_lastDone 15 = .ok (.ireturn, 1) := by decide +kernel
theorem dL_signAt_0 : decode cL_signAt 0 = .ok (.aload_n 2, 1) := by decide +kernel
theorem dL_signAt_1 : decode cL_signAt 1 = .ok (.iconst 0, 1) := by decide +kernel
theorem dL_signAt_2 : decode cL_signAt 2 = .ok (.aload_n 0, 1) := by decide +kernel
theorem dL_signAt_3 : decode cL_signAt 3 = .ok (.iload_n 1, 1) := by decide +kernel
theorem dL_signAt_4 : decode cL_signAt 4 = .ok (.invokevirtual 125, 3) := by decide +kernel
theorem dL_signAt_7 : decode cL_signAt 7 = .ok (.i2l, 1) := by decide +kernel
theorem dL_signAt_8 : decode cL_signAt 8 = .ok (.lastore, 1) := by decide +kernel
theorem dL_signAt_9 : decode cL_signAt 9 = .ok (.goto 6, 3) := by decide +kernel
theorem dL_signAt_12 : decode cL_signAt 12 = .ok (.astore_n 3, 1) := by decide +kernel
theorem dL_signAt_13 : decode cL_signAt 13 = .ok (.iconst 1, 1) := by decide +kernel
theorem dL_signAt_14 : decode cL_signAt 14 = .ok (.ireturn, 1) := by decide +kernel
theorem dL_signAt_15 : decode cL_signAt 15 = .ok (.iconst 0, 1) := by decide +kernel
theorem dL_signAt_16 : decode cL_signAt 16 = .ok (.ireturn, 1) := by decide +kernel
theorem dL_stepAt_0 : decode cL_stepAt 0 = .ok (.aload_n 2, 1) := by decide +kernel
theorem dL_stepAt_1 : decode cL_stepAt 1 = .ok (.iconst 0, 1) := by decide +kernel
theorem dL_stepAt_2 : decode cL_stepAt 2 = .ok (.aload_n 0, 1) := by decide +kernel
theorem dL_stepAt_3 : decode cL_stepAt 3 = .ok (.iload_n 1, 1) := by decide +kernel
theorem dL_stepAt_4 : decode cL_stepAt 4 = .ok (.invokevirtual 128, 3) := by decide +kernel
theorem dL_stepAt_7 : decode cL_stepAt 7 = .ok (.i2l, 1) := by decide +kernel
theorem dL_stepAt_8 : decode cL_stepAt 8 = .ok (.lastore, 1) := by decide +kernel
theorem dL_stepAt_9 : decode cL_stepAt 9 = .ok (.goto 6, 3) := by decide +kernel
theorem dL_stepAt_12 : decode cL_stepAt 12 = .ok (.astore_n 3, 1) := by decide +kernel
theorem dL_stepAt_13 : decode cL_stepAt 13 = .ok (.iconst 1, 1) := by decide +kernel
theorem dL_stepAt_14 : decode cL_stepAt 14 = .ok (.ireturn, 1) := by decide +kernel
theorem dL_stepAt_15 : decode cL_stepAt 15 = .ok (.iconst 0, 1) := by decide +kernel
theorem dL_stepAt_16 : decode cL_stepAt 16 = .ok (.ireturn, 1) := by decide +kernel
theorem dL_personAt_0 : decode cL_personAt 0 = .ok (.aload_n 2, 1) := by decide +kernel
theorem dL_personAt_1 : decode cL_personAt 1 = .ok (.iconst 0, 1) := by decide +kernel
theorem dL_personAt_2 : decode cL_personAt 2 = .ok (.aload_n 0, 1) := by decide +kernel
theorem dL_personAt_3 : decode cL_personAt 3 = .ok (.iload_n 1, 1) := by decide +kernel
theorem dL_personAt_4 : decode cL_personAt 4 = .ok (.invokevirtual 131, 3) := by decide +kernel
theorem dL_personAt_7 : decode cL_personAt 7 = .ok (.i2l, 1) := by decide +kernel
theorem dL_personAt_8 : decode cL_personAt 8 = .ok (.lastore, 1) := by decide +kernel
theorem dL_personAt_9 : decode cL_personAt 9 = .ok (.goto 6, 3) := by decide +kernel
theorem dL_personAt_12 : decode cL_personAt 12 = .ok (.astore_n 3, 1) := by decide +kernel
theorem dL_personAt_13 : decode cL_personAt 13 = .ok (.iconst 1, 1) := by decide +kernel
theorem dL_personAt_14 : decode cL_personAt 14 = .ok (.ireturn, 1) := by decide +kernel
theorem dL_personAt_15 : decode cL_personAt 15 = .ok (.iconst 0, 1) := by decide +kernel
theorem dL_personAt_16 : decode cL_personAt 16 = .ok (.ireturn, 1) := by decide +kernel
theorem dL_minuteAt_0 : decode cL_minuteAt 0 = .ok (.aload_n 2, 1) := by decide +kernel
theorem dL_minuteAt_1 : decode cL_minuteAt 1 = .ok (.iconst 0, 1) := by decide +kernel
theorem dL_minuteAt_2 : decode cL_minuteAt 2 = .ok (.aload_n 0, 1) := by decide +kernel
theorem dL_minuteAt_3 : decode cL_minuteAt 3 = .ok (.iload_n 1, 1) := by decide +kernel
theorem dL_minuteAt_4 : decode cL_minuteAt 4 = .ok (.invokevirtual 134, 3) := by decide +kernel
theorem dL_minuteAt_7 : decode cL_minuteAt 7 = .ok (.i2l, 1) := by decide +kernel
theorem dL_minuteAt_8 : decode cL_minuteAt 8 = .ok (.lastore, 1) := by decide +kernel
theorem dL_minuteAt_9 : decode cL_minuteAt 9 = .ok (.goto 6, 3) := by decide +kernel
theorem dL_minuteAt_12 : decode cL_minuteAt 12 = .ok (.astore_n 3, 1) := by decide +kernel
theorem dL_minuteAt_13 : decode cL_minuteAt 13 = .ok (.iconst 1, 1) := by decide +kernel
theorem dL_minuteAt_14 : decode cL_minuteAt 14 = .ok (.ireturn, 1) := by decide +kernel
theorem dL_minuteAt_15 : decode cL_minuteAt 15 = .ok (.iconst 0, 1) := by decide +kernel
theorem dL_minuteAt_16 : decode cL_minuteAt 16 = .ok (.ireturn, 1) := by decide +kernel
theorem dL_stateByLog_0 : decode cL_stateByLog 0 = .ok (.aload_n 2, 1) := by decide +kernel
theorem dL_stateByLog_1 : decode cL_stateByLog 1 = .ok (.iconst 0, 1) := by decide +kernel
theorem dL_stateByLog_2 : decode cL_stateByLog 2 = .ok (.aload_n 0, 1) := by decide +kernel
theorem dL_stateByLog_3 : decode cL_stateByLog 3 = .ok (.iload_n 1, 1) := by decide +kernel
theorem dL_stateByLog_4 : decode cL_stateByLog 4 = .ok (.invokevirtual 137, 3) := by decide +kernel
theorem dL_stateByLog_7 : decode cL_stateByLog 7 = .ok (.i2l, 1) := by decide +kernel
theorem dL_stateByLog_8 : decode cL_stateByLog 8 = .ok (.lastore, 1) := by decide +kernel
theorem dL_stateByLog_9 : decode cL_stateByLog 9 = .ok (.goto 9, 3) := by decide +kernel
theorem dL_stateByLog_12 : decode cL_stateByLog 12 = .ok (.astore_n 3, 1) := by decide +kernel
theorem dL_stateByLog_13 : decode cL_stateByLog 13 = .ok (.iconst 1, 1) := by decide +kernel
theorem dL_stateByLog_14 : decode cL_stateByLog 14 = .ok (.ireturn, 1) := by decide +kernel
theorem dL_stateByLog_15 : decode cL_stateByLog 15 = .ok (.astore_n 3, 1) := by decide +kernel
theorem dL_stateByLog_16 : decode cL_stateByLog 16 = .ok (.iconst 2, 1) := by decide +kernel
theorem dL_stateByLog_17 : decode cL_stateByLog 17 = .ok (.ireturn, 1) := by decide +kernel
theorem dL_stateByLog_18 : decode cL_stateByLog 18 = .ok (.iconst 0, 1) := by decide +kernel
theorem dL_stateByLog_19 : decode cL_stateByLog 19 = .ok (.ireturn, 1) := by decide +kernel
theorem dL_triesByLog_0 : decode cL_triesByLog 0 = .ok (.aload_n 2, 1) := by decide +kernel
theorem dL_triesByLog_1 : decode cL_triesByLog 1 = .ok (.iconst 0, 1) := by decide +kernel
theorem dL_triesByLog_2 : decode cL_triesByLog 2 = .ok (.aload_n 0, 1) := by decide +kernel
theorem dL_triesByLog_3 : decode cL_triesByLog 3 = .ok (.iload_n 1, 1) := by decide +kernel
theorem dL_triesByLog_4 : decode cL_triesByLog 4 = .ok (.invokevirtual 140, 3) := by decide +kernel
theorem dL_triesByLog_7 : decode cL_triesByLog 7 = .ok (.i2l, 1) := by decide +kernel
theorem dL_triesByLog_8 : decode cL_triesByLog 8 = .ok (.lastore, 1) := by decide +kernel
theorem dL_triesByLog_9 : decode cL_triesByLog 9 = .ok (.goto 9, 3) := by decide +kernel
theorem dL_triesByLog_12 : decode cL_triesByLog 12 = .ok (.astore_n 3, 1) := by decide +kernel
theorem dL_triesByLog_13 : decode cL_triesByLog 13 = .ok (.iconst 1, 1) := by decide +kernel
theorem dL_triesByLog_14 : decode cL_triesByLog 14 = .ok (.ireturn, 1) := by decide +kernel
theorem dL_triesByLog_15 : decode cL_triesByLog 15 = .ok (.astore_n 3, 1) := by decide +kernel
theorem dL_triesByLog_16 : decode cL_triesByLog 16 = .ok (.iconst 2, 1) := by decide +kernel
theorem dL_triesByLog_17 : decode cL_triesByLog 17 = .ok (.ireturn, 1) := by decide +kernel
theorem dL_triesByLog_18 : decode cL_triesByLog 18 = .ok (.iconst 0, 1) := by decide +kernel
theorem dL_triesByLog_19 : decode cL_triesByLog 19 = .ok (.ireturn, 1) := by decide +kernel
theorem dL_labelLength_0 : decode cL_labelLength 0 = .ok (.aload_n 2, 1) := by decide +kernel
theorem dL_labelLength_1 : decode cL_labelLength 1 = .ok (.iconst 0, 1) := by decide +kernel
theorem dL_labelLength_2 : decode cL_labelLength 2 = .ok (.aload_n 0, 1) := by decide +kernel
theorem dL_labelLength_3 : decode cL_labelLength 3 = .ok (.iload_n 1, 1) := by decide +kernel
theorem dL_labelLength_4 : decode cL_labelLength 4 = .ok (.invokevirtual 143, 3) := by decide +kernel
theorem dL_labelLength_7 : decode cL_labelLength 7 = .ok (.i2l, 1) := by decide +kernel
theorem dL_labelLength_8 : decode cL_labelLength 8 = .ok (.lastore, 1) := by decide +kernel
theorem dL_labelLength_9 : decode cL_labelLength 9 = .ok (.goto 6, 3) := by decide +kernel
theorem dL_labelLength_12 : decode cL_labelLength 12 = .ok (.astore_n 3, 1) := by decide +kernel
theorem dL_labelLength_13 : decode cL_labelLength 13 = .ok (.iconst 1, 1) := by decide +kernel
theorem dL_labelLength_14 : decode cL_labelLength 14 = .ok (.ireturn, 1) := by decide +kernel
theorem dL_labelLength_15 : decode cL_labelLength 15 = .ok (.iconst 0, 1) := by decide +kernel
theorem dL_labelLength_16 : decode cL_labelLength 16 = .ok (.ireturn, 1) := by decide +kernel
theorem dL_labelAt_0 : decode cL_labelAt 0 = .ok (.aload_n 3, 1) := by decide +kernel
theorem dL_labelAt_1 : decode cL_labelAt 1 = .ok (.iconst 0, 1) := by decide +kernel
theorem dL_labelAt_2 : decode cL_labelAt 2 = .ok (.aload_n 0, 1) := by decide +kernel
theorem dL_labelAt_3 : decode cL_labelAt 3 = .ok (.iload_n 1, 1) := by decide +kernel
theorem dL_labelAt_4 : decode cL_labelAt 4 = .ok (.iload_n 2, 1) := by decide +kernel
theorem dL_labelAt_5 : decode cL_labelAt 5 = .ok (.invokevirtual 146, 3) := by decide +kernel
theorem dL_labelAt_8 : decode cL_labelAt 8 = .ok (.i2l, 1) := by decide +kernel
theorem dL_labelAt_9 : decode cL_labelAt 9 = .ok (.lastore, 1) := by decide +kernel
theorem dL_labelAt_10 : decode cL_labelAt 10 = .ok (.goto 11, 3) := by decide +kernel
theorem dL_labelAt_13 : decode cL_labelAt 13 = .ok (.astore 4, 2) := by decide +kernel
theorem dL_labelAt_15 : decode cL_labelAt 15 = .ok (.iconst 1, 1) := by decide +kernel
theorem dL_labelAt_16 : decode cL_labelAt 16 = .ok (.ireturn, 1) := by decide +kernel
theorem dL_labelAt_17 : decode cL_labelAt 17 = .ok (.astore 4, 2) := by decide +kernel
theorem dL_labelAt_19 : decode cL_labelAt 19 = .ok (.iconst 2, 1) := by decide +kernel
theorem dL_labelAt_20 : decode cL_labelAt 20 = .ok (.ireturn, 1) := by decide +kernel
theorem dL_labelAt_21 : decode cL_labelAt 21 = .ok (.iconst 0, 1) := by decide +kernel
theorem dL_labelAt_22 : decode cL_labelAt 22 = .ok (.ireturn, 1) := by decide +kernel
theorem dL_doneShare_0 : decode cL_doneShare 0 = .ok (.aload_n 1, 1) := by decide +kernel
theorem dL_doneShare_1 : decode cL_doneShare 1 = .ok (.iconst 0, 1) := by decide +kernel
theorem dL_doneShare_2 : decode cL_doneShare 2 = .ok (.aload_n 0, 1) := by decide +kernel
theorem dL_doneShare_3 : decode cL_doneShare 3 = .ok (.invokevirtual 150, 3) := by decide +kernel
theorem dL_doneShare_6 : decode cL_doneShare 6 = .ok (.f2d, 1) := by decide +kernel
theorem dL_doneShare_7 : decode cL_doneShare 7 = .ok (.dastore, 1) := by decide +kernel
theorem dL_doneShare_8 : decode cL_doneShare 8 = .ok (.goto 6, 3) := by decide +kernel
theorem dL_doneShare_11 : decode cL_doneShare 11 = .ok (.astore_n 2, 1) := by decide +kernel
theorem dL_doneShare_12 : decode cL_doneShare 12 = .ok (.iconst 1, 1) := by decide +kernel
theorem dL_doneShare_13 : decode cL_doneShare 13 = .ok (.ireturn, 1) := by decide +kernel
theorem dL_doneShare_14 : decode cL_doneShare 14 = .ok (.iconst 0, 1) := by decide +kernel
theorem dL_doneShare_15 : decode cL_doneShare 15 = .ok (.ireturn, 1) := by decide +kernel
theorem dL_meanTries_0 : decode cL_meanTries 0 = .ok (.aload_n 1, 1) := by decide +kernel
theorem dL_meanTries_1 : decode cL_meanTries 1 = .ok (.iconst 0, 1) := by decide +kernel
theorem dL_meanTries_2 : decode cL_meanTries 2 = .ok (.aload_n 0, 1) := by decide +kernel
theorem dL_meanTries_3 : decode cL_meanTries 3 = .ok (.invokevirtual 154, 3) := by decide +kernel
theorem dL_meanTries_6 : decode cL_meanTries 6 = .ok (.dastore, 1) := by decide +kernel
theorem dL_meanTries_7 : decode cL_meanTries 7 = .ok (.goto 6, 3) := by decide +kernel
theorem dL_meanTries_10 : decode cL_meanTries 10 = .ok (.astore_n 2, 1) := by decide +kernel
theorem dL_meanTries_11 : decode cL_meanTries 11 = .ok (.iconst 1, 1) := by decide +kernel
theorem dL_meanTries_12 : decode cL_meanTries 12 = .ok (.ireturn, 1) := by decide +kernel
theorem dL_meanTries_13 : decode cL_meanTries 13 = .ok (.iconst 0, 1) := by decide +kernel
theorem dL_meanTries_14 : decode cL_meanTries 14 = .ok (.ireturn, 1) := by decide +kernel
