theorem dL_missed_4 : decode cL_missed 4 = .ok (.invokevirtual 56, 3) := by decide +kernel
theorem dL_missed_7 : decode cL_missed 7 = .ok (.i2l, 1) := by decide +kernel
theorem dL_missed_8 : decode cL_missed 8 = .ok (.lastore, 1) := by decide +kernel
theorem dL_missed_9 : decode cL_missed 9 = .ok (.goto 6, 3) := by decide +kernel
theorem dL_missed_12 : decode cL_missed 12 = .ok (.astore_n 3, 1) := by decide +kernel
theorem dL_missed_13 : decode cL_missed 13 = .ok (.iconst 1, 1) := by decide +kernel
theorem dL_missed_14 : decode cL_missed 14 = .ok (.ireturn, 1) := by decide +kernel
theorem dL_missed_15 : decode cL_missed 15 = .ok (.iconst 0, 1) := by decide +kernel
theorem dL_missed_16 : decode cL_missed 16 = .ok (.ireturn, 1) := by decide +kernel
theorem dL_programme_0 : decode cL_programme 0 = .ok (.aload_n 3, 1) := by decide +kernel
theorem dL_programme_1 : decode cL_programme 1 = .ok (.iconst 0, 1) := by decide +kernel
theorem dL_programme_2 : decode cL_programme 2 = .ok (.aload_n 0, 1) := by decide +kernel
theorem dL_programme_3 : decode cL_programme 3 = .ok (.iload_n 1, 1) := by decide +kernel
theorem dL_programme_4 : decode cL_programme 4 = .ok (.iload_n 2, 1) := by decide +kernel
theorem dL_programme_5 : decode cL_programme 5 = .ok (.invokevirtual 59, 3) := by decide +kernel
theorem dL_programme_8 : decode cL_programme 8 = .ok (.i2l, 1) := by decide +kernel
theorem dL_programme_9 : decode cL_programme 9 = .ok (.lastore, 1) := by decide +kernel
theorem dL_programme_10 : decode cL_programme 10 = .ok (.goto 7, 3) := by decide +kernel
theorem dL_programme_13 : decode cL_programme 13 = .ok (.astore 4, 2) := by decide +kernel
theorem dL_programme_15 : decode cL_programme 15 = .ok (.iconst 1, 1) := by decide +kernel
theorem dL_programme_16 : decode cL_programme 16 = .ok (.ireturn, 1) := by decide +kernel
theorem dL_programme_17 : decode cL_programme 17 = .ok (.iconst 0, 1) := by decide +kernel
theorem dL_programme_18 : decode cL_programme 18 = .ok (.ireturn, 1) := by decide +kernel
theorem dL_duration_0 : decode cL_duration 0 = .ok (.aload_n 3, 1) := by decide +kernel
theorem dL_duration_1 : decode cL_duration 1 = .ok (.iconst 0, 1) := by decide +kernel
theorem dL_duration_2 : decode cL_duration 2 = .ok (.aload_n 0, 1) := by decide +kernel
theorem dL_duration_3 : decode cL_duration 3 = .ok (.iload_n 1, 1) := by decide +kernel
theorem dL_duration_4 : decode cL_duration 4 = .ok (.iload_n 2, 1) := by decide +kernel
theorem dL_duration_5 : decode cL_duration 5 = .ok (.invokevirtual 62, 3) := by decide +kernel
theorem dL_duration_8 : decode cL_duration 8 = .ok (.i2l, 1) := by decide +kernel
theorem dL_duration_9 : decode cL_duration 9 = .ok (.lastore, 1) := by decide +kernel
theorem dL_duration_10 : decode cL_duration 10 = .ok (.goto 7, 3) := by decide +kernel
theorem dL_duration_13 : decode cL_duration 13 = .ok (.astore 4, 2) := by decide +kernel
theorem dL_duration_15 : decode cL_duration 15 = .ok (.iconst 1, 1) := by decide +kernel
theorem dL_duration_16 : decode cL_duration 16 = .ok (.ireturn, 1) := by decide +kernel
theorem dL_duration_17 : decode cL_duration 17 = .ok (.iconst 0, 1) := by decide +kernel
theorem dL_duration_18 : decode cL_duration 18 = .ok (.ireturn, 1) := by decide +kernel
theorem dL_rehearse_0 : decode cL_rehearse 0 = .ok (.aload_n 3, 1) := by decide +kernel
theorem dL_rehearse_1 : decode cL_rehearse 1 = .ok (.iconst 0, 1) := by decide +kernel
theorem dL_rehearse_2 : decode cL_rehearse 2 = .ok (.aload_n 0, 1) := by decide +kernel
theorem dL_rehearse_3 : decode cL_rehearse 3 = .ok (.iload_n 1, 1) := by decide +kernel
theorem dL_rehearse_4 : decode cL_rehearse 4 = .ok (.iload_n 2, 1) := by decide +kernel
theorem dL_rehearse_5 : decode cL_rehearse 5 = .ok (.invokevirtual 65, 3) := by decide +kernel
theorem dL_rehearse_8 : decode cL_rehearse 8 = .ok (.i2l, 1) := by decide +kernel
theorem dL_rehearse_9 : decode cL_rehearse 9 = .ok (.lastore, 1) := by decide +kernel
theorem dL_rehearse_10 : decode cL_rehearse 10 = .ok (.goto 11, 3) := by decide +kernel
theorem dL_rehearse_13 : decode cL_rehearse 13 = .ok (.astore 4, 2) := by decide +kernel
theorem dL_rehearse_15 : decode cL_rehearse 15 = .ok (.iconst 1, 1) := by decide +kernel
theorem dL_rehearse_16 : decode cL_rehearse 16 = .ok (.ireturn, 1) := by decide +kernel
theorem dL_rehearse_17 : decode cL_rehearse 17 = .ok (.astore 4, 2) := by decide +kernel
theorem dL_rehearse_19 : decode cL_rehearse 19 = .ok (.iconst 2, 1) := by decide +kernel
theorem dL_rehearse_20 : decode cL_rehearse 20 = .ok (.ireturn, 1) := by decide +kernel
theorem dL_rehearse_21 : decode cL_rehearse 21 = .ok (.iconst 0, 1) := by decide +kernel
theorem dL_rehearse_22 : decode cL_rehearse 22 = .ok (.ireturn, 1) := by decide +kernel
theorem dL_weakness_0 : decode cL_weakness 0 = .ok (.aload_n 3, 1) := by decide +kernel
theorem dL_weakness_1 : decode cL_weakness 1 = .ok (.iconst 0, 1) := by decide +kernel
theorem dL_weakness_2 : decode cL_weakness 2 = .ok (.aload_n 0, 1) := by decide +kernel
theorem dL_weakness_3 : decode cL_weakness 3 = .ok (.iload_n 1, 1) := by decide +kernel
theorem dL_weakness_4 : decode cL_weakness 4 = .ok (.iload_n 2, 1) := by decide +kernel
theorem dL_weakness_5 : decode cL_weakness 5 = .ok (.invokevirtual 68, 3) := by decide +kernel
theorem dL_weakness_8 : decode cL_weakness 8 = .ok (.i2l, 1) := by decide +kernel
theorem dL_weakness_9 : decode cL_weakness 9 = .ok (.lastore, 1) := by decide +kernel
theorem dL_weakness_10 : decode cL_weakness 10 = .ok (.goto 7, 3) := by decide +kernel
theorem dL_weakness_13 : decode cL_weakness 13 = .ok (.astore 4, 2) := by decide +kernel
theorem dL_weakness_15 : decode cL_weakness 15 = .ok (.iconst 1, 1) := by decide +kernel
theorem dL_weakness_16 : decode cL_weakness 16 = .ok (.ireturn, 1) := by decide +kernel
theorem dL_weakness_17 : decode cL_weakness 17 = .ok (.iconst 0, 1) := by decide +kernel
theorem dL_weakness_18 : decode cL_weakness 18 = .ok (.ireturn, 1) := by decide +kernel
theorem dL_weakest_0 : decode cL_weakest 0 = .ok (.aload_n 2, 1) := by decide +kernel
theorem dL_weakest_1 : decode cL_weakest 1 = .ok (.iconst 0, 1) := by decide +kernel
theorem dL_weakest_2 : decode cL_weakest 2 = .ok (.aload_n 0, 1) := by decide +kernel
theorem dL_weakest_3 : decode cL_weakest 3 = .ok (.iload_n 1, 1) := by decide +kernel
theorem dL_weakest_4 : decode cL_weakest 4 = .ok (.invokevirtual 71, 3) := by decide +kernel
theorem dL_weakest_7 : decode cL_weakest 7 = .ok (.i2l, 1) := by decide +kernel
theorem dL_weakest_8 : decode cL_weakest 8 = .ok (.lastore, 1) := by decide +kernel
theorem dL_weakest_9 : decode cL_weakest 9 = .ok (.goto 6, 3) := by decide +kernel
theorem dL_weakest_12 : decode cL_weakest 12 = .ok (.astore_n 3, 1) := by decide +kernel
theorem dL_weakest_13 : decode cL_weakest 13 = .ok (.iconst 1, 1) := by decide +kernel
theorem dL_weakest_14 : decode cL_weakest 14 = .ok (.ireturn, 1) := by decide +kernel
theorem dL_weakest_15 : decode cL_weakest 15 = .ok (.iconst 0, 1) := by decide +kernel
theorem dL_weakest_16 : decode cL_weakest 16 = .ok (.ireturn, 1) := by decide +kernel
