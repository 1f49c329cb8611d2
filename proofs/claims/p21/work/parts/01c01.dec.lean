theorem dX2_rehearse_50 : decode cX2_rehearse 50 = .ok (.ireturn, 1) := by decide +kernel
theorem dX2_weakness_0 : decode cX2_weakness 0 = .ok (.aload_n 0, 1) := by decide +kernel
theorem dX2_weakness_1 : decode cX2_weakness 1 = .ok (.iload_n 1, 1) := by decide +kernel
theorem dX2_weakness_2 : decode cX2_weakness 2 = .ok (.invokevirtual 102, 3) := by decide +kernel
theorem dX2_weakness_5 : decode cX2_weakness 5 = .ok (.astore_n 3, 1) := by decide +kernel
theorem dX2_weakness_6 : decode cX2_weakness 6 = .ok (.aload_n 3, 1) := by decide +kernel
theorem dX2_weakness_7 : decode cX2_weakness 7 = .ok (.iload_n 2, 1) := by decide +kernel
theorem dX2_weakness_8 : decode cX2_weakness 8 = .ok (.invokestatic 106, 3) := by decide +kernel
theorem dX2_weakness_11 : decode cX2_weakness 11 = .ok (.aload_n 3, 1) := by decide +kernel
theorem dX2_weakness_12 : decode cX2_weakness 12 = .ok (.iload_n 2, 1) := by decide +kernel
theorem dX2_weakness_13 : decode cX2_weakness 13 = .ok (.invokevirtual 171, 3) := by decide +kernel
theorem dX2_weakness_16 : decode cX2_weakness 16 = .ok (.ireturn, 1) := by decide +kernel
theorem dX2_weakest_0 : decode cX2_weakest 0 = .ok (.aload_n 0, 1) := by decide +kernel
theorem dX2_weakest_1 : decode cX2_weakest 1 = .ok (.iload_n 1, 1) := by decide +kernel
theorem dX2_weakest_2 : decode cX2_weakest 2 = .ok (.invokevirtual 102, 3) := by decide +kernel
theorem dX2_weakest_5 : decode cX2_weakest 5 = .ok (.invokevirtual 174, 3) := by decide +kernel
theorem dX2_weakest_8 : decode cX2_weakest 8 = .ok (.ireturn, 1) := by decide +kernel
theorem dX2_checkVoice_0 : decode cX2_checkVoice 0 = .ok (.iload_n 0, 1) := by decide +kernel
theorem dX2_checkVoice_1 : decode cX2_checkVoice 1 = .ok (.ifCond .lt 8, 3) := by decide +kernel
theorem dX2_checkVoice_4 : decode cX2_checkVoice 4 = .ok (.iload_n 0, 1) := by decide +kernel
theorem dX2_checkVoice_5 : decode cX2_checkVoice 5 = .ok (.iconst 4, 1) := by decide +kernel
theorem dX2_checkVoice_6 : decode cX2_checkVoice 6 = .ok (.if_icmp .lt 13, 3) := by decide +kernel
theorem dX2_checkVoice_9 : decode cX2_checkVoice 9 = .ok (.new 35, 3) := by decide +kernel
theorem dX2_checkVoice_12 : decode cX2_checkVoice 12 = .ok (.dup, 1) := by decide +kernel
theorem dX2_checkVoice_13 : decode cX2_checkVoice 13 = .ok (.ldc 177, 2) := by decide +kernel
theorem dX2_checkVoice_15 : decode cX2_checkVoice 15 = .ok (.invokespecial 39, 3) := by decide +kernel
theorem dX2_checkVoice_18 : decode cX2_checkVoice 18 = .ok (.athrow, 1) := by decide +kernel
theorem dX2_checkVoice_19 : decode cX2_checkVoice 19 = .ok (.return_, 1) := by decide +kernel
theorem dX2_checkTone_0 : decode cX2_checkTone 0 = .ok (.iload_n 0, 1) := by decide +kernel
theorem dX2_checkTone_1 : decode cX2_checkTone 1 = .ok (.ifCond .lt 8, 3) := by decide +kernel
theorem dX2_checkTone_4 : decode cX2_checkTone 4 = .ok (.iload_n 0, 1) := by decide +kernel
theorem dX2_checkTone_5 : decode cX2_checkTone 5 = .ok (.iload_n 1, 1) := by decide +kernel
theorem dX2_checkTone_6 : decode cX2_checkTone 6 = .ok (.if_icmp .le 13, 3) := by decide +kernel
theorem dX2_checkTone_9 : decode cX2_checkTone 9 = .ok (.new 35, 3) := by decide +kernel
theorem dX2_checkTone_12 : decode cX2_checkTone 12 = .ok (.dup, 1) := by decide +kernel
theorem dX2_checkTone_13 : decode cX2_checkTone 13 = .ok (.ldc 179, 2) := by decide +kernel
theorem dX2_checkTone_15 : decode cX2_checkTone 15 = .ok (.invokespecial 39, 3) := by decide +kernel
theorem dX2_checkTone_18 : decode cX2_checkTone 18 = .ok (.athrow, 1) := by decide +kernel
theorem dX2_checkTone_19 : decode cX2_checkTone 19 = .ok (.return_, 1) := by decide +kernel
theorem dX2_checkDate_0 : decode cX2_checkDate 0 = .ok (.iload_n 0, 1) := by decide +kernel
theorem dX2_checkDate_1 : decode cX2_checkDate 1 = .ok (.ifCond .lt 9, 3) := by decide +kernel
theorem dX2_checkDate_4 : decode cX2_checkDate 4 = .ok (.iload_n 0, 1) := by decide +kernel
theorem dX2_checkDate_5 : decode cX2_checkDate 5 = .ok (.bipush 31, 2) := by decide +kernel
theorem dX2_checkDate_7 : decode cX2_checkDate 7 = .ok (.if_icmp .lt 13, 3) := by decide +kernel
theorem dX2_checkDate_10 : decode cX2_checkDate 10 = .ok (.new 35, 3) := by decide +kernel
theorem dX2_checkDate_13 : decode cX2_checkDate 13 = .ok (.dup, 1) := by decide +kernel
theorem dX2_checkDate_14 : decode cX2_checkDate 14 = .ok (.ldc 181, 2) := by decide +kernel
theorem dX2_checkDate_16 : decode cX2_checkDate 16 = .ok (.invokespecial 39, 3) := by decide +kernel
theorem dX2_checkDate_19 : decode cX2_checkDate 19 = .ok (.athrow, 1) := by decide +kernel
theorem dX2_checkDate_20 : decode cX2_checkDate 20 = .ok (.return_, 1) := by decide +kernel
theorem dX2_checkTime_0 : decode cX2_checkTime 0 = .ok (.iload_n 0, 1) := by decide +kernel
theorem dX2_checkTime_1 : decode cX2_checkTime 1 = .ok (.ifCond .lt 10, 3) := by decide +kernel
theorem dX2_checkTime_4 : decode cX2_checkTime 4 = .ok (.iload_n 0, 1) := by decide +kernel
theorem dX2_checkTime_5 : decode cX2_checkTime 5 = .ok (.sipush 20000, 3) := by decide +kernel
theorem dX2_checkTime_8 : decode cX2_checkTime 8 = .ok (.if_icmp .le 13, 3) := by decide +kernel
theorem dX2_checkTime_11 : decode cX2_checkTime 11 = .ok (.new 35, 3) := by decide +kernel
theorem dX2_checkTime_14 : decode cX2_checkTime 14 = .ok (.dup, 1) := by decide +kernel
theorem dX2_checkTime_15 : decode cX2_checkTime 15 = .ok (.ldc 183, 2) := by decide +kernel
theorem dX2_checkTime_17 : decode cX2_checkTime 17 = .ok (.invokespecial 39, 3) := by decide +kernel
theorem dX2_checkTime_20 : decode cX2_checkTime 20 = .ok (.athrow, 1) := by decide +kernel
theorem dX2_checkTime_21 : decode cX2_checkTime 21 = .ok (.return_, 1) := by decide +kernel
theorem dX2_checkSinger_0 : decode cX2_checkSinger 0 = .ok (.aload_n 0, 1) := by decide +kernel
theorem dX2_checkSinger_1 : decode cX2_checkSinger 1 = .ok (.getfield 12, 3) := by decide +kernel
theorem dX2_checkSinger_4 : decode cX2_checkSinger 4 = .ok (.iload_n 1, 1) := by decide +kernel
theorem dX2_checkSinger_5 : decode cX2_checkSinger 5 = .ok (.invokevirtual 185, 3) := by decide +kernel
theorem dX2_checkSinger_8 : decode cX2_checkSinger 8 = .ok (.ifCond .ne 13, 3) := by decide +kernel
theorem dX2_checkSinger_11 : decode cX2_checkSinger 11 = .ok (.new 137, 3) := by decide +kernel
theorem dX2_checkSinger_14 : decode cX2_checkSinger 14 = .ok (.dup, 1) := by decide +kernel
theorem dX2_checkSinger_15 : decode cX2_checkSinger 15 = .ok (.ldc 188, 2) := by decide +kernel
theorem dX2_checkSinger_17 : decode cX2_checkSinger 17 = .ok (.invokespecial 141, 3) := by decide +kernel
theorem dX2_checkSinger_20 : decode cX2_checkSinger 20 = .ok (.athrow, 1) := by decide +kernel
theorem dX2_checkSinger_21 : decode cX2_checkSinger 21 = .ok (.return_, 1) := by decide +kernel
theorem dX2_checkChord_0 : decode cX2_checkChord 0 = .ok (.aload_n 0, 1) := by decide +kernel
theorem dX2_checkChord_1 : decode cX2_checkChord 1 = .ok (.iload_n 1, 1) := by decide +kernel
theorem dX2_checkChord_2 : decode cX2_checkChord 2 = .ok (.invokevirtual 190, 3) := by decide +kernel
theorem dX2_checkChord_5 : decode cX2_checkChord 5 = .ok (.ifCond .ne 13, 3) := by decide +kernel
theorem dX2_checkChord_8 : decode cX2_checkChord 8 = .ok (.new 137, 3) := by decide +kernel
theorem dX2_checkChord_11 : decode cX2_checkChord 11 = .ok (.dup, 1) := by decide +kernel
theorem dX2_checkChord_12 : decode cX2_checkChord 12 = .ok (.ldc 191, 2) := by decide +kernel
theorem dX2_checkChord_14 : decode cX2_checkChord 14 = .ok (.invokespecial 141, 3) := by decide +kernel
theorem dX2_checkChord_17 : decode cX2_checkChord 17 = .ok (.athrow, 1) := by decide +kernel
theorem dX2_checkChord_18 : decode cX2_checkChord 18 = .ok (.return_, 1) := by decide +kernel
theorem dX2_pieceAt_0 : decode cX2_pieceAt 0 = .ok (.iload_n 1, 1) := by decide +kernel
theorem dX2_pieceAt_1 : decode cX2_pieceAt 1 = .ok (.ifCond .lt 20, 3) := by decide +kernel
theorem dX2_pieceAt_4 : decode cX2_pieceAt 4 = .ok (.iload_n 1, 1) := by decide +kernel
theorem dX2_pieceAt_5 : decode cX2_pieceAt 5 = .ok (.aload_n 0, 1) := by decide +kernel
theorem dX2_pieceAt_6 : decode cX2_pieceAt 6 = .ok (.getfield 93, 3) := by decide +kernel
theorem dX2_pieceAt_9 : decode cX2_pieceAt 9 = .ok (.if_icmp .ge 12, 3) := by decide +kernel
theorem dX2_pieceAt_12 : decode cX2_pieceAt 12 = .ok (.aload_n 0, 1) := by decide +kernel
theorem dX2_pieceAt_13 : decode cX2_pieceAt 13 = .ok (.getfield 18, 3) := by decide +kernel
theorem dX2_pieceAt_16 : decode cX2_pieceAt 16 = .ok (.iload_n 1, 1) := by decide +kernel
theorem dX2_pieceAt_17 : decode cX2_pieceAt 17 = .ok (.aaload, 1) := by decide +kernel
theorem dX2_pieceAt_18 : decode cX2_pieceAt 18 = .ok (.goto 4, 3) := by decide +kernel
theorem dX2_pieceAt_21 : decode cX2_pieceAt 21 = .ok (.aconst_null, 1) := by decide +kernel
theorem dX2_pieceAt_22 : decode cX2_pieceAt 22 = .ok (.astore_n 2, 1) := by decide +kernel
theorem dX2_pieceAt_23 : decode cX2_pieceAt 23 = .ok (.aload_n 2, 1) := by decide +kernel
theorem dX2_pieceAt_24 : decode cX2_pieceAt 24 = .ok (.ifnonnull 13, 3) := by decide +kernel
theorem dX2_pieceAt_27 : decode cX2_pieceAt 27 = .ok (.new 137, 3) := by decide +kernel
theorem dX2_pieceAt_30 : decode cX2_pieceAt 30 = .ok (.dup, 1) := by decide +kernel
theorem dX2_pieceAt_31 : decode cX2_pieceAt 31 = .ok (.ldc 193, 2) := by decide +kernel
theorem dX2_pieceAt_33 : decode cX2_pieceAt 33 = .ok (.invokespecial 141, 3) := by decide +kernel
theorem dX2_pieceAt_36 : decode cX2_pieceAt 36 = .ok (.athrow, 1) := by decide +kernel
theorem dX2_pieceAt_37 : decode cX2_pieceAt 37 = .ok (.aload_n 2, 1) := by decide +kernel
theorem dX2_pieceAt_38 : decode cX2_pieceAt 38 = .ok (.areturn, 1) := by decide +kernel
theorem dX2_nearestShift_0 : decode cX2_nearestShift 0 = .ok (.bipush (-12), 2) := by decide +kernel
theorem dX2_nearestShift_2 : decode cX2_nearestShift 2 = .ok (.istore_n 3, 1) := by decide +kernel
theorem dX2_nearestShift_3 : decode cX2_nearestShift 3 = .ok (.bipush 12, 2) := by decide +kernel
theorem dX2_nearestShift_5 : decode cX2_nearestShift 5 = .ok (.istore 4, 2) := by decide +kernel
theorem dX2_nearestShift_7 : decode cX2_nearestShift 7 = .ok (.iconst 0, 1) := by decide +kernel
theorem dX2_nearestShift_8 : decode cX2_nearestShift 8 = .ok (.istore 5, 2) := by decide +kernel
theorem dX2_nearestShift_10 : decode cX2_nearestShift 10 = .ok (.iload 5, 2) := by decide +kernel
theorem dX2_nearestShift_12 : decode cX2_nearestShift 12 = .ok (.iconst 4, 1) := by decide +kernel
theorem dX2_nearestShift_13 : decode cX2_nearestShift 13 = .ok (.if_icmp .ge 55, 3) := by decide +kernel
theorem dX2_nearestShift_16 : decode cX2_nearestShift 16 = .ok (.iload_n 3, 1) := by decide +kernel
theorem dX2_nearestShift_17 : decode cX2_nearestShift 17 = .ok (.aload_n 0, 1) := by decide +kernel
theorem dX2_nearestShift_18 : decode cX2_nearestShift 18 = .ok (.getfield 12, 3) := by decide +kernel
theorem dX2_nearestShift_21 : decode cX2_nearestShift 21 = .ok (.iload 5, 2) := by decide +kernel
theorem dX2_nearestShift_23 : decode cX2_nearestShift 23 = .ok (.iload_n 2, 1) := by decide +kernel
theorem dX2_nearestShift_24 : decode cX2_nearestShift 24 = .ok (.invokevirtual 73, 3) := by decide +kernel
theorem dX2_nearestShift_27 : decode cX2_nearestShift 27 = .ok (.aload_n 1, 1) := by decide +kernel
theorem dX2_nearestShift_28 : decode cX2_nearestShift 28 = .ok (.iload 5, 2) := by decide +kernel
theorem dX2_nearestShift_30 : decode cX2_nearestShift 30 = .ok (.invokevirtual 195, 3) := by decide +kernel
theorem dX2_nearestShift_33 : decode cX2_nearestShift 33 = .ok (.isub, 1) := by decide +kernel
theorem dX2_nearestShift_34 : decode cX2_nearestShift 34 = .ok (.invokestatic 198, 3) := by decide +kernel
theorem dX2_nearestShift_37 : decode cX2_nearestShift 37 = .ok (.istore_n 3, 1) := by decide +kernel
theorem dX2_nearestShift_38 : decode cX2_nearestShift 38 = .ok (.iload 4, 2) := by decide +kernel
theorem dX2_nearestShift_40 : decode cX2_nearestShift 40 = .ok (.aload_n 0, 1) := by decide +kernel
theorem dX2_nearestShift_41 : decode cX2_nearestShift 41 = .ok (.getfield 12, 3) := by decide +kernel
theorem dX2_nearestShift_44 : decode cX2_nearestShift 44 = .ok (.iload 5, 2) := by decide +kernel
theorem dX2_nearestShift_46 : decode cX2_nearestShift 46 = .ok (.iload_n 2, 1) := by decide +kernel
theorem dX2_nearestShift_47 : decode cX2_nearestShift 47 = .ok (.invokevirtual 76, 3) := by decide +kernel
theorem dX2_nearestShift_50 : decode cX2_nearestShift 50 = .ok (.aload_n 1, 1) := by decide +kernel
theorem dX2_nearestShift_51 : decode cX2_nearestShift 51 = .ok (.iload 5, 2) := by decide +kernel
theorem dX2_nearestShift_53 : decode cX2_nearestShift 53 = .ok (.invokevirtual 203, 3) := by decide +kernel
theorem dX2_nearestShift_56 : decode cX2_nearestShift 56 = .ok (.isub, 1) := by decide +kernel
theorem dX2_nearestShift_57 : decode cX2_nearestShift 57 = .ok (.invokestatic 206, 3) := by decide +kernel
theorem dX2_nearestShift_60 : decode cX2_nearestShift 60 = .ok (.istore 4, 2) := by decide +kernel
theorem dX2_nearestShift_62 : decode cX2_nearestShift 62 = .ok (.iinc 5 1, 3) := by decide +kernel
theorem dX2_nearestShift_65 : decode cX2_nearestShift 65 = .ok (.goto (-55), 3) := by decide +kernel
theorem dX2_nearestShift_68 : decode cX2_nearestShift 68 = .ok (.iload_n 3, 1) := by decide +kernel
theorem dX2_nearestShift_69 : decode cX2_nearestShift 69 = .ok (.iload 4, 2) := by decide +kernel
theorem dX2_nearestShift_71 : decode cX2_nearestShift 71 = .ok (.if_icmp .le 8, 3) := by decide +kernel
theorem dX2_nearestShift_74 : decode cX2_nearestShift 74 = .ok (.bipush 13, 2) := by decide +kernel
theorem dX2_nearestShift_76 : decode cX2_nearestShift 76 = .ok (.goto 13, 3) := by decide +kernel
theorem dX2_nearestShift_79 : decode cX2_nearestShift 79 = .ok (.iload_n 3, 1) := by decide +kernel
theorem dX2_nearestShift_80 : decode cX2_nearestShift 80 = .ok (.iload 4, 2) := by decide +kernel
theorem dX2_nearestShift_82 : decode cX2_nearestShift 82 = .ok (.iconst 0, 1) := by decide +kernel
theorem dX2_nearestShift_83 : decode cX2_nearestShift 83 = .ok (.invokestatic 206, 3) := by decide +kernel
theorem dX2_nearestShift_86 : decode cX2_nearestShift 86 = .ok (.invokestatic 198, 3) := by decide +kernel
theorem dX2_nearestShift_89 : decode cX2_nearestShift 89 = .ok (.ireturn, 1) := by decide +kernel
theorem dX2_bestSet_0 : decode cX2_bestSet 0 = .ok (.aload_n 0, 1) := by decide +kernel
theorem dX2_bestSet_1 : decode cX2_bestSet 1 = .ok (.iload_n 1, 1) := by decide +kernel
theorem dX2_bestSet_2 : decode cX2_bestSet 2 = .ok (.invokevirtual 209, 3) := by decide +kernel
theorem dX2_bestSet_5 : decode cX2_bestSet 5 = .ok (.istore_n 3, 1) := by decide +kernel
theorem dX2_bestSet_6 : decode cX2_bestSet 6 = .ok (.iconst 0, 1) := by decide +kernel
theorem dX2_bestSet_7 : decode cX2_bestSet 7 = .ok (.istore 4, 2) := by decide +kernel
theorem dX2_bestSet_9 : decode cX2_bestSet 9 = .ok (.iconst 1, 1) := by decide +kernel
theorem dX2_bestSet_10 : decode cX2_bestSet 10 = .ok (.istore 5, 2) := by decide +kernel
theorem dX2_bestSet_12 : decode cX2_bestSet 12 = .ok (.iload 5, 2) := by decide +kernel
theorem dX2_bestSet_14 : decode cX2_bestSet 14 = .ok (.iconst 1, 1) := by decide +kernel
theorem dX2_bestSet_15 : decode cX2_bestSet 15 = .ok (.aload_n 0, 1) := by decide +kernel
theorem dX2_bestSet_16 : decode cX2_bestSet 16 = .ok (.getfield 93, 3) := by decide +kernel
theorem dX2_bestSet_19 : decode cX2_bestSet 19 = .ok (.ishl, 1) := by decide +kernel
theorem dX2_bestSet_20 : decode cX2_bestSet 20 = .ok (.if_icmp .ge 43, 3) := by decide +kernel
theorem dX2_bestSet_23 : decode cX2_bestSet 23 = .ok (.iload 5, 2) := by decide +kernel
theorem dX2_bestSet_25 : decode cX2_bestSet 25 = .ok (.iload_n 3, 1) := by decide +kernel
theorem dX2_bestSet_26 : decode cX2_bestSet 26 = .ok (.iconst (-1), 1) := by decide +kernel
theorem dX2_bestSet_27 : decode cX2_bestSet 27 = .ok (.ixor, 1) := by decide +kernel
theorem dX2_bestSet_28 : decode cX2_bestSet 28 = .ok (.iand, 1) := by decide +kernel
theorem dX2_bestSet_29 : decode cX2_bestSet 29 = .ok (.ifCond .ne 28, 3) := by decide +kernel
theorem dX2_bestSet_32 : decode cX2_bestSet 32 = .ok (.aload_n 0, 1) := by decide +kernel
theorem dX2_bestSet_33 : decode cX2_bestSet 33 = .ok (.iload 5, 2) := by decide +kernel
theorem dX2_bestSet_35 : decode cX2_bestSet 35 = .ok (.invokevirtual 160, 3) := by decide +kernel
theorem dX2_bestSet_38 : decode cX2_bestSet 38 = .ok (.iload_n 2, 1) := by decide +kernel
theorem dX2_bestSet_39 : decode cX2_bestSet 39 = .ok (.if_icmp .gt 18, 3) := by decide +kernel
theorem dX2_bestSet_42 : decode cX2_bestSet 42 = .ok (.aload_n 0, 1) := by decide +kernel
theorem dX2_bestSet_43 : decode cX2_bestSet 43 = .ok (.iload 5, 2) := by decide +kernel
theorem dX2_bestSet_45 : decode cX2_bestSet 45 = .ok (.iload 4, 2) := by decide +kernel
theorem dX2_bestSet_47 : decode cX2_bestSet 47 = .ok (.invokevirtual 212, 3) := by decide +kernel
theorem dX2_bestSet_50 : decode cX2_bestSet 50 = .ok (.ifCond .eq 7, 3) := by decide +kernel
theorem dX2_bestSet_53 : decode cX2_bestSet 53 = .ok (.iload 5, 2) := by decide +kernel
theorem dX2_bestSet_55 : decode cX2_bestSet 55 = .ok (.istore 4, 2) := by decide +kernel
theorem dX2_bestSet_57 : decode cX2_bestSet 57 = .ok (.iinc 5 1, 3) := by decide +kernel
theorem dX2_bestSet_60 : decode cX2_bestSet 60 = .ok (.goto (-48), 3) := by decide +kernel
theorem dX2_bestSet_63 : decode cX2_bestSet 63 = .ok (.iload 4, 2) := by decide +kernel
theorem dX2_bestSet_65 : decode cX2_bestSet 65 = .ok (.ireturn, 1) := by decide +kernel
theorem dX2_singableSet_0 : decode cX2_singableSet 0 = .ok (.iconst 0, 1) := by decide +kernel
theorem dX2_singableSet_1 : decode cX2_singableSet 1 = .ok (.istore_n 2, 1) := by decide +kernel
theorem dX2_singableSet_2 : decode cX2_singableSet 2 = .ok (.iconst 0, 1) := by decide +kernel
theorem dX2_singableSet_3 : decode cX2_singableSet 3 = .ok (.istore_n 3, 1) := by decide +kernel
theorem dX2_singableSet_4 : decode cX2_singableSet 4 = .ok (.iload_n 3, 1) := by decide +kernel
theorem dX2_singableSet_5 : decode cX2_singableSet 5 = .ok (.aload_n 0, 1) := by decide +kernel
theorem dX2_singableSet_6 : decode cX2_singableSet 6 = .ok (.getfield 93, 3) := by decide +kernel
theorem dX2_singableSet_9 : decode cX2_singableSet 9 = .ok (.if_icmp .ge 30, 3) := by decide +kernel
theorem dX2_singableSet_12 : decode cX2_singableSet 12 = .ok (.aload_n 0, 1) := by decide +kernel
theorem dX2_singableSet_13 : decode cX2_singableSet 13 = .ok (.aload_n 0, 1) := by decide +kernel
theorem dX2_singableSet_14 : decode cX2_singableSet 14 = .ok (.iload_n 3, 1) := by decide +kernel
theorem dX2_singableSet_15 : decode cX2_singableSet 15 = .ok (.invokevirtual 102, 3) := by decide +kernel
theorem dX2_singableSet_18 : decode cX2_singableSet 18 = .ok (.iload_n 1, 1) := by decide +kernel
theorem dX2_singableSet_19 : decode cX2_singableSet 19 = .ok (.invokevirtual 145, 3) := by decide +kernel
theorem dX2_singableSet_22 : decode cX2_singableSet 22 = .ok (.bipush 13, 2) := by decide +kernel
theorem dX2_singableSet_24 : decode cX2_singableSet 24 = .ok (.if_icmp .eq 9, 3) := by decide +kernel
theorem dX2_singableSet_27 : decode cX2_singableSet 27 = .ok (.iload_n 2, 1) := by decide +kernel
theorem dX2_singableSet_28 : decode cX2_singableSet 28 = .ok (.iconst 1, 1) := by decide +kernel
theorem dX2_singableSet_29 : decode cX2_singableSet 29 = .ok (.iload_n 3, 1) := by decide +kernel
theorem dX2_singableSet_30 : decode cX2_singableSet 30 = .ok (.ishl, 1) := by decide +kernel
theorem dX2_singableSet_31 : decode cX2_singableSet 31 = .ok (.ior, 1) := by decide +kernel
theorem dX2_singableSet_32 : decode cX2_singableSet 32 = .ok (.istore_n 2, 1) := by decide +kernel
theorem dX2_singableSet_33 : decode cX2_singableSet 33 = .ok (.iinc 3 1, 3) := by decide +kernel
theorem dX2_singableSet_36 : decode cX2_singableSet 36 = .ok (.goto (-32), 3) := by decide +kernel
theorem dX2_singableSet_39 : decode cX2_singableSet 39 = .ok (.iload_n 2, 1) := by decide +kernel
theorem dX2_singableSet_40 : decode cX2_singableSet 40 = .ok (.ireturn, 1) := by decide +kernel
theorem dX2_lengthOf_0 : decode cX2_lengthOf 0 = .ok (.iconst 0, 1) := by decide +kernel
theorem dX2_lengthOf_1 : decode cX2_lengthOf 1 = .ok (.istore_n 2, 1) := by decide +kernel
theorem dX2_lengthOf_2 : decode cX2_lengthOf 2 = .ok (.iconst 0, 1) := by decide +kernel
theorem dX2_lengthOf_3 : decode cX2_lengthOf 3 = .ok (.istore_n 3, 1) := by decide +kernel
theorem dX2_lengthOf_4 : decode cX2_lengthOf 4 = .ok (.iload_n 3, 1) := by decide +kernel
theorem dX2_lengthOf_5 : decode cX2_lengthOf 5 = .ok (.aload_n 0, 1) := by decide +kernel
theorem dX2_lengthOf_6 : decode cX2_lengthOf 6 = .ok (.getfield 93, 3) := by decide +kernel
theorem dX2_lengthOf_9 : decode cX2_lengthOf 9 = .ok (.if_icmp .ge 28, 3) := by decide +kernel
theorem dX2_lengthOf_12 : decode cX2_lengthOf 12 = .ok (.iload_n 1, 1) := by decide +kernel
theorem dX2_lengthOf_13 : decode cX2_lengthOf 13 = .ok (.iload_n 3, 1) := by decide +kernel
theorem dX2_lengthOf_14 : decode cX2_lengthOf 14 = .ok (.ishr, 1) := by decide +kernel
theorem dX2_lengthOf_15 : decode cX2_lengthOf 15 = .ok (.iconst 1, 1) := by decide +kernel
theorem dX2_lengthOf_16 : decode cX2_lengthOf 16 = .ok (.iand, 1) := by decide +kernel
theorem dX2_lengthOf_17 : decode cX2_lengthOf 17 = .ok (.ifCond .eq 14, 3) := by decide +kernel
theorem dX2_lengthOf_20 : decode cX2_lengthOf 20 = .ok (.iload_n 2, 1) := by decide +kernel
theorem dX2_lengthOf_21 : decode cX2_lengthOf 21 = .ok (.aload_n 0, 1) := by decide +kernel
theorem dX2_lengthOf_22 : decode cX2_lengthOf 22 = .ok (.iload_n 3, 1) := by decide +kernel
theorem dX2_lengthOf_23 : decode cX2_lengthOf 23 = .ok (.invokevirtual 102, 3) := by decide +kernel
theorem dX2_lengthOf_26 : decode cX2_lengthOf 26 = .ok (.invokevirtual 215, 3) := by decide +kernel
theorem dX2_lengthOf_29 : decode cX2_lengthOf 29 = .ok (.iadd, 1) := by decide +kernel
theorem dX2_lengthOf_30 : decode cX2_lengthOf 30 = .ok (.istore_n 2, 1) := by decide +kernel
theorem dX2_lengthOf_31 : decode cX2_lengthOf 31 = .ok (.iinc 3 1, 3) := by decide +kernel
theorem dX2_lengthOf_34 : decode cX2_lengthOf 34 = .ok (.goto (-30), 3) := by decide +kernel
theorem dX2_lengthOf_37 : decode cX2_lengthOf 37 = .ok (.iload_n 2, 1) := by decide +kernel
theorem dX2_lengthOf_38 : decode cX2_lengthOf 38 = .ok (.ireturn, 1) := by decide +kernel
theorem dX2_isBetter_0 : decode cX2_isBetter 0 = .ok (.aload_n 0, 1) := by decide +kernel
theorem dX2_isBetter_1 : decode cX2_isBetter 1 = .ok (.iload_n 1, 1) := by decide +kernel
theorem dX2_isBetter_2 : decode cX2_isBetter 2 = .ok (.invokevirtual 160, 3) := by decide +kernel
theorem dX2_isBetter_5 : decode cX2_isBetter 5 = .ok (.aload_n 0, 1) := by decide +kernel
theorem dX2_isBetter_6 : decode cX2_isBetter 6 = .ok (.iload_n 2, 1) := by decide +kernel
theorem dX2_isBetter_7 : decode cX2_isBetter 7 = .ok (.invokevirtual 160, 3) := by decide +kernel
theorem dX2_isBetter_10 : decode cX2_isBetter 10 = .ok (.isub, 1) := by decide +kernel
theorem dX2_isBetter_11 : decode cX2_isBetter 11 = .ok (.istore_n 3, 1) := by decide +kernel
theorem dX2_isBetter_12 : decode cX2_isBetter 12 = .ok (.iload_n 3, 1) := by decide +kernel
theorem dX2_isBetter_13 : decode cX2_isBetter 13 = .ok (.ifCond .eq 13, 3) := by decide +kernel
theorem dX2_isBetter_16 : decode cX2_isBetter 16 = .ok (.iload_n 3, 1) := by decide +kernel
theorem dX2_isBetter_17 : decode cX2_isBetter 17 = .ok (.ifCond .le 7, 3) := by decide +kernel
theorem dX2_isBetter_20 : decode cX2_isBetter 20 = .ok (.iconst 1, 1) := by decide +kernel
theorem dX2_isBetter_21 : decode cX2_isBetter 21 = .ok (.goto 4, 3) := by decide +kernel
theorem dX2_isBetter_24 : decode cX2_isBetter 24 = .ok (.iconst 0, 1) := by decide +kernel
theorem dX2_isBetter_25 : decode cX2_isBetter 25 = .ok (.ireturn, 1) := by decide +kernel
theorem dX2_isBetter_26 : decode cX2_isBetter 26 = .ok (.iload_n 1, 1) := by decide +kernel
theorem dX2_isBetter_27 : decode cX2_isBetter 27 = .ok (.invokestatic 218, 3) := by decide +kernel
theorem dX2_isBetter_30 : decode cX2_isBetter 30 = .ok (.iload_n 2, 1) := by decide +kernel
theorem dX2_isBetter_31 : decode cX2_isBetter 31 = .ok (.invokestatic 218, 3) := by decide +kernel
theorem dX2_isBetter_34 : decode cX2_isBetter 34 = .ok (.isub, 1) := by decide +kernel
theorem dX2_isBetter_35 : decode cX2_isBetter 35 = .ok (.istore 4, 2) := by decide +kernel
theorem dX2_isBetter_37 : decode cX2_isBetter 37 = .ok (.iload 4, 2) := by decide +kernel
theorem dX2_isBetter_39 : decode cX2_isBetter 39 = .ok (.ifCond .eq 14, 3) := by decide +kernel
theorem dX2_isBetter_42 : decode cX2_isBetter 42 = .ok (.iload 4, 2) := by decide +kernel
theorem dX2_isBetter_44 : decode cX2_isBetter 44 = .ok (.ifCond .ge 7, 3) := by decide +kernel
theorem dX2_isBetter_47 : decode cX2_isBetter 47 = .ok (.iconst 1, 1) := by decide +kernel
theorem dX2_isBetter_48 : decode cX2_isBetter 48 = .ok (.goto 4, 3) := by decide +kernel
theorem dX2_isBetter_51 : decode cX2_isBetter 51 = .ok (.iconst 0, 1) := by decide +kernel
theorem dX2_isBetter_52 : decode cX2_isBetter 52 = .ok (.ireturn, 1) := by decide +kernel
theorem dX2_isBetter_53 : decode cX2_isBetter 53 = .ok (.iload_n 1, 1) := by decide +kernel
theorem dX2_isBetter_54 : decode cX2_isBetter 54 = .ok (.iload_n 2, 1) := by decide +kernel
theorem dX2_isBetter_55 : decode cX2_isBetter 55 = .ok (.ixor, 1) := by decide +kernel
theorem dX2_isBetter_56 : decode cX2_isBetter 56 = .ok (.istore 5, 2) := by decide +kernel
theorem dX2_isBetter_58 : decode cX2_isBetter 58 = .ok (.iload 5, 2) := by decide +kernel
theorem dX2_isBetter_60 : decode cX2_isBetter 60 = .ok (.iload 5, 2) := by decide +kernel
theorem dX2_isBetter_62 : decode cX2_isBetter 62 = .ok (.ineg, 1) := by decide +kernel
theorem dX2_isBetter_63 : decode cX2_isBetter 63 = .ok (.iand, 1) := by decide +kernel
theorem dX2_isBetter_64 : decode cX2_isBetter 64 = .ok (.istore 6, 2) := by decide +kernel
theorem dX2_isBetter_66 : decode cX2_isBetter 66 = .ok (.iload_n 1, 1) := by decide +kernel
theorem dX2_isBetter_67 : decode cX2_isBetter 67 = .ok (.iload 6, 2) := by decide +kernel
theorem dX2_isBetter_69 : decode cX2_isBetter 69 = .ok (.iand, 1) := by decide +kernel
theorem dX2_isBetter_70 : decode cX2_isBetter 70 = .ok (.ifCond .eq 7, 3) := by decide +kernel
theorem dX2_isBetter_73 : decode cX2_isBetter 73 = .ok (.iconst 1, 1) := by decide +kernel
theorem dX2_isBetter_74 : decode cX2_isBetter 74 = .ok (.goto 4, 3) := by decide +kernel
theorem dX2_isBetter_77 : decode cX2_isBetter 77 = .ok (.iconst 0, 1) := by decide +kernel
theorem dX2_isBetter_78 : decode cX2_isBetter 78 = .ok (.ireturn, 1) := by decide +kernel
theorem dJ6_bitCount_0f7a4_0 : decode cJ6_bitCount_0f7a4 0 = .ok (.iload_n 0, 1) := by decide +kernel
theorem dJ6_bitCount_0f7a4_1 : decode cJ6_bitCount_0f7a4 1 = .ok (.iload_n 0, 1) := by decide +kernel
theorem dJ6_bitCount_0f7a4_2 : decode cJ6_bitCount_0f7a4 2 = .ok (.iconst 1, 1) := by decide +kernel
theorem dJ6_bitCount_0f7a4_3 : decode cJ6_bitCount_0f7a4 3 = .ok (.iushr, 1) := by decide +kernel
theorem dJ6_bitCount_0f7a4_4 : decode cJ6_bitCount_0f7a4 4 = .ok (.ldc_w 265, 3) := by decide +kernel
theorem dJ6_bitCount_0f7a4_7 : decode cJ6_bitCount_0f7a4 7 = .ok (.iand, 1) := by decide +kernel
theorem dJ6_bitCount_0f7a4_8 : decode cJ6_bitCount_0f7a4 8 = .ok (.isub, 1) := by decide +kernel
theorem dJ6_bitCount_0f7a4_9 : decode cJ6_bitCount_0f7a4 9 = .ok (.istore_n 0, 1) := by decide +kernel
theorem dJ6_bitCount_0f7a4_10 : decode cJ6_bitCount_0f7a4 10 = .ok (.iload_n 0, 1) := by decide +kernel
theorem dJ6_bitCount_0f7a4_11 : decode cJ6_bitCount_0f7a4 11 = .ok (.ldc_w 266, 3) := by decide +kernel
theorem dJ6_bitCount_0f7a4_14 : decode cJ6_bitCount_0f7a4 14 = .ok (.iand, 1) := by decide +kernel
theorem dJ6_bitCount_0f7a4_15 : decode cJ6_bitCount_0f7a4 15 = .ok (.iload_n 0, 1) := by decide +kernel
theorem dJ6_bitCount_0f7a4_16 : decode cJ6_bitCount_0f7a4 16 = .ok (.iconst 2, 1) := by decide +kernel
theorem dJ6_bitCount_0f7a4_17 : decode cJ6_bitCount_0f7a4 17 = .ok (.iushr, 1) := by decide +kernel
theorem dJ6_bitCount_0f7a4_18 : decode cJ6_bitCount_0f7a4 18 = .ok (.ldc_w 266, 3) := by decide +kernel
theorem dJ6_bitCount_0f7a4_21 : decode cJ6_bitCount_0f7a4 21 = .ok (.iand, 1) := by decide +kernel
theorem dJ6_bitCount_0f7a4_22 : decode cJ6_bitCount_0f7a4 22 = .ok (.iadd, 1) := by decide +kernel
theorem dJ6_bitCount_0f7a4_23 : decode cJ6_bitCount_0f7a4 23 = .ok (.istore_n 0, 1) := by decide +kernel
theorem dJ6_bitCount_0f7a4_24 : decode cJ6_bitCount_0f7a4 24 = .ok (.iload_n 0, 1) := by decide +kernel
theorem dJ6_bitCount_0f7a4_25 : decode cJ6_bitCount_0f7a4 25 = .ok (.iload_n 0, 1) := by decide +kernel
theorem dJ6_bitCount_0f7a4_26 : decode cJ6_bitCount_0f7a4 26 = .ok (.iconst 4, 1) := by decide +kernel
theorem dJ6_bitCount_0f7a4_27 : decode cJ6_bitCount_0f7a4 27 = .ok (.iushr, 1) := by decide +kernel
theorem dJ6_bitCount_0f7a4_28 : decode cJ6_bitCount_0f7a4 28 = .ok (.iadd, 1) := by decide +kernel
theorem dJ6_bitCount_0f7a4_29 : decode cJ6_bitCount_0f7a4 29 = .ok (.ldc_w 267, 3) := by decide +kernel
theorem dJ6_bitCount_0f7a4_32 : decode cJ6_bitCount_0f7a4 32 = .ok (.iand, 1) := by decide +kernel
theorem dJ6_bitCount_0f7a4_33 : decode cJ6_bitCount_0f7a4 33 = .ok (.istore_n 0, 1) := by decide +kernel
theorem dJ6_bitCount_0f7a4_34 : decode cJ6_bitCount_0f7a4 34 = .ok (.iload_n 0, 1) := by decide +kernel
theorem dJ6_bitCount_0f7a4_35 : decode cJ6_bitCount_0f7a4 35 = .ok (.iload_n 0, 1) := by decide +kernel
theorem dJ6_bitCount_0f7a4_36 : decode cJ6_bitCount_0f7a4 36 = .ok (.bipush 8, 2) := by decide +kernel
theorem dJ6_bitCount_0f7a4_38 : decode cJ6_bitCount_0f7a4 38 = .ok (.iushr, 1) := by decide +kernel
theorem dJ6_bitCount_0f7a4_39 : decode cJ6_bitCount_0f7a4 39 = .ok (.iadd, 1) := by decide +kernel
theorem dJ6_bitCount_0f7a4_40 : decode cJ6_bitCount_0f7a4 40 = .ok (.istore_n 0, 1) := by decide +kernel
theorem dJ6_bitCount_0f7a4_41 : decode cJ6_bitCount_0f7a4 41 = .ok (.iload_n 0, 1) := by decide +kernel
theorem dJ6_bitCount_0f7a4_42 : decode cJ6_bitCount_0f7a4 42 = .ok (.iload_n 0, 1) := by decide +kernel
theorem dJ6_bitCount_0f7a4_43 : decode cJ6_bitCount_0f7a4 43 = .ok (.bipush 16, 2) := by decide +kernel
theorem dJ6_bitCount_0f7a4_45 : decode cJ6_bitCount_0f7a4 45 = .ok (.iushr, 1) := by decide +kernel
theorem dJ6_bitCount_0f7a4_46 : decode cJ6_bitCount_0f7a4 46 = .ok (.iadd, 1) := by decide +kernel
theorem dJ6_bitCount_0f7a4_47 : decode cJ6_bitCount_0f7a4 47 = .ok (.istore_n 0, 1) := by decide +kernel
theorem dJ6_bitCount_0f7a4_48 : decode cJ6_bitCount_0f7a4 48 = .ok (.iload_n 0, 1) := by decide +kernel
theorem dJ6_bitCount_0f7a4_49 : decode cJ6_bitCount_0f7a4 49 = .ok (.bipush 63, 2) := by decide +kernel
theorem dJ6_bitCount_0f7a4_51 : decode cJ6_bitCount_0f7a4 51 = .ok (.iand, 1) := by decide +kernel
theorem dJ6_bitCount_0f7a4_52 : decode cJ6_bitCount_0f7a4 52 = .ok (.ireturn, 1) := by decide +kernel
theorem dJ9_abs_0f7a4_0 : decode cJ9_abs_0f7a4 0 = .ok (.iload_n 0, 1) := by decide +kernel
theorem dJ9_abs_0f7a4_1 : decode cJ9_abs_0f7a4 1 = .ok (.ifCond .ge 8, 3) := by decide +kernel
theorem dJ9_abs_0f7a4_4 : decode cJ9_abs_0f7a4 4 = .ok (.iload_n 0, 1) := by decide +kernel
theorem dJ9_abs_0f7a4_5 : decode cJ9_abs_0f7a4 5 = .ok (.ineg, 1) := by decide +kernel
theorem dJ9_abs_0f7a4_6 : decode cJ9_abs_0f7a4 6 = .ok (.goto 4, 3) := by decide +kernel
theorem dJ9_abs_0f7a4_9 : decode cJ9_abs_0f7a4 9 = .ok (.iload_n 0, 1) := by decide +kernel
theorem dJ9_abs_0f7a4_10 : decode cJ9_abs_0f7a4 10 = .ok (.ireturn, 1) := by decide +kernel
theorem dJ9_max_7cf53_0 : decode cJ9_max_7cf53 0 = .ok (.iload_n 0, 1) := by decide +kernel
theorem dJ9_max_7cf53_1 : decode cJ9_max_7cf53 1 = .ok (.iload_n 1, 1) := by decide +kernel
theorem dJ9_max_7cf53_2 : decode cJ9_max_7cf53 2 = .ok (.if_icmp .lt 7, 3) := by decide +kernel
theorem dJ9_max_7cf53_5 : decode cJ9_max_7cf53 5 = .ok (.iload_n 0, 1) := by decide +kernel
theorem dJ9_max_7cf53_6 : decode cJ9_max_7cf53 6 = .ok (.goto 4, 3) := by decide +kernel
theorem dJ9_max_7cf53_9 : decode cJ9_max_7cf53 9 = .ok (.iload_n 1, 1) := by decide +kernel
theorem dJ9_max_7cf53_10 : decode cJ9_max_7cf53 10 = .ok (.ireturn, 1) := by decide +kernel
theorem dJ9_min_7cf53_0 : decode cJ9_min_7cf53 0 = .ok (.iload_n 0, 1) := by decide +kernel
theorem dJ9_min_7cf53_1 : decode cJ9_min_7cf53 1 = .ok (.iload_n 1, 1) := by decide +kernel
theorem dJ9_min_7cf53_2 : decode cJ9_min_7cf53 2 = .ok (.if_icmp .gt 7, 3) := by decide +kernel
theorem dJ9_min_7cf53_5 : decode cJ9_min_7cf53 5 = .ok (.iload_n 0, 1) := by decide +kernel
theorem dJ9_min_7cf53_6 : decode cJ9_min_7cf53 6 = .ok (.goto 4, 3) := by decide +kernel
theorem dJ9_min_7cf53_9 : decode cJ9_min_7cf53 9 = .ok (.iload_n 1, 1) := by decide +kernel
theorem dJ9_min_7cf53_10 : decode cJ9_min_7cf53 10 = .ok (.ireturn, 1) := by decide +kernel
theorem dL_singers_0 : decode cL_singers 0 = .ok (.aload_n 0, 1) := by decide +kernel
theorem dL_singers_1 : decode cL_singers 1 = .ok (.iload_n 1, 1) := by decide +kernel
theorem dL_singers_2 : decode cL_singers 2 = .ok (.iload_n 2, 1) := by decide +kernel
theorem dL_singers_3 : decode cL_singers 3 = .ok (.iload_n 3, 1) := by decide +kernel
theorem dL_singers_4 : decode cL_singers 4 = .ok (.invokevirtual 7, 3) := by decide +kernel
theorem dL_singers_7 : decode cL_singers 7 = .ok (.ireturn, 1) := by decide +kernel
theorem dL_singers_8 : decode cL_singers 8 = .ok (.astore 4, 2) := by decide +kernel
theorem dL_singers_10 : decode cL_singers 10 = .ok (.ldc 15, 2) := by decide +kernel
theorem dL_singers_12 : decode cL_singers 12 = .ok (.ireturn, 1) := by decide +kernel
theorem dL_singers_13 : decode cL_singers 13 = .ok (.astore 4, 2) := by decide +kernel
theorem dL_singers_15 : decode cL_singers 15 = .ok (.ldc 18, 2) := by decide +kernel
theorem dL_singers_17 : decode cL_singers 17 = .ok (.ireturn, 1) := by decide +kernel
theorem dL_tells_0 : decode cL_tells 0 = .ok (.aload_n 0, 1) := by decide +kernel
theorem dL_tells_1 : decode cL_tells 1 = .ok (.iload_n 1, 1) := by decide +kernel
theorem dL_tells_2 : decode cL_tells 2 = .ok (.iload_n 2, 1) := by decide +kernel
theorem dL_tells_3 : decode cL_tells 3 = .ok (.iload_n 3, 1) := by decide +kernel
theorem dL_tells_4 : decode cL_tells 4 = .ok (.invokevirtual 19, 3) := by decide +kernel
theorem dL_tells_7 : decode cL_tells 7 = .ok (.ifCond .eq 7, 3) := by decide +kernel
theorem dL_tells_10 : decode cL_tells 10 = .ok (.iconst 1, 1) := by decide +kernel
theorem dL_tells_11 : decode cL_tells 11 = .ok (.goto 4, 3) := by decide +kernel
theorem dL_tells_14 : decode cL_tells 14 = .ok (.iconst 0, 1) := by decide +kernel
theorem dL_tells_15 : decode cL_tells 15 = .ok (.ireturn, 1) := by decide +kernel
theorem dL_tells_16 : decode cL_tells 16 = .ok (.astore 4, 2) := by decide +kernel
theorem dL_tells_18 : decode cL_tells 18 = .ok (.ldc 25, 2) := by decide +kernel
theorem dL_tells_20 : decode cL_tells 20 = .ok (.ireturn, 1) := by decide +kernel
theorem dL_tells_21 : decode cL_tells 21 = .ok (.astore 4, 2) := by decide +kernel
theorem dL_tells_23 : decode cL_tells 23 = .ok (.ldc 15, 2) := by decide +kernel
theorem dL_tells_25 : decode cL_tells 25 = .ok (.ireturn, 1) := by decide +kernel
theorem dL_changes_0 : decode cL_changes 0 = .ok (.aload_n 0, 1) := by decide +kernel
theorem dL_changes_1 : decode cL_changes 1 = .ok (.iload_n 1, 1) := by decide +kernel
theorem dL_changes_2 : decode cL_changes 2 = .ok (.iload_n 2, 1) := by decide +kernel
theorem dL_changes_3 : decode cL_changes 3 = .ok (.invokevirtual 26, 3) := by decide +kernel
theorem dL_changes_6 : decode cL_changes 6 = .ok (.ireturn, 1) := by decide +kernel
theorem dL_changes_7 : decode cL_changes 7 = .ok (.astore_n 3, 1) := by decide +kernel
theorem dL_changes_8 : decode cL_changes 8 = .ok (.ldc 25, 2) := by decide +kernel
theorem dL_changes_10 : decode cL_changes 10 = .ok (.ireturn, 1) := by decide +kernel
theorem dL_changes_11 : decode cL_changes 11 = .ok (.astore_n 3, 1) := by decide +kernel
theorem dL_changes_12 : decode cL_changes 12 = .ok (.ldc 15, 2) := by decide +kernel
theorem dL_changes_14 : decode cL_changes 14 = .ok (.ireturn, 1) := by decide +kernel
theorem dL_range_0 : decode cL_range 0 = .ok (.aload_n 0, 1) := by decide +kernel
theorem dL_range_1 : decode cL_range 1 = .ok (.iload_n 1, 1) := by decide +kernel
theorem dL_range_2 : decode cL_range 2 = .ok (.iload_n 2, 1) := by decide +kernel
theorem dL_range_3 : decode cL_range 3 = .ok (.invokevirtual 30, 3) := by decide +kernel
theorem dL_range_6 : decode cL_range 6 = .ok (.ireturn, 1) := by decide +kernel
theorem dL_range_7 : decode cL_range 7 = .ok (.astore_n 3, 1) := by decide +kernel
theorem dL_range_8 : decode cL_range 8 = .ok (.ldc 15, 2) := by decide +kernel
theorem dL_range_10 : decode cL_range 10 = .ok (.ireturn, 1) := by decide +kernel
theorem dL_chords_0 : decode cL_chords 0 = .ok (.aload_n 0, 1) := by decide +kernel
theorem dL_chords_1 : decode cL_chords 1 = .ok (.iload_n 1, 1) := by decide +kernel
theorem dL_chords_2 : decode cL_chords 2 = .ok (.iload_n 2, 1) := by decide +kernel
theorem dL_chords_3 : decode cL_chords 3 = .ok (.iload_n 3, 1) := by decide +kernel
theorem dL_chords_4 : decode cL_chords 4 = .ok (.iload 4, 2) := by decide +kernel
theorem dL_chords_6 : decode cL_chords 6 = .ok (.invokevirtual 33, 3) := by decide +kernel
theorem dL_chords_9 : decode cL_chords 9 = .ok (.ireturn, 1) := by decide +kernel
theorem dL_chords_10 : decode cL_chords 10 = .ok (.astore 5, 2) := by decide +kernel
theorem dL_chords_12 : decode cL_chords 12 = .ok (.ldc 15, 2) := by decide +kernel
theorem dL_chords_14 : decode cL_chords 14 = .ok (.ireturn, 1) := by decide +kernel
theorem dL_chords_15 : decode cL_chords 15 = .ok (.astore 5, 2) := by decide +kernel
theorem dL_chords_17 : decode cL_chords 17 = .ok (.ldc 18, 2) := by decide +kernel
theorem dL_chords_19 : decode cL_chords 19 = .ok (.ireturn, 1) := by decide +kernel
theorem dL_pieces_0 : decode cL_pieces 0 = .ok (.aload_n 0, 1) := by decide +kernel
theorem dL_pieces_1 : decode cL_pieces 1 = .ok (.iload_n 1, 1) := by decide +kernel
theorem dL_pieces_2 : decode cL_pieces 2 = .ok (.invokevirtual 37, 3) := by decide +kernel
theorem dL_pieces_5 : decode cL_pieces 5 = .ok (.ireturn, 1) := by decide +kernel
theorem dL_pieces_6 : decode cL_pieces 6 = .ok (.astore_n 2, 1) := by decide +kernel
theorem dL_pieces_7 : decode cL_pieces 7 = .ok (.ldc 15, 2) := by decide +kernel
theorem dL_pieces_9 : decode cL_pieces 9 = .ok (.ireturn, 1) := by decide +kernel
theorem dL_pieces_10 : decode cL_pieces 10 = .ok (.astore_n 2, 1) := by decide +kernel
theorem dL_pieces_11 : decode cL_pieces 11 = .ok (.ldc 18, 2) := by decide +kernel
theorem dL_pieces_13 : decode cL_pieces 13 = .ok (.ireturn, 1) := by decide +kernel
theorem dL_tones_0 : decode cL_tones 0 = .ok (.aload_n 0, 1) := by decide +kernel
theorem dL_tones_1 : decode cL_tones 1 = .ok (.iload_n 1, 1) := by decide +kernel
theorem dL_tones_2 : decode cL_tones 2 = .ok (.iload_n 2, 1) := by decide +kernel
theorem dL_tones_3 : decode cL_tones 3 = .ok (.iload_n 3, 1) := by decide +kernel
theorem dL_tones_4 : decode cL_tones 4 = .ok (.iload 4, 2) := by decide +kernel
theorem dL_tones_6 : decode cL_tones 6 = .ok (.invokevirtual 41, 3) := by decide +kernel
theorem dL_tones_9 : decode cL_tones 9 = .ok (.ireturn, 1) := by decide +kernel
theorem dL_tones_10 : decode cL_tones 10 = .ok (.astore 5, 2) := by decide +kernel
theorem dL_tones_12 : decode cL_tones 12 = .ok (.ldc 25, 2) := by decide +kernel
theorem dL_tones_14 : decode cL_tones 14 = .ok (.ireturn, 1) := by decide +kernel
theorem dL_tones_15 : decode cL_tones 15 = .ok (.astore 5, 2) := by decide +kernel
theorem dL_tones_17 : decode cL_tones 17 = .ok (.ldc 15, 2) := by decide +kernel
theorem dL_tones_19 : decode cL_tones 19 = .ok (.ireturn, 1) := by decide +kernel
theorem dL_tones_20 : decode cL_tones 20 = .ok (.astore 5, 2) := by decide +kernel
theorem dL_tones_22 : decode cL_tones 22 = .ok (.ldc 18, 2) := by decide +kernel
theorem dL_tones_24 : decode cL_tones 24 = .ok (.ireturn, 1) := by decide +kernel
theorem dL_faultsAt_0 : decode cL_faultsAt 0 = .ok (.aload_n 0, 1) := by decide +kernel
theorem dL_faultsAt_1 : decode cL_faultsAt 1 = .ok (.iload_n 1, 1) := by decide +kernel
theorem dL_faultsAt_2 : decode cL_faultsAt 2 = .ok (.iload_n 2, 1) := by decide +kernel
theorem dL_faultsAt_3 : decode cL_faultsAt 3 = .ok (.invokevirtual 44, 3) := by decide +kernel
theorem dL_faultsAt_6 : decode cL_faultsAt 6 = .ok (.ireturn, 1) := by decide +kernel
theorem dL_faultsAt_7 : decode cL_faultsAt 7 = .ok (.astore_n 3, 1) := by decide +kernel
theorem dL_faultsAt_8 : decode cL_faultsAt 8 = .ok (.ldc 25, 2) := by decide +kernel
theorem dL_faultsAt_10 : decode cL_faultsAt 10 = .ok (.ireturn, 1) := by decide +kernel
theorem dL_faults_0 : decode cL_faults 0 = .ok (.aload_n 0, 1) := by decide +kernel
theorem dL_faults_1 : decode cL_faults 1 = .ok (.iload_n 1, 1) := by decide +kernel
theorem dL_faults_2 : decode cL_faults 2 = .ok (.invokevirtual 47, 3) := by decide +kernel
theorem dL_faults_5 : decode cL_faults 5 = .ok (.ireturn, 1) := by decide +kernel
theorem dL_faults_6 : decode cL_faults 6 = .ok (.astore_n 2, 1) := by decide +kernel
theorem dL_faults_7 : decode cL_faults 7 = .ok (.ldc 25, 2) := by decide +kernel
theorem dL_faults_9 : decode cL_faults 9 = .ok (.ireturn, 1) := by decide +kernel
theorem dL_least_0 : decode cL_least 0 = .ok (.aload_n 0, 1) := by decide +kernel
theorem dL_least_1 : decode cL_least 1 = .ok (.iload_n 1, 1) := by decide +kernel
theorem dL_least_2 : decode cL_least 2 = .ok (.iload_n 2, 1) := by decide +kernel
theorem dL_least_3 : decode cL_least 3 = .ok (.iload_n 3, 1) := by decide +kernel
theorem dL_least_4 : decode cL_least 4 = .ok (.invokevirtual 50, 3) := by decide +kernel
theorem dL_least_7 : decode cL_least 7 = .ok (.ireturn, 1) := by decide +kernel
theorem dL_least_8 : decode cL_least 8 = .ok (.astore 4, 2) := by decide +kernel
theorem dL_least_10 : decode cL_least 10 = .ok (.ldc 25, 2) := by decide +kernel
theorem dL_least_12 : decode cL_least 12 = .ok (.ireturn, 1) := by decide +kernel
theorem dL_least_13 : decode cL_least 13 = .ok (.astore 4, 2) := by decide +kernel
theorem dL_least_15 : decode cL_least 15 = .ok (.ldc 15, 2) := by decide +kernel
theorem dL_least_17 : decode cL_least 17 = .ok (.ireturn, 1) := by decide +kernel
theorem dL_shift_0 : decode cL_shift 0 = .ok (.aload_n 0, 1) := by decide +kernel
theorem dL_shift_1 : decode cL_shift 1 = .ok (.iload_n 1, 1) := by decide +kernel
theorem dL_shift_2 : decode cL_shift 2 = .ok (.iload_n 2, 1) := by decide +kernel
theorem dL_shift_3 : decode cL_shift 3 = .ok (.invokevirtual 53, 3) := by decide +kernel
theorem dL_shift_6 : decode cL_shift 6 = .ok (.ireturn, 1) := by decide +kernel
theorem dL_shift_7 : decode cL_shift 7 = .ok (.astore_n 3, 1) := by decide +kernel
theorem dL_shift_8 : decode cL_shift 8 = .ok (.ldc 25, 2) := by decide +kernel
theorem dL_shift_10 : decode cL_shift 10 = .ok (.ireturn, 1) := by decide +kernel
theorem dL_shift_11 : decode cL_shift 11 = .ok (.astore_n 3, 1) := by decide +kernel
theorem dL_shift_12 : decode cL_shift 12 = .ok (.ldc 15, 2) := by decide +kernel
theorem dL_shift_14 : decode cL_shift 14 = .ok (.ireturn, 1) := by decide +kernel
theorem dL_shift_15 : decode cL_shift 15 = .ok (.astore_n 3, 1) := by decide +kernel
theorem dL_shift_16 : decode cL_shift 16 = .ok (.ldc 18, 2) := by decide +kernel
theorem dL_shift_18 : decode cL_shift 18 = .ok (.ireturn, 1) := by decide +kernel
theorem dL_dates_0 : decode cL_dates 0 = .ok (.aload_n 0, 1) := by decide +kernel
theorem dL_dates_1 : decode cL_dates 1 = .ok (.iload_n 1, 1) := by decide +kernel
theorem dL_dates_2 : decode cL_dates 2 = .ok (.invokevirtual 56, 3) := by decide +kernel
theorem dL_dates_5 : decode cL_dates 5 = .ok (.ireturn, 1) := by decide +kernel
theorem dL_dates_6 : decode cL_dates 6 = .ok (.astore_n 2, 1) := by decide +kernel
theorem dL_dates_7 : decode cL_dates 7 = .ok (.ldc 25, 2) := by decide +kernel
theorem dL_dates_9 : decode cL_dates 9 = .ok (.ireturn, 1) := by decide +kernel
theorem dL_missed_0 : decode cL_missed 0 = .ok (.aload_n 0, 1) := by decide +kernel
theorem dL_missed_1 : decode cL_missed 1 = .ok (.iload_n 1, 1) := by decide +kernel
theorem dL_missed_2 : decode cL_missed 2 = .ok (.invokevirtual 59, 3) := by decide +kernel
theorem dL_missed_5 : decode cL_missed 5 = .ok (.ireturn, 1) := by decide +kernel
theorem dL_missed_6 : decode cL_missed 6 = .ok (.astore_n 2, 1) := by decide +kernel
theorem dL_missed_7 : decode cL_missed 7 = .ok (.ldc 15, 2) := by decide +kernel
theorem dL_missed_9 : decode cL_missed 9 = .ok (.ireturn, 1) := by decide +kernel
theorem dL_plan_0 : decode cL_plan 0 = .ok (.aload_n 0, 1) := by decide +kernel
theorem dL_plan_1 : decode cL_plan 1 = .ok (.iload_n 1, 1) := by decide +kernel
theorem dL_plan_2 : decode cL_plan 2 = .ok (.iload_n 2, 1) := by decide +kernel
theorem dL_plan_3 : decode cL_plan 3 = .ok (.invokevirtual 62, 3) := by decide +kernel
theorem dL_plan_6 : decode cL_plan 6 = .ok (.ireturn, 1) := by decide +kernel
theorem dL_plan_7 : decode cL_plan 7 = .ok (.astore_n 3, 1) := by decide +kernel
theorem dL_plan_8 : decode cL_plan 8 = .ok (.ldc 15, 2) := by decide +kernel
theorem dL_plan_10 : decode cL_plan 10 = .ok (.ireturn, 1) := by decide +kernel
theorem dL_duration_0 : decode cL_duration 0 = .ok (.aload_n 0, 1) := by decide +kernel
theorem dL_duration_1 : decode cL_duration 1 = .ok (.iload_n 1, 1) := by decide +kernel
theorem dL_duration_2 : decode cL_duration 2 = .ok (.iload_n 2, 1) := by decide +kernel
theorem dL_duration_3 : decode cL_duration 3 = .ok (.invokevirtual 65, 3) := by decide +kernel
theorem dL_duration_6 : decode cL_duration 6 = .ok (.ireturn, 1) := by decide +kernel
theorem dL_duration_7 : decode cL_duration 7 = .ok (.astore_n 3, 1) := by decide +kernel
theorem dL_duration_8 : decode cL_duration 8 = .ok (.ldc 15, 2) := by decide +kernel
theorem dL_duration_10 : decode cL_duration 10 = .ok (.ireturn, 1) := by decide +kernel
theorem dL_rehearses_0 : decode cL_rehearses 0 = .ok (.aload_n 0, 1) := by decide +kernel
theorem dL_rehearses_1 : decode cL_rehearses 1 = .ok (.iload_n 1, 1) := by decide +kernel
theorem dL_rehearses_2 : decode cL_rehearses 2 = .ok (.iload_n 2, 1) := by decide +kernel
theorem dL_rehearses_3 : decode cL_rehearses 3 = .ok (.invokevirtual 68, 3) := by decide +kernel
theorem dL_rehearses_6 : decode cL_rehearses 6 = .ok (.ireturn, 1) := by decide +kernel
theorem dL_rehearses_7 : decode cL_rehearses 7 = .ok (.astore_n 3, 1) := by decide +kernel
theorem dL_rehearses_8 : decode cL_rehearses 8 = .ok (.ldc 25, 2) := by decide +kernel
theorem dL_rehearses_10 : decode cL_rehearses 10 = .ok (.ireturn, 1) := by decide +kernel
theorem dL_rehearses_11 : decode cL_rehearses 11 = .ok (.astore_n 3, 1) := by decide +kernel
theorem dL_rehearses_12 : decode cL_rehearses 12 = .ok (.ldc 15, 2) := by decide +kernel
theorem dL_rehearses_14 : decode cL_rehearses 14 = .ok (.ireturn, 1) := by decide +kernel
theorem dL_weakness_0 : decode cL_weakness 0 = .ok (.aload_n 0, 1) := by decide +kernel
theorem dL_weakness_1 : decode cL_weakness 1 = .ok (.iload_n 1, 1) := by decide +kernel
theorem dL_weakness_2 : decode cL_weakness 2 = .ok (.iload_n 2, 1) := by decide +kernel
theorem dL_weakness_3 : decode cL_weakness 3 = .ok (.invokevirtual 71, 3) := by decide +kernel
theorem dL_weakness_6 : decode cL_weakness 6 = .ok (.ireturn, 1) := by decide +kernel
theorem dL_weakness_7 : decode cL_weakness 7 = .ok (.astore_n 3, 1) := by decide +kernel
theorem dL_weakness_8 : decode cL_weakness 8 = .ok (.ldc 25, 2) := by decide +kernel
theorem dL_weakness_10 : decode cL_weakness 10 = .ok (.ireturn, 1) := by decide +kernel
theorem dL_weakest_0 : decode cL_weakest 0 = .ok (.aload_n 0, 1) := by decide +kernel
theorem dL_weakest_1 : decode cL_weakest 1 = .ok (.iload_n 1, 1) := by decide +kernel
theorem dL_weakest_2 : decode cL_weakest 2 = .ok (.invokevirtual 74, 3) := by decide +kernel
theorem dL_weakest_5 : decode cL_weakest 5 = .ok (.ireturn, 1) := by decide +kernel
theorem dL_weakest_6 : decode cL_weakest 6 = .ok (.astore_n 2, 1) := by decide +kernel
theorem dL_weakest_7 : decode cL_weakest 7 = .ok (.ldc 25, 2) := by decide +kernel
theorem dL_weakest_9 : decode cL_weakest 9 = .ok (.ireturn, 1) := by decide +kernel
theorem dL_drawn_0 : decode cL_drawn 0 = .ok (.iload_n 1, 1) := by decide +kernel
theorem dL_drawn_1 : decode cL_drawn 1 = .ok (.aload_n 0, 1) := by decide +kernel
theorem dL_drawn_2 : decode cL_drawn 2 = .ok (.arraylength, 1) := by decide +kernel
theorem dL_drawn_3 : decode cL_drawn 3 = .ok (.if_icmp .ge 9, 3) := by decide +kernel
theorem dL_drawn_6 : decode cL_drawn 6 = .ok (.aload_n 0, 1) := by decide +kernel
theorem dL_drawn_7 : decode cL_drawn 7 = .ok (.iload_n 1, 1) := by decide +kernel
theorem dL_drawn_8 : decode cL_drawn 8 = .ok (.iaload, 1) := by decide +kernel
theorem dL_drawn_9 : decode cL_drawn 9 = .ok (.goto 13, 3) := by decide +kernel
theorem dL_drawn_12 : decode cL_drawn 12 = .ok (.ldc 77, 2) := by decide +kernel
theorem dL_drawn_14 : decode cL_drawn 14 = .ok (.iload_n 1, 1) := by decide +kernel
theorem dL_drawn_15 : decode cL_drawn 15 = .ok (.iconst 3, 1) := by decide +kernel
theorem dL_drawn_16 : decode cL_drawn 16 = .ok (.iadd, 1) := by decide +kernel
theorem dL_drawn_17 : decode cL_drawn 17 = .ok (.imul, 1) := by decide +kernel
theorem dL_drawn_18 : decode cL_drawn 18 = .ok (.sipush 13873, 3) := by decide +kernel
theorem dL_drawn_21 : decode cL_drawn 21 = .ok (.iadd, 1) := by decide +kernel
theorem dL_drawn_22 : decode cL_drawn 22 = .ok (.ldc 78, 2) := by decide +kernel
theorem dL_drawn_24 : decode cL_drawn 24 = .ok (.iand, 1) := by decide +kernel
theorem dL_drawn_25 : decode cL_drawn 25 = .ok (.ireturn, 1) := by decide +kernel
theorem dL_refuses_0 : decode cL_refuses 0 = .ok (.iload_n 3, 1) := by decide +kernel
theorem dL_refuses_1 : decode cL_refuses 1 = .ok (.iconst 2, 1) := by decide +kernel
theorem dL_refuses_2 : decode cL_refuses 2 = .ok (.irem, 1) := by decide +kernel
theorem dL_refuses_3 : decode cL_refuses 3 = .ok (.ifCond .ne 7, 3) := by decide +kernel
theorem dL_refuses_6 : decode cL_refuses 6 = .ok (.iconst 1, 1) := by decide +kernel
theorem dL_refuses_7 : decode cL_refuses 7 = .ok (.goto 4, 3) := by decide +kernel
theorem dL_refuses_10 : decode cL_refuses 10 = .ok (.iconst 0, 1) := by decide +kernel
theorem dL_refuses_11 : decode cL_refuses 11 = .ok (.istore 4, 2) := by decide +kernel
theorem dL_refuses_13 : decode cL_refuses 13 = .ok (.iload 4, 2) := by decide +kernel
theorem dL_refuses_15 : decode cL_refuses 15 = .ok (.ifCond .eq 12, 3) := by decide +kernel
theorem dL_refuses_18 : decode cL_refuses 18 = .ok (.iconst (-1), 1) := by decide +kernel
theorem dL_refuses_19 : decode cL_refuses 19 = .ok (.iload_n 3, 1) := by decide +kernel
theorem dL_refuses_20 : decode cL_refuses 20 = .ok (.bipush 50, 2) := by decide +kernel
theorem dL_refuses_22 : decode cL_refuses 22 = .ok (.irem, 1) := by decide +kernel
theorem dL_refuses_23 : decode cL_refuses 23 = .ok (.isub, 1) := by decide +kernel
theorem dL_refuses_24 : decode cL_refuses 24 = .ok (.goto 11, 3) := by decide +kernel
theorem dL_refuses_27 : decode cL_refuses 27 = .ok (.aload_n 1, 1) := by decide +kernel
theorem dL_refuses_28 : decode cL_refuses 28 = .ok (.iconst 0, 1) := by decide +kernel
theorem dL_refuses_29 : decode cL_refuses 29 = .ok (.iaload, 1) := by decide +kernel
theorem dL_refuses_30 : decode cL_refuses 30 = .ok (.iload_n 3, 1) := by decide +kernel
theorem dL_refuses_31 : decode cL_refuses 31 = .ok (.bipush 50, 2) := by decide +kernel
theorem dL_refuses_33 : decode cL_refuses 33 = .ok (.irem, 1) := by decide +kernel
theorem dL_refuses_34 : decode cL_refuses 34 = .ok (.iadd, 1) := by decide +kernel
theorem dL_refuses_35 : decode cL_refuses 35 = .ok (.istore 5, 2) := by decide +kernel
theorem dL_refuses_37 : decode cL_refuses 37 = .ok (.iload 4, 2) := by decide +kernel
theorem dL_refuses_39 : decode cL_refuses 39 = .ok (.ifCond .eq 12, 3) := by decide +kernel
theorem dL_refuses_42 : decode cL_refuses 42 = .ok (.iconst (-1), 1) := by decide +kernel
theorem dL_refuses_43 : decode cL_refuses 43 = .ok (.iload_n 3, 1) := by decide +kernel
theorem dL_refuses_44 : decode cL_refuses 44 = .ok (.bipush 50, 2) := by decide +kernel
theorem dL_refuses_46 : decode cL_refuses 46 = .ok (.irem, 1) := by decide +kernel
theorem dL_refuses_47 : decode cL_refuses 47 = .ok (.isub, 1) := by decide +kernel
theorem dL_refuses_48 : decode cL_refuses 48 = .ok (.goto 11, 3) := by decide +kernel
theorem dL_refuses_51 : decode cL_refuses 51 = .ok (.aload_n 1, 1) := by decide +kernel
theorem dL_refuses_52 : decode cL_refuses 52 = .ok (.iconst 1, 1) := by decide +kernel
theorem dL_refuses_53 : decode cL_refuses 53 = .ok (.iaload, 1) := by decide +kernel
theorem dL_refuses_54 : decode cL_refuses 54 = .ok (.iload_n 3, 1) := by decide +kernel
theorem dL_refuses_55 : decode cL_refuses 55 = .ok (.bipush 50, 2) := by decide +kernel
theorem dL_refuses_57 : decode cL_refuses 57 = .ok (.irem, 1) := by decide +kernel
theorem dL_refuses_58 : decode cL_refuses 58 = .ok (.iadd, 1) := by decide +kernel
theorem dL_refuses_59 : decode cL_refuses 59 = .ok (.istore 6, 2) := by decide +kernel
theorem dL_refuses_61 : decode cL_refuses 61 = .ok (.iload 4, 2) := by decide +kernel
theorem dL_refuses_63 : decode cL_refuses 63 = .ok (.ifCond .eq 12, 3) := by decide +kernel
theorem dL_refuses_66 : decode cL_refuses 66 = .ok (.iconst (-1), 1) := by decide +kernel
theorem dL_refuses_67 : decode cL_refuses 67 = .ok (.iload_n 3, 1) := by decide +kernel
theorem dL_refuses_68 : decode cL_refuses 68 = .ok (.bipush 50, 2) := by decide +kernel
theorem dL_refuses_70 : decode cL_refuses 70 = .ok (.irem, 1) := by decide +kernel
theorem dL_refuses_71 : decode cL_refuses 71 = .ok (.isub, 1) := by decide +kernel
theorem dL_refuses_72 : decode cL_refuses 72 = .ok (.goto 9, 3) := by decide +kernel
theorem dL_refuses_75 : decode cL_refuses 75 = .ok (.iconst 4, 1) := by decide +kernel
theorem dL_refuses_76 : decode cL_refuses 76 = .ok (.iload_n 3, 1) := by decide +kernel
theorem dL_refuses_77 : decode cL_refuses 77 = .ok (.bipush 50, 2) := by decide +kernel
theorem dL_refuses_79 : decode cL_refuses 79 = .ok (.irem, 1) := by decide +kernel
theorem dL_refuses_80 : decode cL_refuses 80 = .ok (.iadd, 1) := by decide +kernel
theorem dL_refuses_81 : decode cL_refuses 81 = .ok (.istore 7, 2) := by decide +kernel
theorem dL_refuses_83 : decode cL_refuses 83 = .ok (.iload 4, 2) := by decide +kernel
theorem dL_refuses_85 : decode cL_refuses 85 = .ok (.ifCond .eq 12, 3) := by decide +kernel
theorem dL_refuses_88 : decode cL_refuses 88 = .ok (.iconst (-1), 1) := by decide +kernel
theorem dL_refuses_89 : decode cL_refuses 89 = .ok (.iload_n 3, 1) := by decide +kernel
theorem dL_refuses_90 : decode cL_refuses 90 = .ok (.bipush 50, 2) := by decide +kernel
theorem dL_refuses_92 : decode cL_refuses 92 = .ok (.irem, 1) := by decide +kernel
theorem dL_refuses_93 : decode cL_refuses 93 = .ok (.isub, 1) := by decide +kernel
theorem dL_refuses_94 : decode cL_refuses 94 = .ok (.goto 10, 3) := by decide +kernel
theorem dL_refuses_97 : decode cL_refuses 97 = .ok (.bipush 31, 2) := by decide +kernel
theorem dL_refuses_99 : decode cL_refuses 99 = .ok (.iload_n 3, 1) := by decide +kernel
theorem dL_refuses_100 : decode cL_refuses 100 = .ok (.bipush 50, 2) := by decide +kernel
theorem dL_refuses_102 : decode cL_refuses 102 = .ok (.irem, 1) := by decide +kernel
theorem dL_refuses_103 : decode cL_refuses 103 = .ok (.iadd, 1) := by decide +kernel
theorem dL_refuses_104 : decode cL_refuses 104 = .ok (.istore 8, 2) := by decide +kernel
theorem dL_refuses_106 : decode cL_refuses 106 = .ok (.aload_n 0, 1) := by decide +kernel
theorem dL_refuses_107 : decode cL_refuses 107 = .ok (.iload 7, 2) := by decide +kernel
theorem dL_refuses_109 : decode cL_refuses 109 = .ok (.iconst 0, 1) := by decide +kernel
theorem dL_refuses_110 : decode cL_refuses 110 = .ok (.iconst 5, 1) := by decide +kernel
theorem dL_refuses_111 : decode cL_refuses 111 = .ok (.invokestatic 79, 3) := by decide +kernel
theorem dL_refuses_114 : decode cL_refuses 114 = .ok (.ldc 15, 2) := by decide +kernel
theorem dL_refuses_116 : decode cL_refuses 116 = .ok (.if_icmp .ne 436, 3) := by decide +kernel
theorem dL_refuses_119 : decode cL_refuses 119 = .ok (.aload_n 0, 1) := by decide +kernel
theorem dL_refuses_120 : decode cL_refuses 120 = .ok (.iload_n 3, 1) := by decide +kernel
theorem dL_refuses_121 : decode cL_refuses 121 = .ok (.iconst 4, 1) := by decide +kernel
theorem dL_refuses_122 : decode cL_refuses 122 = .ok (.irem, 1) := by decide +kernel
theorem dL_refuses_123 : decode cL_refuses 123 = .ok (.iconst (-1), 1) := by decide +kernel
theorem dL_refuses_124 : decode cL_refuses 124 = .ok (.iload_n 3, 1) := by decide +kernel
theorem dL_refuses_125 : decode cL_refuses 125 = .ok (.isub, 1) := by decide +kernel
theorem dL_refuses_126 : decode cL_refuses 126 = .ok (.iconst 5, 1) := by decide +kernel
theorem dL_refuses_127 : decode cL_refuses 127 = .ok (.invokestatic 79, 3) := by decide +kernel
theorem dL_refuses_130 : decode cL_refuses 130 = .ok (.ldc 15, 2) := by decide +kernel
theorem dL_refuses_132 : decode cL_refuses 132 = .ok (.if_icmp .ne 420, 3) := by decide +kernel
theorem dL_refuses_135 : decode cL_refuses 135 = .ok (.aload_n 0, 1) := by decide +kernel
theorem dL_refuses_136 : decode cL_refuses 136 = .ok (.iload_n 3, 1) := by decide +kernel
theorem dL_refuses_137 : decode cL_refuses 137 = .ok (.iconst 4, 1) := by decide +kernel
theorem dL_refuses_138 : decode cL_refuses 138 = .ok (.irem, 1) := by decide +kernel
theorem dL_refuses_139 : decode cL_refuses 139 = .ok (.bipush 61, 2) := by decide +kernel
theorem dL_refuses_141 : decode cL_refuses 141 = .ok (.iload_n 3, 1) := by decide +kernel
theorem dL_refuses_142 : decode cL_refuses 142 = .ok (.iadd, 1) := by decide +kernel
theorem dL_refuses_143 : decode cL_refuses 143 = .ok (.bipush 70, 2) := by decide +kernel
theorem dL_refuses_145 : decode cL_refuses 145 = .ok (.iload_n 3, 1) := by decide +kernel
theorem dL_refuses_146 : decode cL_refuses 146 = .ok (.iadd, 1) := by decide +kernel
theorem dL_refuses_147 : decode cL_refuses 147 = .ok (.invokestatic 79, 3) := by decide +kernel
theorem dL_refuses_150 : decode cL_refuses 150 = .ok (.ldc 15, 2) := by decide +kernel
theorem dL_refuses_152 : decode cL_refuses 152 = .ok (.if_icmp .ne 400, 3) := by decide +kernel
theorem dL_refuses_155 : decode cL_refuses 155 = .ok (.aload_n 0, 1) := by decide +kernel
theorem dL_refuses_156 : decode cL_refuses 156 = .ok (.iload_n 3, 1) := by decide +kernel
theorem dL_refuses_157 : decode cL_refuses 157 = .ok (.iconst 4, 1) := by decide +kernel
theorem dL_refuses_158 : decode cL_refuses 158 = .ok (.irem, 1) := by decide +kernel
theorem dL_refuses_159 : decode cL_refuses 159 = .ok (.iconst 5, 1) := by decide +kernel
theorem dL_refuses_160 : decode cL_refuses 160 = .ok (.iconst 4, 1) := by decide +kernel
theorem dL_refuses_161 : decode cL_refuses 161 = .ok (.invokestatic 79, 3) := by decide +kernel
theorem dL_refuses_164 : decode cL_refuses 164 = .ok (.ldc 15, 2) := by decide +kernel
theorem dL_refuses_166 : decode cL_refuses 166 = .ok (.if_icmp .ne 386, 3) := by decide +kernel
theorem dL_refuses_169 : decode cL_refuses 169 = .ok (.aload_n 0, 1) := by decide +kernel
theorem dL_refuses_170 : decode cL_refuses 170 = .ok (.iload_n 3, 1) := by decide +kernel
theorem dL_refuses_171 : decode cL_refuses 171 = .ok (.iconst 4, 1) := by decide +kernel
theorem dL_refuses_172 : decode cL_refuses 172 = .ok (.irem, 1) := by decide +kernel
theorem dL_refuses_173 : decode cL_refuses 173 = .ok (.iconst 5, 1) := by decide +kernel
theorem dL_refuses_174 : decode cL_refuses 174 = .ok (.bipush 61, 2) := by decide +kernel
theorem dL_refuses_176 : decode cL_refuses 176 = .ok (.iload_n 3, 1) := by decide +kernel
theorem dL_refuses_177 : decode cL_refuses 177 = .ok (.iadd, 1) := by decide +kernel
theorem dL_refuses_178 : decode cL_refuses 178 = .ok (.invokestatic 79, 3) := by decide +kernel
theorem dL_refuses_181 : decode cL_refuses 181 = .ok (.ldc 15, 2) := by decide +kernel
theorem dL_refuses_183 : decode cL_refuses 183 = .ok (.if_icmp .ne 369, 3) := by decide +kernel
theorem dL_refuses_186 : decode cL_refuses 186 = .ok (.aload_n 0, 1) := by decide +kernel
theorem dL_refuses_187 : decode cL_refuses 187 = .ok (.iload 5, 2) := by decide +kernel
theorem dL_refuses_189 : decode cL_refuses 189 = .ok (.iload 8, 2) := by decide +kernel
theorem dL_refuses_191 : decode cL_refuses 191 = .ok (.iconst 1, 1) := by decide +kernel
theorem dL_refuses_192 : decode cL_refuses 192 = .ok (.invokestatic 85, 3) := by decide +kernel
theorem dL_refuses_195 : decode cL_refuses 195 = .ok (.ldc 25, 2) := by decide +kernel
theorem dL_refuses_197 : decode cL_refuses 197 = .ok (.if_icmp .ne 355, 3) := by decide +kernel
theorem dL_refuses_200 : decode cL_refuses 200 = .ok (.aload_n 0, 1) := by decide +kernel
theorem dL_refuses_201 : decode cL_refuses 201 = .ok (.iload 5, 2) := by decide +kernel
theorem dL_refuses_203 : decode cL_refuses 203 = .ok (.iload 7, 2) := by decide +kernel
theorem dL_refuses_205 : decode cL_refuses 205 = .ok (.invokestatic 89, 3) := by decide +kernel
theorem dL_refuses_208 : decode cL_refuses 208 = .ok (.ldc 25, 2) := by decide +kernel
theorem dL_refuses_210 : decode cL_refuses 210 = .ok (.if_icmp .ne 342, 3) := by decide +kernel
theorem dL_refuses_213 : decode cL_refuses 213 = .ok (.aload_n 0, 1) := by decide +kernel
theorem dL_refuses_214 : decode cL_refuses 214 = .ok (.iload 7, 2) := by decide +kernel
theorem dL_refuses_216 : decode cL_refuses 216 = .ok (.iconst 0, 1) := by decide +kernel
theorem dL_refuses_217 : decode cL_refuses 217 = .ok (.invokestatic 93, 3) := by decide +kernel
theorem dL_refuses_220 : decode cL_refuses 220 = .ok (.ldc 15, 2) := by decide +kernel
theorem dL_refuses_222 : decode cL_refuses 222 = .ok (.if_icmp .ne 330, 3) := by decide +kernel
theorem dL_refuses_225 : decode cL_refuses 225 = .ok (.aload_n 0, 1) := by decide +kernel
theorem dL_refuses_226 : decode cL_refuses 226 = .ok (.iload_n 3, 1) := by decide +kernel
theorem dL_refuses_227 : decode cL_refuses 227 = .ok (.iconst 4, 1) := by decide +kernel
theorem dL_refuses_228 : decode cL_refuses 228 = .ok (.irem, 1) := by decide +kernel
theorem dL_refuses_229 : decode cL_refuses 229 = .ok (.iload 8, 2) := by decide +kernel
theorem dL_refuses_231 : decode cL_refuses 231 = .ok (.invokestatic 93, 3) := by decide +kernel
theorem dL_refuses_234 : decode cL_refuses 234 = .ok (.ldc 15, 2) := by decide +kernel
theorem dL_refuses_236 : decode cL_refuses 236 = .ok (.if_icmp .ne 316, 3) := by decide +kernel
theorem dL_refuses_239 : decode cL_refuses 239 = .ok (.aload_n 0, 1) := by decide +kernel
theorem dL_refuses_240 : decode cL_refuses 240 = .ok (.bipush 61, 2) := by decide +kernel
theorem dL_refuses_242 : decode cL_refuses 242 = .ok (.iload_n 3, 1) := by decide +kernel
theorem dL_refuses_243 : decode cL_refuses 243 = .ok (.iadd, 1) := by decide +kernel
theorem dL_refuses_244 : decode cL_refuses 244 = .ok (.iconst 0, 1) := by decide +kernel
theorem dL_refuses_245 : decode cL_refuses 245 = .ok (.iconst 0, 1) := by decide +kernel
theorem dL_refuses_246 : decode cL_refuses 246 = .ok (.iconst 0, 1) := by decide +kernel
theorem dL_refuses_247 : decode cL_refuses 247 = .ok (.invokestatic 95, 3) := by decide +kernel
theorem dL_refuses_250 : decode cL_refuses 250 = .ok (.ldc 15, 2) := by decide +kernel
theorem dL_refuses_252 : decode cL_refuses 252 = .ok (.if_icmp .ne 300, 3) := by decide +kernel
theorem dL_refuses_255 : decode cL_refuses 255 = .ok (.aload_n 0, 1) := by decide +kernel
theorem dL_refuses_256 : decode cL_refuses 256 = .ok (.iconst 5, 1) := by decide +kernel
theorem dL_refuses_257 : decode cL_refuses 257 = .ok (.bipush 6, 2) := by decide +kernel
theorem dL_refuses_259 : decode cL_refuses 259 = .ok (.iconst 0, 1) := by decide +kernel
theorem dL_refuses_260 : decode cL_refuses 260 = .ok (.iconst 0, 1) := by decide +kernel
theorem dL_refuses_261 : decode cL_refuses 261 = .ok (.invokestatic 95, 3) := by decide +kernel
theorem dL_refuses_264 : decode cL_refuses 264 = .ok (.ldc 15, 2) := by decide +kernel
theorem dL_refuses_266 : decode cL_refuses 266 = .ok (.if_icmp .ne 286, 3) := by decide +kernel
theorem dL_refuses_269 : decode cL_refuses 269 = .ok (.aload_n 0, 1) := by decide +kernel
theorem dL_refuses_270 : decode cL_refuses 270 = .ok (.iconst 5, 1) := by decide +kernel
theorem dL_refuses_271 : decode cL_refuses 271 = .ok (.iconst 4, 1) := by decide +kernel
theorem dL_refuses_272 : decode cL_refuses 272 = .ok (.iconst 5, 1) := by decide +kernel
theorem dL_refuses_273 : decode cL_refuses 273 = .ok (.iconst 0, 1) := by decide +kernel
theorem dL_refuses_274 : decode cL_refuses 274 = .ok (.invokestatic 95, 3) := by decide +kernel
theorem dL_refuses_277 : decode cL_refuses 277 = .ok (.ldc 15, 2) := by decide +kernel
theorem dL_refuses_279 : decode cL_refuses 279 = .ok (.if_icmp .ne 273, 3) := by decide +kernel
theorem dL_refuses_282 : decode cL_refuses 282 = .ok (.aload_n 0, 1) := by decide +kernel
theorem dL_refuses_283 : decode cL_refuses 283 = .ok (.iconst 5, 1) := by decide +kernel
theorem dL_refuses_284 : decode cL_refuses 284 = .ok (.iconst 4, 1) := by decide +kernel
theorem dL_refuses_285 : decode cL_refuses 285 = .ok (.iconst 3, 1) := by decide +kernel
theorem dL_refuses_286 : decode cL_refuses 286 = .ok (.iconst (-1), 1) := by decide +kernel
theorem dL_refuses_287 : decode cL_refuses 287 = .ok (.iload_n 3, 1) := by decide +kernel
theorem dL_refuses_288 : decode cL_refuses 288 = .ok (.isub, 1) := by decide +kernel
theorem dL_refuses_289 : decode cL_refuses 289 = .ok (.invokestatic 95, 3) := by decide +kernel
theorem dL_refuses_292 : decode cL_refuses 292 = .ok (.ldc 15, 2) := by decide +kernel
theorem dL_refuses_294 : decode cL_refuses 294 = .ok (.if_icmp .ne 258, 3) := by decide +kernel
theorem dL_refuses_297 : decode cL_refuses 297 = .ok (.aload_n 0, 1) := by decide +kernel
theorem dL_refuses_298 : decode cL_refuses 298 = .ok (.iconst 0, 1) := by decide +kernel
theorem dL_refuses_299 : decode cL_refuses 299 = .ok (.invokestatic 99, 3) := by decide +kernel
theorem dL_refuses_302 : decode cL_refuses 302 = .ok (.ldc 15, 2) := by decide +kernel
theorem dL_refuses_304 : decode cL_refuses 304 = .ok (.if_icmp .ne 248, 3) := by decide +kernel
theorem dL_refuses_307 : decode cL_refuses 307 = .ok (.aload_n 0, 1) := by decide +kernel
theorem dL_refuses_308 : decode cL_refuses 308 = .ok (.sipush 3601, 3) := by decide +kernel
theorem dL_refuses_311 : decode cL_refuses 311 = .ok (.iload_n 3, 1) := by decide +kernel
theorem dL_refuses_312 : decode cL_refuses 312 = .ok (.iadd, 1) := by decide +kernel
theorem dL_refuses_313 : decode cL_refuses 313 = .ok (.invokestatic 99, 3) := by decide +kernel
theorem dL_refuses_316 : decode cL_refuses 316 = .ok (.ldc 15, 2) := by decide +kernel
theorem dL_refuses_318 : decode cL_refuses 318 = .ok (.if_icmp .ne 234, 3) := by decide +kernel
theorem dL_refuses_321 : decode cL_refuses 321 = .ok (.aload_n 0, 1) := by decide +kernel
theorem dL_refuses_322 : decode cL_refuses 322 = .ok (.iload 6, 2) := by decide +kernel
theorem dL_refuses_324 : decode cL_refuses 324 = .ok (.iconst 0, 1) := by decide +kernel
theorem dL_refuses_325 : decode cL_refuses 325 = .ok (.iload 7, 2) := by decide +kernel
theorem dL_refuses_327 : decode cL_refuses 327 = .ok (.iconst 0, 1) := by decide +kernel
theorem dL_refuses_328 : decode cL_refuses 328 = .ok (.invokestatic 103, 3) := by decide +kernel
theorem dL_refuses_331 : decode cL_refuses 331 = .ok (.ldc 25, 2) := by decide +kernel
theorem dL_refuses_333 : decode cL_refuses 333 = .ok (.if_icmp .ne 219, 3) := by decide +kernel
theorem dL_refuses_336 : decode cL_refuses 336 = .ok (.aload_n 0, 1) := by decide +kernel
theorem dL_refuses_337 : decode cL_refuses 337 = .ok (.iload 6, 2) := by decide +kernel
theorem dL_refuses_339 : decode cL_refuses 339 = .ok (.iconst 0, 1) := by decide +kernel
theorem dL_refuses_340 : decode cL_refuses 340 = .ok (.invokestatic 106, 3) := by decide +kernel
theorem dL_refuses_343 : decode cL_refuses 343 = .ok (.ldc 25, 2) := by decide +kernel
theorem dL_refuses_345 : decode cL_refuses 345 = .ok (.if_icmp .ne 207, 3) := by decide +kernel
theorem dL_refuses_348 : decode cL_refuses 348 = .ok (.aload_n 0, 1) := by decide +kernel
theorem dL_refuses_349 : decode cL_refuses 349 = .ok (.iload 6, 2) := by decide +kernel
theorem dL_refuses_351 : decode cL_refuses 351 = .ok (.invokestatic 108, 3) := by decide +kernel
theorem dL_refuses_354 : decode cL_refuses 354 = .ok (.ldc 25, 2) := by decide +kernel
theorem dL_refuses_356 : decode cL_refuses 356 = .ok (.if_icmp .ne 196, 3) := by decide +kernel
theorem dL_refuses_359 : decode cL_refuses 359 = .ok (.aload_n 0, 1) := by decide +kernel
theorem dL_refuses_360 : decode cL_refuses 360 = .ok (.iload 6, 2) := by decide +kernel
theorem dL_refuses_362 : decode cL_refuses 362 = .ok (.iconst 1, 1) := by decide +kernel
theorem dL_refuses_363 : decode cL_refuses 363 = .ok (.iload 7, 2) := by decide +kernel
theorem dL_refuses_365 : decode cL_refuses 365 = .ok (.invokestatic 110, 3) := by decide +kernel
theorem dL_refuses_368 : decode cL_refuses 368 = .ok (.ldc 25, 2) := by decide +kernel
theorem dL_refuses_370 : decode cL_refuses 370 = .ok (.if_icmp .ne 182, 3) := by decide +kernel
theorem dL_refuses_373 : decode cL_refuses 373 = .ok (.aload_n 0, 1) := by decide +kernel
theorem dL_refuses_374 : decode cL_refuses 374 = .ok (.iload 6, 2) := by decide +kernel
theorem dL_refuses_376 : decode cL_refuses 376 = .ok (.iload 8, 2) := by decide +kernel
theorem dL_refuses_378 : decode cL_refuses 378 = .ok (.invokestatic 113, 3) := by decide +kernel
theorem dL_refuses_381 : decode cL_refuses 381 = .ok (.ldc 25, 2) := by decide +kernel
theorem dL_refuses_383 : decode cL_refuses 383 = .ok (.if_icmp .ne 169, 3) := by decide +kernel
theorem dL_refuses_386 : decode cL_refuses 386 = .ok (.aload_n 0, 1) := by decide +kernel
theorem dL_refuses_387 : decode cL_refuses 387 = .ok (.iload 6, 2) := by decide +kernel
theorem dL_refuses_389 : decode cL_refuses 389 = .ok (.invokestatic 115, 3) := by decide +kernel
theorem dL_refuses_392 : decode cL_refuses 392 = .ok (.ldc 25, 2) := by decide +kernel
theorem dL_refuses_394 : decode cL_refuses 394 = .ok (.if_icmp .ne 158, 3) := by decide +kernel
theorem dL_refuses_397 : decode cL_refuses 397 = .ok (.aload_n 0, 1) := by decide +kernel
theorem dL_refuses_398 : decode cL_refuses 398 = .ok (.iload 8, 2) := by decide +kernel
theorem dL_refuses_400 : decode cL_refuses 400 = .ok (.invokestatic 117, 3) := by decide +kernel
theorem dL_refuses_403 : decode cL_refuses 403 = .ok (.ldc 15, 2) := by decide +kernel
theorem dL_refuses_405 : decode cL_refuses 405 = .ok (.if_icmp .ne 147, 3) := by decide +kernel
theorem dL_refuses_408 : decode cL_refuses 408 = .ok (.aload_n 0, 1) := by decide +kernel
theorem dL_refuses_409 : decode cL_refuses 409 = .ok (.iload 8, 2) := by decide +kernel
theorem dL_refuses_411 : decode cL_refuses 411 = .ok (.iconst 5, 1) := by decide +kernel
theorem dL_refuses_412 : decode cL_refuses 412 = .ok (.invokestatic 119, 3) := by decide +kernel
theorem dL_refuses_415 : decode cL_refuses 415 = .ok (.ldc 15, 2) := by decide +kernel
theorem dL_refuses_417 : decode cL_refuses 417 = .ok (.if_icmp .ne 135, 3) := by decide +kernel
theorem dL_refuses_420 : decode cL_refuses 420 = .ok (.aload_n 0, 1) := by decide +kernel
theorem dL_refuses_421 : decode cL_refuses 421 = .ok (.iconst 0, 1) := by decide +kernel
theorem dL_refuses_422 : decode cL_refuses 422 = .ok (.sipush 20001, 3) := by decide +kernel
theorem dL_refuses_425 : decode cL_refuses 425 = .ok (.iload_n 3, 1) := by decide +kernel
theorem dL_refuses_426 : decode cL_refuses 426 = .ok (.iadd, 1) := by decide +kernel
theorem dL_refuses_427 : decode cL_refuses 427 = .ok (.invokestatic 119, 3) := by decide +kernel
theorem dL_refuses_430 : decode cL_refuses 430 = .ok (.ldc 15, 2) := by decide +kernel
theorem dL_refuses_432 : decode cL_refuses 432 = .ok (.if_icmp .ne 120, 3) := by decide +kernel
theorem dL_refuses_435 : decode cL_refuses 435 = .ok (.aload_n 0, 1) := by decide +kernel
theorem dL_refuses_436 : decode cL_refuses 436 = .ok (.iconst 0, 1) := by decide +kernel
theorem dL_refuses_437 : decode cL_refuses 437 = .ok (.iconst (-1), 1) := by decide +kernel
theorem dL_refuses_438 : decode cL_refuses 438 = .ok (.iload_n 3, 1) := by decide +kernel
theorem dL_refuses_439 : decode cL_refuses 439 = .ok (.isub, 1) := by decide +kernel
theorem dL_refuses_440 : decode cL_refuses 440 = .ok (.invokestatic 122, 3) := by decide +kernel
theorem dL_refuses_443 : decode cL_refuses 443 = .ok (.ldc 15, 2) := by decide +kernel
theorem dL_refuses_445 : decode cL_refuses 445 = .ok (.if_icmp .ne 107, 3) := by decide +kernel
theorem dL_refuses_448 : decode cL_refuses 448 = .ok (.aload_n 0, 1) := by decide +kernel
theorem dL_refuses_449 : decode cL_refuses 449 = .ok (.iload 6, 2) := by decide +kernel
theorem dL_refuses_451 : decode cL_refuses 451 = .ok (.iconst 0, 1) := by decide +kernel
theorem dL_refuses_452 : decode cL_refuses 452 = .ok (.invokestatic 124, 3) := by decide +kernel
theorem dL_refuses_455 : decode cL_refuses 455 = .ok (.ldc 25, 2) := by decide +kernel
theorem dL_refuses_457 : decode cL_refuses 457 = .ok (.if_icmp .ne 95, 3) := by decide +kernel
theorem dL_refuses_460 : decode cL_refuses 460 = .ok (.aload_n 0, 1) := by decide +kernel
theorem dL_refuses_461 : decode cL_refuses 461 = .ok (.iload 6, 2) := by decide +kernel
theorem dL_refuses_463 : decode cL_refuses 463 = .ok (.iconst 0, 1) := by decide +kernel
theorem dL_refuses_464 : decode cL_refuses 464 = .ok (.invokestatic 127, 3) := by decide +kernel
theorem dL_refuses_467 : decode cL_refuses 467 = .ok (.ldc 25, 2) := by decide +kernel
theorem dL_refuses_469 : decode cL_refuses 469 = .ok (.if_icmp .ne 83, 3) := by decide +kernel
theorem dL_refuses_472 : decode cL_refuses 472 = .ok (.aload_n 0, 1) := by decide +kernel
theorem dL_refuses_473 : decode cL_refuses 473 = .ok (.iload 6, 2) := by decide +kernel
theorem dL_refuses_475 : decode cL_refuses 475 = .ok (.invokestatic 129, 3) := by decide +kernel
theorem dL_refuses_478 : decode cL_refuses 478 = .ok (.ldc 25, 2) := by decide +kernel
theorem dL_refuses_480 : decode cL_refuses 480 = .ok (.if_icmp .ne 72, 3) := by decide +kernel
theorem dL_refuses_483 : decode cL_refuses 483 = .ok (.aload_n 1, 1) := by decide +kernel
theorem dL_refuses_484 : decode cL_refuses 484 = .ok (.iconst 0, 1) := by decide +kernel
theorem dL_refuses_485 : decode cL_refuses 485 = .ok (.iaload, 1) := by decide +kernel
theorem dL_refuses_486 : decode cL_refuses 486 = .ok (.bipush 12, 2) := by decide +kernel
theorem dL_refuses_488 : decode cL_refuses 488 = .ok (.if_icmp .lt 15, 3) := by decide +kernel
theorem dL_refuses_491 : decode cL_refuses 491 = .ok (.aload_n 0, 1) := by decide +kernel
theorem dL_refuses_492 : decode cL_refuses 492 = .ok (.iconst 0, 1) := by decide +kernel
theorem dL_refuses_493 : decode cL_refuses 493 = .ok (.iconst 1, 1) := by decide +kernel
theorem dL_refuses_494 : decode cL_refuses 494 = .ok (.iconst 2, 1) := by decide +kernel
theorem dL_refuses_495 : decode cL_refuses 495 = .ok (.invokestatic 79, 3) := by decide +kernel
theorem dL_refuses_498 : decode cL_refuses 498 = .ok (.ldc 18, 2) := by decide +kernel
theorem dL_refuses_500 : decode cL_refuses 500 = .ok (.if_icmp .ne 52, 3) := by decide +kernel
theorem dL_refuses_503 : decode cL_refuses 503 = .ok (.aload_n 1, 1) := by decide +kernel
theorem dL_refuses_504 : decode cL_refuses 504 = .ok (.iconst 1, 1) := by decide +kernel
theorem dL_refuses_505 : decode cL_refuses 505 = .ok (.iaload, 1) := by decide +kernel
theorem dL_refuses_506 : decode cL_refuses 506 = .ok (.bipush 6, 2) := by decide +kernel
theorem dL_refuses_508 : decode cL_refuses 508 = .ok (.if_icmp .ge 9, 3) := by decide +kernel
theorem dL_refuses_511 : decode cL_refuses 511 = .ok (.aload_n 1, 1) := by decide +kernel
theorem dL_refuses_512 : decode cL_refuses 512 = .ok (.iconst 2, 1) := by decide +kernel
theorem dL_refuses_513 : decode cL_refuses 513 = .ok (.iaload, 1) := by decide +kernel
theorem dL_refuses_514 : decode cL_refuses 514 = .ok (.ifCond .gt 13, 3) := by decide +kernel
theorem dL_refuses_517 : decode cL_refuses 517 = .ok (.aload_n 0, 1) := by decide +kernel
theorem dL_refuses_518 : decode cL_refuses 518 = .ok (.iconst 5, 1) := by decide +kernel
theorem dL_refuses_519 : decode cL_refuses 519 = .ok (.invokestatic 99, 3) := by decide +kernel
theorem dL_refuses_522 : decode cL_refuses 522 = .ok (.ldc 18, 2) := by decide +kernel
theorem dL_refuses_524 : decode cL_refuses 524 = .ok (.if_icmp .ne 28, 3) := by decide +kernel
theorem dL_refuses_527 : decode cL_refuses 527 = .ok (.aload_n 1, 1) := by decide +kernel
theorem dL_refuses_528 : decode cL_refuses 528 = .ok (.iconst 2, 1) := by decide +kernel
theorem dL_refuses_529 : decode cL_refuses 529 = .ok (.iaload, 1) := by decide +kernel
theorem dL_refuses_530 : decode cL_refuses 530 = .ok (.bipush 16, 2) := by decide +kernel
theorem dL_refuses_532 : decode cL_refuses 532 = .ok (.if_icmp .lt 16, 3) := by decide +kernel
theorem dL_refuses_535 : decode cL_refuses 535 = .ok (.aload_n 0, 1) := by decide +kernel
theorem dL_refuses_536 : decode cL_refuses 536 = .ok (.iconst 3, 1) := by decide +kernel
theorem dL_refuses_537 : decode cL_refuses 537 = .ok (.iconst 2, 1) := by decide +kernel
theorem dL_refuses_538 : decode cL_refuses 538 = .ok (.iconst 1, 1) := by decide +kernel
theorem dL_refuses_539 : decode cL_refuses 539 = .ok (.iconst 0, 1) := by decide +kernel
theorem dL_refuses_540 : decode cL_refuses 540 = .ok (.invokestatic 95, 3) := by decide +kernel
theorem dL_refuses_543 : decode cL_refuses 543 = .ok (.ldc 18, 2) := by decide +kernel
theorem dL_refuses_545 : decode cL_refuses 545 = .ok (.if_icmp .ne 7, 3) := by decide +kernel
theorem dL_refuses_548 : decode cL_refuses 548 = .ok (.iconst 1, 1) := by decide +kernel
theorem dL_refuses_549 : decode cL_refuses 549 = .ok (.goto 4, 3) := by decide +kernel
theorem dL_refuses_552 : decode cL_refuses 552 = .ok (.iconst 0, 1) := by decide +kernel
theorem dL_refuses_553 : decode cL_refuses 553 = .ok (.istore 9, 2) := by decide +kernel
theorem dL_refuses_555 : decode cL_refuses 555 = .ok (.iload 9, 2) := by decide +kernel
theorem dL_refuses_557 : decode cL_refuses 557 = .ok (.ifCond .eq 49, 3) := by decide +kernel
theorem dL_refuses_560 : decode cL_refuses 560 = .ok (.aload_n 1, 1) := by decide +kernel
theorem dL_refuses_561 : decode cL_refuses 561 = .ok (.iconst 0, 1) := by decide +kernel
theorem dL_refuses_562 : decode cL_refuses 562 = .ok (.iaload, 1) := by decide +kernel
theorem dL_refuses_563 : decode cL_refuses 563 = .ok (.ifCond .le 43, 3) := by decide +kernel
theorem dL_refuses_566 : decode cL_refuses 566 = .ok (.aload_n 0, 1) := by decide +kernel
theorem dL_refuses_567 : decode cL_refuses 567 = .ok (.iload_n 3, 1) := by decide +kernel
theorem dL_refuses_568 : decode cL_refuses 568 = .ok (.aload_n 1, 1) := by decide +kernel
theorem dL_refuses_569 : decode cL_refuses 569 = .ok (.iconst 0, 1) := by decide +kernel
theorem dL_refuses_570 : decode cL_refuses 570 = .ok (.iaload, 1) := by decide +kernel
theorem dL_refuses_571 : decode cL_refuses 571 = .ok (.irem, 1) := by decide +kernel
theorem dL_refuses_572 : decode cL_refuses 572 = .ok (.iload 8, 2) := by decide +kernel
theorem dL_refuses_574 : decode cL_refuses 574 = .ok (.iconst 0, 1) := by decide +kernel
theorem dL_refuses_575 : decode cL_refuses 575 = .ok (.invokestatic 85, 3) := by decide +kernel
theorem dL_refuses_578 : decode cL_refuses 578 = .ok (.ldc 15, 2) := by decide +kernel
theorem dL_refuses_580 : decode cL_refuses 580 = .ok (.if_icmp .ne 23, 3) := by decide +kernel
theorem dL_refuses_583 : decode cL_refuses 583 = .ok (.aload_n 0, 1) := by decide +kernel
theorem dL_refuses_584 : decode cL_refuses 584 = .ok (.iload_n 3, 1) := by decide +kernel
theorem dL_refuses_585 : decode cL_refuses 585 = .ok (.aload_n 1, 1) := by decide +kernel
theorem dL_refuses_586 : decode cL_refuses 586 = .ok (.iconst 0, 1) := by decide +kernel
theorem dL_refuses_587 : decode cL_refuses 587 = .ok (.iaload, 1) := by decide +kernel
theorem dL_refuses_588 : decode cL_refuses 588 = .ok (.irem, 1) := by decide +kernel
theorem dL_refuses_589 : decode cL_refuses 589 = .ok (.iload 7, 2) := by decide +kernel
theorem dL_refuses_591 : decode cL_refuses 591 = .ok (.invokestatic 89, 3) := by decide +kernel
theorem dL_refuses_594 : decode cL_refuses 594 = .ok (.ldc 15, 2) := by decide +kernel
theorem dL_refuses_596 : decode cL_refuses 596 = .ok (.if_icmp .ne 7, 3) := by decide +kernel
theorem dL_refuses_599 : decode cL_refuses 599 = .ok (.iconst 1, 1) := by decide +kernel
theorem dL_refuses_600 : decode cL_refuses 600 = .ok (.goto 4, 3) := by decide +kernel
theorem dL_refuses_603 : decode cL_refuses 603 = .ok (.iconst 0, 1) := by decide +kernel
theorem dL_refuses_604 : decode cL_refuses 604 = .ok (.istore 9, 2) := by decide +kernel
theorem dL_refuses_606 : decode cL_refuses 606 = .ok (.iload 9, 2) := by decide +kernel
theorem dL_refuses_608 : decode cL_refuses 608 = .ok (.ifCond .eq 230, 3) := by decide +kernel
theorem dL_refuses_611 : decode cL_refuses 611 = .ok (.aload_n 1, 1) := by decide +kernel
theorem dL_refuses_612 : decode cL_refuses 612 = .ok (.iconst 1, 1) := by decide +kernel
theorem dL_refuses_613 : decode cL_refuses 613 = .ok (.iaload, 1) := by decide +kernel
theorem dL_refuses_614 : decode cL_refuses 614 = .ok (.ifCond .le 224, 3) := by decide +kernel
theorem dL_refuses_617 : decode cL_refuses 617 = .ok (.iload_n 3, 1) := by decide +kernel
theorem dL_refuses_618 : decode cL_refuses 618 = .ok (.aload_n 1, 1) := by decide +kernel
theorem dL_refuses_619 : decode cL_refuses 619 = .ok (.iconst 1, 1) := by decide +kernel
theorem dL_refuses_620 : decode cL_refuses 620 = .ok (.iaload, 1) := by decide +kernel
theorem dL_refuses_621 : decode cL_refuses 621 = .ok (.irem, 1) := by decide +kernel
theorem dL_refuses_622 : decode cL_refuses 622 = .ok (.istore 10, 2) := by decide +kernel
theorem dL_refuses_624 : decode cL_refuses 624 = .ok (.iload 4, 2) := by decide +kernel
theorem dL_refuses_626 : decode cL_refuses 626 = .ok (.ifCond .eq 12, 3) := by decide +kernel
theorem dL_refuses_629 : decode cL_refuses 629 = .ok (.iconst (-1), 1) := by decide +kernel
theorem dL_refuses_630 : decode cL_refuses 630 = .ok (.iload_n 3, 1) := by decide +kernel
theorem dL_refuses_631 : decode cL_refuses 631 = .ok (.bipush 50, 2) := by decide +kernel
theorem dL_refuses_633 : decode cL_refuses 633 = .ok (.irem, 1) := by decide +kernel
theorem dL_refuses_634 : decode cL_refuses 634 = .ok (.isub, 1) := by decide +kernel
theorem dL_refuses_635 : decode cL_refuses 635 = .ok (.goto 12, 3) := by decide +kernel
theorem dL_refuses_638 : decode cL_refuses 638 = .ok (.aload_n 2, 1) := by decide +kernel
theorem dL_refuses_639 : decode cL_refuses 639 = .ok (.iload 10, 2) := by decide +kernel
theorem dL_refuses_641 : decode cL_refuses 641 = .ok (.iaload, 1) := by decide +kernel
theorem dL_refuses_642 : decode cL_refuses 642 = .ok (.iload_n 3, 1) := by decide +kernel
theorem dL_refuses_643 : decode cL_refuses 643 = .ok (.bipush 50, 2) := by decide +kernel
theorem dL_refuses_645 : decode cL_refuses 645 = .ok (.irem, 1) := by decide +kernel
theorem dL_refuses_646 : decode cL_refuses 646 = .ok (.iadd, 1) := by decide +kernel
theorem dL_refuses_647 : decode cL_refuses 647 = .ok (.istore 11, 2) := by decide +kernel
theorem dL_refuses_649 : decode cL_refuses 649 = .ok (.aload_n 0, 1) := by decide +kernel
theorem dL_refuses_650 : decode cL_refuses 650 = .ok (.iload 10, 2) := by decide +kernel
theorem dL_refuses_652 : decode cL_refuses 652 = .ok (.iload 11, 2) := by decide +kernel
theorem dL_refuses_654 : decode cL_refuses 654 = .ok (.iload 7, 2) := by decide +kernel
theorem dL_refuses_656 : decode cL_refuses 656 = .ok (.iconst 0, 1) := by decide +kernel
theorem dL_refuses_657 : decode cL_refuses 657 = .ok (.invokestatic 103, 3) := by decide +kernel
theorem dL_refuses_660 : decode cL_refuses 660 = .ok (.ldc 25, 2) := by decide +kernel
theorem dL_refuses_662 : decode cL_refuses 662 = .ok (.if_icmp .ne 173, 3) := by decide +kernel
theorem dL_refuses_665 : decode cL_refuses 665 = .ok (.aload_n 0, 1) := by decide +kernel
theorem dL_refuses_666 : decode cL_refuses 666 = .ok (.iload 10, 2) := by decide +kernel
theorem dL_refuses_668 : decode cL_refuses 668 = .ok (.iconst 0, 1) := by decide +kernel
theorem dL_refuses_669 : decode cL_refuses 669 = .ok (.iload 7, 2) := by decide +kernel
theorem dL_refuses_671 : decode cL_refuses 671 = .ok (.iconst 0, 1) := by decide +kernel
theorem dL_refuses_672 : decode cL_refuses 672 = .ok (.invokestatic 103, 3) := by decide +kernel
theorem dL_refuses_675 : decode cL_refuses 675 = .ok (.ldc 15, 2) := by decide +kernel
theorem dL_refuses_677 : decode cL_refuses 677 = .ok (.if_icmp .ne 158, 3) := by decide +kernel
theorem dL_refuses_680 : decode cL_refuses 680 = .ok (.aload_n 0, 1) := by decide +kernel
theorem dL_refuses_681 : decode cL_refuses 681 = .ok (.iload 10, 2) := by decide +kernel
theorem dL_refuses_683 : decode cL_refuses 683 = .ok (.iconst 0, 1) := by decide +kernel
theorem dL_refuses_684 : decode cL_refuses 684 = .ok (.iconst 0, 1) := by decide +kernel
theorem dL_refuses_685 : decode cL_refuses 685 = .ok (.bipush 61, 2) := by decide +kernel
theorem dL_refuses_687 : decode cL_refuses 687 = .ok (.iload_n 3, 1) := by decide +kernel
theorem dL_refuses_688 : decode cL_refuses 688 = .ok (.iadd, 1) := by decide +kernel
theorem dL_refuses_689 : decode cL_refuses 689 = .ok (.invokestatic 103, 3) := by decide +kernel
theorem dL_refuses_692 : decode cL_refuses 692 = .ok (.ldc 15, 2) := by decide +kernel
theorem dL_refuses_694 : decode cL_refuses 694 = .ok (.if_icmp .ne 141, 3) := by decide +kernel
theorem dL_refuses_697 : decode cL_refuses 697 = .ok (.aload_n 0, 1) := by decide +kernel
theorem dL_refuses_698 : decode cL_refuses 698 = .ok (.iload 10, 2) := by decide +kernel
theorem dL_refuses_700 : decode cL_refuses 700 = .ok (.iload 11, 2) := by decide +kernel
theorem dL_refuses_702 : decode cL_refuses 702 = .ok (.invokestatic 106, 3) := by decide +kernel
theorem dL_refuses_705 : decode cL_refuses 705 = .ok (.ldc 25, 2) := by decide +kernel
theorem dL_refuses_707 : decode cL_refuses 707 = .ok (.if_icmp .ne 128, 3) := by decide +kernel
theorem dL_refuses_710 : decode cL_refuses 710 = .ok (.aload_n 0, 1) := by decide +kernel
theorem dL_refuses_711 : decode cL_refuses 711 = .ok (.iload 10, 2) := by decide +kernel
theorem dL_refuses_713 : decode cL_refuses 713 = .ok (.iload 11, 2) := by decide +kernel
theorem dL_refuses_715 : decode cL_refuses 715 = .ok (.invokestatic 127, 3) := by decide +kernel
theorem dL_refuses_718 : decode cL_refuses 718 = .ok (.ldc 25, 2) := by decide +kernel
theorem dL_refuses_720 : decode cL_refuses 720 = .ok (.if_icmp .ne 115, 3) := by decide +kernel
theorem dL_refuses_723 : decode cL_refuses 723 = .ok (.aload_n 0, 1) := by decide +kernel
theorem dL_refuses_724 : decode cL_refuses 724 = .ok (.iload 10, 2) := by decide +kernel
theorem dL_refuses_726 : decode cL_refuses 726 = .ok (.iconst 0, 1) := by decide +kernel
theorem dL_refuses_727 : decode cL_refuses 727 = .ok (.iconst 0, 1) := by decide +kernel
theorem dL_refuses_728 : decode cL_refuses 728 = .ok (.invokestatic 110, 3) := by decide +kernel
theorem dL_refuses_731 : decode cL_refuses 731 = .ok (.ldc 25, 2) := by decide +kernel
theorem dL_refuses_733 : decode cL_refuses 733 = .ok (.if_icmp .ne 102, 3) := by decide +kernel
theorem dL_refuses_736 : decode cL_refuses 736 = .ok (.aload_n 0, 1) := by decide +kernel
theorem dL_refuses_737 : decode cL_refuses 737 = .ok (.iload 10, 2) := by decide +kernel
theorem dL_refuses_739 : decode cL_refuses 739 = .ok (.aload_n 2, 1) := by decide +kernel
theorem dL_refuses_740 : decode cL_refuses 740 = .ok (.iload 10, 2) := by decide +kernel
theorem dL_refuses_742 : decode cL_refuses 742 = .ok (.iaload, 1) := by decide +kernel
theorem dL_refuses_743 : decode cL_refuses 743 = .ok (.iconst 1, 1) := by decide +kernel
theorem dL_refuses_744 : decode cL_refuses 744 = .ok (.isub, 1) := by decide +kernel
theorem dL_refuses_745 : decode cL_refuses 745 = .ok (.iload 7, 2) := by decide +kernel
theorem dL_refuses_747 : decode cL_refuses 747 = .ok (.invokestatic 110, 3) := by decide +kernel
theorem dL_refuses_750 : decode cL_refuses 750 = .ok (.ldc 25, 2) := by decide +kernel
theorem dL_refuses_752 : decode cL_refuses 752 = .ok (.if_icmp .ne 83, 3) := by decide +kernel
theorem dL_refuses_755 : decode cL_refuses 755 = .ok (.aload_n 0, 1) := by decide +kernel
theorem dL_refuses_756 : decode cL_refuses 756 = .ok (.iload 10, 2) := by decide +kernel
theorem dL_refuses_758 : decode cL_refuses 758 = .ok (.iload 11, 2) := by decide +kernel
theorem dL_refuses_760 : decode cL_refuses 760 = .ok (.iconst 0, 1) := by decide +kernel
theorem dL_refuses_761 : decode cL_refuses 761 = .ok (.invokestatic 110, 3) := by decide +kernel
theorem dL_refuses_764 : decode cL_refuses 764 = .ok (.ldc 25, 2) := by decide +kernel
theorem dL_refuses_766 : decode cL_refuses 766 = .ok (.if_icmp .ne 69, 3) := by decide +kernel
theorem dL_refuses_769 : decode cL_refuses 769 = .ok (.aload_n 0, 1) := by decide +kernel
theorem dL_refuses_770 : decode cL_refuses 770 = .ok (.iload 10, 2) := by decide +kernel
theorem dL_refuses_772 : decode cL_refuses 772 = .ok (.iload 8, 2) := by decide +kernel
theorem dL_refuses_774 : decode cL_refuses 774 = .ok (.invokestatic 113, 3) := by decide +kernel
theorem dL_refuses_777 : decode cL_refuses 777 = .ok (.ldc 15, 2) := by decide +kernel
theorem dL_refuses_779 : decode cL_refuses 779 = .ok (.if_icmp .ne 56, 3) := by decide +kernel
theorem dL_refuses_782 : decode cL_refuses 782 = .ok (.aload_n 0, 1) := by decide +kernel
theorem dL_refuses_783 : decode cL_refuses 783 = .ok (.iload 10, 2) := by decide +kernel
theorem dL_refuses_785 : decode cL_refuses 785 = .ok (.iconst 0, 1) := by decide +kernel
theorem dL_refuses_786 : decode cL_refuses 786 = .ok (.invokestatic 124, 3) := by decide +kernel
theorem dL_refuses_789 : decode cL_refuses 789 = .ok (.ldc 15, 2) := by decide +kernel
theorem dL_refuses_791 : decode cL_refuses 791 = .ok (.if_icmp .ne 44, 3) := by decide +kernel
