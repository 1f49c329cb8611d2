theorem dX2_rehearse_50 : decode cX2_rehearse 50 = .ok (.ireturn, 1) := by decide +kernel
theorem dX2_weakness_0 : decode cX2_weakness 0 = .ok (.aload_n 0, 1) := by decide +kernel
theorem dX2_weakness_1 : decode cX2_weakness 1 = .ok (.iload_n 1, 1) := by decide +kernel
theorem dX2_weakness_2 : decode cX2_weakness 2 = .ok (.invokevirtual 102, 3) := by decide +kernel
theorem dX2_weakness_5 : decode cX2_weakness 5 = .ok (.astore_n 3, 1) := by decide +kernel
theorem dX2_weakness_6 : decode cX2_weakness 6 = .ok (.aload_n 3, 1) := by decide +kernel
theorem dX2_weakness_7 : decode cX2_weakness 7 = .ok (.iload_n 2, 1) := by decide +kernel
theorem dX2_weakness_8 : decode cX2_weakness 8 = .ok (.invokestatic 106, 3) := by decide +kernel
theorem dX2_weakness_11 : decode cX2_weakness 11 = .ok (.aload_n 3, 1) := by decide +kernel
theorem dX2_weakness_12 : decode cX2_weakness 12 = .ok (.iload_n 2, 1) := by decide +kernel
theorem dX2_weakness_13 : decode cX2_weakness 13 = .ok (.invokevirtual 171, 3) := by decide +kernel
theorem dX2_weakness_16 : decode cX2_weakness 16 = .ok (.ireturn, 1) := by decide +kernel
theorem dX2_weakest_0 : decode cX2_weakest 0 = .ok (.aload_n 0, 1) := by decide +kernel
theorem dX2_weakest_1 : decode cX2_weakest 1 = .ok (.iload_n 1, 1) := by decide +kernel
theorem dX2_weakest_2 : decode cX2_weakest 2 = .ok (.invokevirtual 102, 3) := by decide +kernel
theorem dX2_weakest_5 : decode cX2_weakest 5 = .ok (.invokevirtual 174, 3) := by decide +kernel
theorem dX2_weakest_8 : decode cX2_weakest 8 = .ok (.ireturn, 1) := by decide +kernel
theorem dX2_checkVoice_0 : decode cX2_checkVoice 0 = .ok (.iload_n 0, 1) := by decide +kernel
theorem dX2_checkVoice_1 : decode cX2_checkVoice 1 = .ok (.ifCond .lt 8, 3) := by decide +kernel
theorem dX2_checkVoice_4 : decode cX2_checkVoice 4 = .ok (.iload_n 0, 1) := by decide +kernel
theorem dX2_checkVoice_5 : decode cX2_checkVoice 5 = .ok (.iconst 4, 1) := by decide +kernel
theorem dX2_checkVoice_6 : decode cX2_checkVoice 6 = .ok (.if_icmp .lt 13, 3) := by decide +kernel
theorem dX2_checkVoice_9 : decode cX2_checkVoice 9 = .ok (.new 35, 3) := by decide +kernel
theorem dX2_checkVoice_12 : decode cX2_checkVoice 12 = .ok (.dup, 1) := by decide +kernel
theorem dX2_checkVoice_13 : decode cX2_checkVoice 13 = .ok (.ldc 177, 2) := by decide +kernel
theorem dX2_checkVoice_15 : decode cX2_checkVoice 15 = .ok (.invokespecial 39, 3) := by decide +kernel
theorem dX2_checkVoice_18 : decode cX2_checkVoice 18 = .ok (.athrow, 1) := by decide +kernel
theorem dX2_checkVoice_19 : decode cX2_checkVoice 19 = .ok (.return_, 1) := by decide +kernel
theorem dX2_checkTone_0 : decode cX2_checkTone 0 = .ok (.iload_n 0, 1) := by decide +kernel
theorem dX2_checkTone_1 : decode cX2_checkTone 1 = .ok (.ifCond .lt 8, 3) := by decide +kernel
theorem dX2_checkTone_4 : decode cX2_checkTone 4 = .ok (.iload_n 0, 1) := by decide +kernel
theorem dX2_checkTone_5 : decode cX2_checkTone 5 = .ok (.iload_n 1, 1) := by decide +kernel
theorem dX2_checkTone_6 : decode cX2_checkTone 6 = .ok (.if_icmp .le 13, 3) := by decide +kernel
theorem dX2_checkTone_9 : decode cX2_checkTone 9 = .ok (.new 35, 3) := by decide +kernel
theorem dX2_checkTone_12 : decode cX2_checkTone 12 = .ok (.dup, 1) := by decide +kernel
theorem dX2_checkTone_13 : decode cX2_checkTone 13 = .ok (.ldc 179, 2) := by decide +kernel
theorem dX2_checkTone_15 : decode cX2_checkTone 15 = .ok (.invokespecial 39, 3) := by decide +kernel
theorem dX2_checkTone_18 : decode cX2_checkTone 18 = .ok (.athrow, 1) := by decide +kernel
theorem dX2_checkTone_19 : decode cX2_checkTone 19 = .ok (.return_, 1) := by decide +kernel
theorem dX2_checkDate_0 : decode cX2_checkDate 0 = .ok (.iload_n 0, 1) := by decide +kernel
theorem dX2_checkDate_1 : decode cX2_checkDate 1 = .ok (.ifCond .lt 9, 3) := by decide +kernel
theorem dX2_checkDate_4 : decode cX2_checkDate 4 = .ok (.iload_n 0, 1) := by decide +kernel
theorem dX2_checkDate_5 : decode cX2_checkDate 5 = .ok (.bipush 31, 2) := by decide +kernel
theorem dX2_checkDate_7 : decode cX2_checkDate 7 = .ok (.if_icmp .lt 13, 3) := by decide +kernel
theorem dX2_checkDate_10 : decode cX2_checkDate 10 = .ok (.new 35, 3) := by decide +kernel
theorem dX2_checkDate_13 : decode cX2_checkDate 13 = .ok (.dup, 1) := by decide +kernel
theorem dX2_checkDate_14 : decode cX2_checkDate 14 = .ok (.ldc 181, 2) := by decide +kernel
theorem dX2_checkDate_16 : decode cX2_checkDate 16 = .ok (.invokespecial 39, 3) := by decide +kernel
theorem dX2_checkDate_19 : decode cX2_checkDate 19 = .ok (.athrow, 1) := by decide +kernel
theorem dX2_checkDate_20 : decode cX2_checkDate 20 = .ok (.return_, 1) := by decide +kernel
theorem dX2_checkTime_0 : decode cX2_checkTime 0 = .ok (.iload_n 0, 1) := by decide +kernel
theorem dX2_checkTime_1 : decode cX2_checkTime 1 = .ok (.ifCond .lt 10, 3) := by decide +kernel
theorem dX2_checkTime_4 : decode cX2_checkTime 4 = .ok (.iload_n 0, 1) := by decide +kernel
theorem dX2_checkTime_5 : decode cX2_checkTime 5 = .ok (.sipush 20000, 3) := by decide +kernel
theorem dX2_checkTime_8 : decode cX2_checkTime 8 = .ok (.if_icmp .le 13, 3) := by decide +kernel
theorem dX2_checkTime_11 : decode cX2_checkTime 11 = .ok (.new 35, 3) := by decide +kernel
theorem dX2_checkTime_14 : decode cX2_checkTime 14 = .ok (.dup, 1) := by decide +kernel
theorem dX2_checkTime_15 : decode cX2_checkTime 15 = .ok (.ldc 183, 2) := by decide +kernel
theorem dX2_checkTime_17 : decode cX2_checkTime 17 = .ok (.invokespecial 39, 3) := by decide +kernel
theorem dX2_checkTime_20 : decode cX2_checkTime 20 = .ok (.athrow, 1) := by decide +kernel
theorem dX2_checkTime_21 : decode cX2_checkTime 21 = .ok (.return_, 1) := by decide +kernel
theorem dX2_checkSinger_0 : decode cX2_checkSinger 0 = .ok (.aload_n 0, 1) := by decide +kernel
theorem dX2_checkSinger_1 : decode cX2_checkSinger 1 = .ok (.getfield 12, 3) := by decide +kernel
theorem dX2_checkSinger_4 : decode cX2_checkSinger 4 = .ok (.iload_n 1, 1) := by decide +kernel
theorem dX2_checkSinger_5 : decode cX2_checkSinger 5 = .ok (.invokevirtual 185, 3) := by decide +kernel
theorem dX2_checkSinger_8 : decode cX2_checkSinger 8 = .ok (.ifCond .ne 13, 3) := by decide +kernel
theorem dX2_checkSinger_11 : decode cX2_checkSinger 11 = .ok (.new 137, 3) := by decide +kernel
theorem dX2_checkSinger_14 : decode cX2_checkSinger 14 = .ok (.dup, 1) := by decide +kernel
theorem dX2_checkSinger_15 : decode cX2_checkSinger 15 = .ok (.ldc 188, 2) := by decide +kernel
theorem dX2_checkSinger_17 : decode cX2_checkSinger 17 = .ok (.invokespecial 141, 3) := by decide +kernel
theorem dX2_checkSinger_20 : decode cX2_checkSinger 20 = .ok (.athrow, 1) := by decide +kernel
theorem dX2_checkSinger_21 : decode cX2_checkSinger 21 = .ok (.return_, 1) := by decide +kernel
theorem dX2_checkChord_0 : decode cX2_checkChord 0 = .ok (.aload_n 0, 1) := by decide +kernel
theorem dX2_checkChord_1 : decode cX2_checkChord 1 = .ok (.iload_n 1, 1) := by decide +kernel
theorem dX2_checkChord_2 : decode cX2_checkChord 2 = .ok (.invokevirtual 190, 3) := by decide +kernel
theorem dX2_checkChord_5 : decode cX2_checkChord 5 = .ok (.ifCond .ne 13, 3) := by decide +kernel
theorem dX2_checkChord_8 : decode cX2_checkChord 8 = .ok (.new 137, 3) := by decide +kernel
theorem dX2_checkChord_11 : decode cX2_checkChord 11 = .ok (.dup, 1) := by decide +kernel
theorem dX2_checkChord_12 : decode cX2_checkChord 12 = .ok (.ldc 191, 2) := by decide +kernel
theorem dX2_checkChord_14 : decode cX2_checkChord 14 = .ok (.invokespecial 141, 3) := by decide +kernel
theorem dX2_checkChord_17 : decode cX2_checkChord 17 = .ok (.athrow, 1) := by decide +kernel
theorem dX2_checkChord_18 : decode cX2_checkChord 18 = .ok (.return_, 1) := by decide +kernel
theorem dX2_pieceAt_0 : decode cX2_pieceAt 0 = .ok (.iload_n 1, 1) := by decide +kernel
theorem dX2_pieceAt_1 : decode cX2_pieceAt 1 = .ok (.ifCond .lt 20, 3) := by decide +kernel
theorem dX2_pieceAt_4 : decode cX2_pieceAt 4 = .ok (.iload_n 1, 1) := by decide +kernel
theorem dX2_pieceAt_5 : decode cX2_pieceAt 5 = .ok (.aload_n 0, 1) := by decide +kernel
theorem dX2_pieceAt_6 : decode cX2_pieceAt 6 = .ok (.getfield 93, 3) := by decide +kernel
theorem dX2_pieceAt_9 : decode cX2_pieceAt 9 = .ok (.if_icmp .ge 12, 3) := by decide +kernel
theorem dX2_pieceAt_12 : decode cX2_pieceAt 12 = .ok (.aload_n 0, 1) := by decide +kernel
theorem dX2_pieceAt_13 : decode cX2_pieceAt 13 = .ok (.getfield 18, 3) := by decide +kernel
theorem dX2_pieceAt_16 : decode cX2_pieceAt 16 = .ok (.iload_n 1, 1) := by decide +kernel
theorem dX2_pieceAt_17 : decode cX2_pieceAt 17 = .ok (.aaload, 1) := by decide +kernel
theorem dX2_pieceAt_18 : decode cX2_pieceAt 18 = .ok (.goto 4, 3) := by decide +kernel
theorem dX2_pieceAt_21 : decode cX2_pieceAt 21 = .ok (.aconst_null, 1) := by decide +kernel
theorem dX2_pieceAt_22 : decode cX2_pieceAt 22 = .ok (.astore_n 2, 1) := by decide +kernel
theorem dX2_pieceAt_23 : decode cX2_pieceAt 23 = .ok (.aload_n 2, 1) := by decide +kernel
theorem dX2_pieceAt_24 : decode cX2_pieceAt 24 = .ok (.ifnonnull 13, 3) := by decide +kernel
theorem dX2_pieceAt_27 : decode cX2_pieceAt 27 = .ok (.new 137, 3) := by decide +kernel
theorem dX2_pieceAt_30 : decode cX2_pieceAt 30 = .ok (.dup, 1) := by decide +kernel
theorem dX2_pieceAt_31 : decode cX2_pieceAt 31 = .ok (.ldc 193, 2) := by decide +kernel
theorem dX2_pieceAt_33 : decode cX2_pieceAt 33 = .ok (.invokespecial 141, 3) := by decide +kernel
theorem dX2_pieceAt_36 : decode cX2_pieceAt 36 = .ok (.athrow, 1) := by decide +kernel
theorem dX2_pieceAt_37 : decode cX2_pieceAt 37 = .ok (.aload_n 2, 1) := by decide +kernel
theorem dX2_pieceAt_38 : decode cX2_pieceAt 38 = .ok (.areturn, 1) := by decide +kernel
theorem dX2_nearestShift_0 : decode cX2_nearestShift 0 = .ok (.bipush (-12), 2) := by decide +kernel
theorem dX2_nearestShift_2 : decode cX2_nearestShift 2 = .ok (.istore_n 3, 1) := by decide +kernel
theorem dX2_nearestShift_3 : decode cX2_nearestShift 3 = .ok (.bipush 12, 2) := by decide +kernel
theorem dX2_nearestShift_5 : decode cX2_nearestShift 5 = .ok (.istore 4, 2) := by decide +kernel
theorem dX2_nearestShift_7 : decode cX2_nearestShift 7 = .ok (.iconst 0, 1) := by decide +kernel
theorem dX2_nearestShift_8 : decode cX2_nearestShift 8 = .ok (.istore 5, 2) := by decide +kernel
theorem dX2_nearestShift_10 : decode cX2_nearestShift 10 = .ok (.iload 5, 2) := by decide +kernel
theorem dX2_nearestShift_12 : decode cX2_nearestShift 12 = .ok (.iconst 4, 1) := by decide +kernel
theorem dX2_nearestShift_13 : decode cX2_nearestShift 13 = .ok (.if_icmp .ge 55, 3) := by decide +kernel
theorem dX2_nearestShift_16 : decode cX2_nearestShift 16 = .ok (.iload_n 3, 1) := by decide +kernel
theorem dX2_nearestShift_17 : decode cX2_nearestShift 17 = .ok (.aload_n 0, 1) := by decide +kernel
theorem dX2_nearestShift_18 : decode cX2_nearestShift 18 = .ok (.getfield 12, 3) := by decide +kernel
theorem dX2_nearestShift_21 : decode cX2_nearestShift 21 = .ok (.iload 5, 2) := by decide +kernel
theorem dX2_nearestShift_23 : decode cX2_nearestShift 23 = .ok (.iload_n 2, 1) := by decide +kernel
theorem dX2_nearestShift_24 : decode cX2_nearestShift 24 = .ok (.invokevirtual 73, 3) := by decide +kernel
theorem dX2_nearestShift_27 : decode cX2_nearestShift 27 = .ok (.aload_n 1, 1) := by decide +kernel
theorem dX2_nearestShift_28 : decode cX2_nearestShift 28 = .ok (.iload 5, 2) := by decide +kernel
theorem dX2_nearestShift_30 : decode cX2_nearestShift 30 = .ok (.invokevirtual 195, 3) := by decide +kernel
theorem dX2_nearestShift_33 : decode cX2_nearestShift 33 = .ok (.isub, 1) := by decide +kernel
theorem dX2_nearestShift_34 : decode cX2_nearestShift 34 = .ok (.invokestatic 198, 3) := by decide +kernel
theorem dX2_nearestShift_37 : decode cX2_nearestShift 37 = .ok (.istore_n 3, 1) := by decide +kernel
theorem dX2_nearestShift_38 : decode cX2_nearestShift 38 = .ok (.iload 4, 2) := by decide +kernel
theorem dX2_nearestShift_40 : decode cX2_nearestShift 40 = .ok (.aload_n 0, 1) := by decide +kernel
theorem dX2_nearestShift_41 : decode cX2_nearestShift 41 = .ok (.getfield 12, 3) := by decide +kernel
theorem dX2_nearestShift_44 : decode cX2_nearestShift 44 = .ok (.iload 5, 2) := by decide +kernel
theorem dX2_nearestShift_46 : decode cX2_nearestShift 46 = .ok (.iload_n 2, 1) := by decide +kernel
theorem dX2_nearestShift_47 : decode cX2_nearestShift 47 = .ok (.invokevirtual 76, 3) := by decide +kernel
theorem dX2_nearestShift_50 : decode cX2_nearestShift 50 = .ok (.aload_n 1, 1) := by decide +kernel
theorem dX2_nearestShift_51 : decode cX2_nearestShift 51 = .ok (.iload 5, 2) := by decide +kernel
theorem dX2_nearestShift_53 : decode cX2_nearestShift 53 = .ok (.invokevirtual 203, 3) := by decide +kernel
theorem dX2_nearestShift_56 : decode cX2_nearestShift 56 = .ok (.isub, 1) := by decide +kernel
theorem dX2_nearestShift_57 : decode cX2_nearestShift 57 = .ok (.invokestatic 206, 3) := by decide +kernel
theorem dX2_nearestShift_60 : decode cX2_nearestShift 60 = .ok (.istore 4, 2) := by decide +kernel
theorem dX2_nearestShift_62 : decode cX2_nearestShift 62 = .ok (.iinc 5 1, 3) := by decide +kernel
theorem dX2_nearestShift_65 : decode cX2_nearestShift 65 = .ok (.goto (-55), 3) := by decide +kernel
theorem dX2_nearestShift_68 : decode cX2_nearestShift 68 = .ok (.iload_n 3, 1) := by decide +kernel
theorem dX2_nearestShift_69 : decode cX2_nearestShift 69 = .ok (.iload 4, 2) := by decide +kernel
theorem dX2_nearestShift_71 : decode cX2_nearestShift 71 = .ok (.if_icmp .le 8, 3) := by decide +kernel
theorem dX2_nearestShift_74 : decode cX2_nearestShift 74 = .ok (.bipush 13, 2) := by decide +kernel
theorem dX2_nearestShift_76 : decode cX2_nearestShift 76 = .ok (.goto 13, 3) := by decide +kernel
theorem dX2_nearestShift_79 : decode cX2_nearestShift 79 = .ok (.iload_n 3, 1) := by decide +kernel
theorem dX2_nearestShift_80 : decode cX2_nearestShift 80 = .ok (.iload 4, 2) := by decide +kernel
theorem dX2_nearestShift_82 : decode cX2_nearestShift 82 = .ok (.iconst 0, 1) := by decide +kernel
theorem dX2_nearestShift_83 : decode cX2_nearestShift 83 = .ok (.invokestatic 206, 3) := by decide +kernel
theorem dX2_nearestShift_86 : decode cX2_nearestShift 86 = .ok (.invokestatic 198, 3) := by decide +kernel
theorem dX2_nearestShift_89 : decode cX2_nearestShift 89 = .ok (.ireturn, 1) := by decide +kernel
theorem dX2_bestSet_0 : decode cX2_bestSet 0 = .ok (.aload_n 0, 1) := by decide +kernel
theorem dX2_bestSet_1 : decode cX2_bestSet 1 = .ok (.iload_n 1, 1) := by decide +kernel
theorem dX2_bestSet_2 : decode cX2_bestSet 2 = .ok (.invokevirtual 209, 3) := by decide +kernel
theorem dX2_bestSet_5 : decode cX2_bestSet 5 = .ok (.istore_n 3, 1) := by decide +kernel
theorem dX2_bestSet_6 : decode cX2_bestSet 6 = .ok (.iconst 0, 1) := by decide +kernel
theorem dX2_bestSet_7 : decode cX2_bestSet 7 = .ok (.istore 4, 2) := by decide +kernel
theorem dX2_bestSet_9 : decode cX2_bestSet 9 = .ok (.iconst 1, 1) := by decide +kernel
theorem dX2_bestSet_10 : decode cX2_bestSet 10 = .ok (.istore 5, 2) := by decide +kernel
theorem dX2_bestSet_12 : decode cX2_bestSet 12 = .ok (.iload 5, 2) := by decide +kernel
theorem dX2_bestSet_14 : decode cX2_bestSet 14 = .ok (.iconst 1, 1) := by decide +kernel
theorem dX2_bestSet_15 : decode cX2_bestSet 15 = .ok (.aload_n 0, 1) := by decide +kernel
theorem dX2_bestSet_16 : decode cX2_bestSet 16 = .ok (.getfield 93, 3) := by decide +kernel
theorem dX2_bestSet_19 : decode cX2_bestSet 19 = .ok (.ishl, 1) := by decide +kernel
theorem dX2_bestSet_20 : decode cX2_bestSet 20 = .ok (.if_icmp .ge 43, 3) := by decide +kernel
theorem dX2_bestSet_23 : decode cX2_bestSet 23 = .ok (.iload 5, 2) := by decide +kernel
theorem dX2_bestSet_25 : decode cX2_bestSet 25 = .ok (.iload_n 3, 1) := by decide +kernel
theorem dX2_bestSet_26 : decode cX2_bestSet 26 = .ok (.iconst (-1), 1) := by decide +kernel
theorem dX2_bestSet_27 : decode cX2_bestSet 27 = .ok (.ixor, 1) := by decide +kernel
theorem dX2_bestSet_28 : decode cX2_bestSet 28 = .ok (.iand, 1) := by decide +kernel
theorem dX2_bestSet_29 : decode cX2_bestSet 29 = .ok (.ifCond .ne 28, 3) := by decide +kernel
theorem dX2_bestSet_32 : decode cX2_bestSet 32 = .ok (.aload_n 0, 1) := by decide +kernel
theorem dX2_bestSet_33 : decode cX2_bestSet 33 = .ok (.iload 5, 2) := by decide +kernel
theorem dX2_bestSet_35 : decode cX2_bestSet 35 = .ok (.invokevirtual 160, 3) := by decide +kernel
theorem dX2_bestSet_38 : decode cX2_bestSet 38 = .ok (.iload_n 2, 1) := by decide +kernel
theorem dX2_bestSet_39 : decode cX2_bestSet 39 = .ok (.if_icmp .gt 18, 3) := by decide +kernel
theorem dX2_bestSet_42 : decode cX2_bestSet 42 = .ok (.aload_n 0, 1) := by decide +kernel
theorem dX2_bestSet_43 : decode cX2_bestSet 43 = .ok (.iload 5, 2) := by decide +kernel
theorem dX2_bestSet_45 : decode cX2_bestSet 45 = .ok (.iload 4, 2) := by decide +kernel
theorem dX2_bestSet_47 : decode cX2_bestSet 47 = .ok (.invokevirtual 212, 3) := by decide +kernel
theorem dX2_bestSet_50 : decode cX2_bestSet 50 = .ok (.ifCond .eq 7, 3) := by decide +kernel
theorem dX2_bestSet_53 : decode cX2_bestSet 53 = .ok (.iload 5, 2) := by decide +kernel
theorem dX2_bestSet_55 : decode cX2_bestSet 55 = .ok (.istore 4, 2) := by decide +kernel
theorem dX2_bestSet_57 : decode cX2_bestSet 57 = .ok (.iinc 5 1, 3) := by decide +kernel
theorem dX2_bestSet_60 : decode cX2_bestSet 60 = .ok (.goto (-48), 3) := by decide +kernel
theorem dX2_bestSet_63 : decode cX2_bestSet 63 = .ok (.iload 4, 2) := by decide +kernel
theorem dX2_bestSet_65 : decode cX2_bestSet 65 = .ok (.ireturn, 1) := by decide +kernel
theorem dX2_singableSet_0 : decode cX2_singableSet 0 = .ok (.iconst 0, 1) := by decide +kernel
theorem dX2_singableSet_1 : decode cX2_singableSet 1 = .ok (.istore_n 2, 1) := by decide +kernel
theorem dX2_singableSet_2 : decode cX2_singableSet 2 = .ok (.iconst 0, 1) := by decide +kernel
theorem dX2_singableSet_3 : decode cX2_singableSet 3 = .ok (.istore_n 3, 1) := by decide +kernel
theorem dX2_singableSet_4 : decode cX2_singableSet 4 = .ok (.iload_n 3, 1) := by decide +kernel
theorem dX2_singableSet_5 : decode cX2_singableSet 5 = .ok (.aload_n 0, 1) := by decide +kernel
theorem dX2_singableSet_6 : decode cX2_singableSet 6 = .ok (.getfield 93, 3) := by decide +kernel
theorem dX2_singableSet_9 : decode cX2_singableSet 9 = .ok (.if_icmp .ge 30, 3) := by decide +kernel
theorem dX2_singableSet_12 : decode cX2_singableSet 12 = .ok (.aload_n 0, 1) := by decide +kernel
theorem dX2_singableSet_13 : decode cX2_singableSet 13 = .ok (.aload_n 0, 1) := by decide +kernel
theorem dX2_singableSet_14 : decode cX2_singableSet 14 = .ok (.iload_n 3, 1) := by decide +kernel
theorem dX2_singableSet_15 : decode cX2_singableSet 15 = .ok (.invokevirtual 102, 3) := by decide +kernel
theorem dX2_singableSet_18 : decode cX2_singableSet 18 = .ok (.iload_n 1, 1) := by decide +kernel
theorem dX2_singableSet_19 : decode cX2_singableSet 19 = .ok (.invokevirtual 145, 3) := by decide +kernel
theorem dX2_singableSet_22 : decode cX2_singableSet 22 = .ok (.bipush 13, 2) := by decide +kernel
theorem dX2_singableSet_24 : decode cX2_singableSet 24 = .ok (.if_icmp .eq 9, 3) := by decide +kernel
theorem dX2_singableSet_27 : decode cX2_singableSet 27 = .ok (.iload_n 2, 1) := by decide +kernel
theorem dX2_singableSet_28 : decode cX2_singableSet 28 = .ok (.iconst 1, 1) := by decide +kernel
theorem dX2_singableSet_29 : decode cX2_singableSet 29 = .ok (.iload_n 3, 1) := by decide +kernel
theorem dX2_singableSet_30 : decode cX2_singableSet 30 = .ok (.ishl, 1) := by decide +kernel
theorem dX2_singableSet_31 : decode cX2_singableSet 31 = .ok (.ior, 1) := by decide +kernel
theorem dX2_singableSet_32 : decode cX2_singableSet 32 = .ok (.istore_n 2, 1) := by decide +kernel
theorem dX2_singableSet_33 : decode cX2_singableSet 33 = .ok (.iinc 3 1, 3) := by decide +kernel
theorem dX2_singableSet_36 : decode cX2_singableSet 36 = .ok (.goto (-32), 3) := by decide +kernel
theorem dX2_singableSet_39 : decode cX2_singableSet 39 = .ok (.iload_n 2, 1) := by decide +kernel
theorem dX2_singableSet_40 : decode cX2_singableSet 40 = .ok (.ireturn, 1) := by decide +kernel
theorem dX2_lengthOf_0 : decode cX2_lengthOf 0 = .ok (.iconst 0, 1) := by decide +kernel
theorem dX2_lengthOf_1 : decode cX2_lengthOf 1 = .ok (.istore_n 2, 1) := by decide +kernel
theorem dX2_lengthOf_2 : decode cX2_lengthOf 2 = .ok (.iconst 0, 1) := by decide +kernel
theorem dX2_lengthOf_3 : decode cX2_lengthOf 3 = .ok (.istore_n 3, 1) := by decide +kernel
theorem dX2_lengthOf_4 : decode cX2_lengthOf 4 = .ok (.iload_n 3, 1) := by decide +kernel
theorem dX2_lengthOf_5 : decode cX2_lengthOf 5 = .ok (.aload_n 0, 1) := by decide +kernel
theorem dX2_lengthOf_6 : decode cX2_lengthOf 6 = .ok (.getfield 93, 3) := by decide +kernel
theorem dX2_lengthOf_9 : decode cX2_lengthOf 9 = .ok (.if_icmp .ge 28, 3) := by decide +kernel
theorem dX2_lengthOf_12 : decode cX2_lengthOf 12 = .ok (.iload_n 1, 1) := by decide +kernel
theorem dX2_lengthOf_13 : decode cX2_lengthOf 13 = .ok (.iload_n 3, 1) := by decide +kernel
theorem dX2_lengthOf_14 : decode cX2_lengthOf 14 = .ok (.ishr, 1) := by decide +kernel
theorem dX2_lengthOf_15 : decode cX2_lengthOf 15 = .ok (.iconst 1, 1) := by decide +kernel
theorem dX2_lengthOf_16 : decode cX2_lengthOf 16 = .ok (.iand, 1) := by decide +kernel
theorem dX2_lengthOf_17 : decode cX2_lengthOf 17 = .ok (.ifCond .eq 14, 3) := by decide +kernel
theorem dX2_lengthOf_20 : decode cX2_lengthOf 20 = .ok (.iload_n 2, 1) := by decide +kernel
theorem dX2_lengthOf_21 : decode cX2_lengthOf 21 = .ok (.aload_n 0, 1) := by decide +kernel
theorem dX2_lengthOf_22 : decode cX2_lengthOf 22 = .ok (.iload_n 3, 1) := by decide +kernel
theorem dX2_lengthOf_23 : decode cX2_lengthOf 23 = .ok (.invokevirtual 102, 3) := by decide +kernel
theorem dX2_lengthOf_26 : decode cX2_lengthOf 26 = .ok (.invokevirtual 215, 3) := by decide +kernel
theorem dX2_lengthOf_29 : decode cX2_lengthOf 29 = .ok (.iadd, 1) := by decide +kernel
theorem dX2_lengthOf_30 : decode cX2_lengthOf 30 = .ok (.istore_n 2, 1) := by decide +kernel
theorem dX2_lengthOf_31 : decode cX2_lengthOf 31 = .ok (.iinc 3 1, 3) := by decide +kernel
theorem dX2_lengthOf_34 : decode cX2_lengthOf 34 = .ok (.goto (-30), 3) := by decide +kernel
theorem dX2_lengthOf_37 : decode cX2_lengthOf 37 = .ok (.iload_n 2, 1) := by decide +kernel
theorem dX2_lengthOf_38 : decode cX2_lengthOf 38 = .ok (.ireturn, 1) := by decide +kernel
theorem dX2_isBetter_0 : decode cX2_isBetter 0 = .ok (.aload_n 0, 1) := by decide +kernel
theorem dX2_isBetter_1 : decode cX2_isBetter 1 = .ok (.iload_n 1, 1) := by decide +kernel
theorem dX2_isBetter_2 : decode cX2_isBetter 2 = .ok (.invokevirtual 160, 3) := by decide +kernel
theorem dX2_isBetter_5 : decode cX2_isBetter 5 = .ok (.aload_n 0, 1) := by decide +kernel
theorem dX2_isBetter_6 : decode cX2_isBetter 6 = .ok (.iload_n 2, 1) := by decide +kernel
theorem dX2_isBetter_7 : decode cX2_isBetter 7 = .ok (.invokevirtual 160, 3) := by decide +kernel
theorem dX2_isBetter_10 : decode cX2_isBetter 10 = .ok (.isub, 1) := by decide +kernel
theorem dX2_isBetter_11 : decode cX2_isBetter 11 = .ok (.istore_n 3, 1) := by decide +kernel
theorem dX2_isBetter_12 : decode cX2_isBetter 12 = .ok (.iload_n 3, 1) := by decide +kernel
theorem dX2_isBetter_13 : decode cX2_isBetter 13 = .ok (.ifCond .eq 13, 3) := by decide +kernel
theorem dX2_isBetter_16 : decode cX2_isBetter 16 = .ok (.iload_n 3, 1) := by decide +kernel
theorem dX2_isBetter_17 : decode cX2_isBetter 17 = .ok (.ifCond .le 7, 3) := by decide +kernel
theorem dX2_isBetter_20 : decode cX2_isBetter 20 = .ok (.iconst 1, 1) := by decide +kernel
theorem dX2_isBetter_21 : decode cX2_isBetter 21 = .ok (.goto 4, 3) := by decide +kernel
theorem dX2_isBetter_24 : decode cX2_isBetter 24 = .ok (.iconst 0, 1) := by decide +kernel
theorem dX2_isBetter_25 : decode cX2_isBetter 25 = .ok (.ireturn, 1) := by decide +kernel
theorem dX2_isBetter_26 : decode cX2_isBetter 26 = .ok (.iload_n 1, 1) := by decide +kernel
theorem dX2_isBetter_27 : decode cX2_isBetter 27 = .ok (.invokestatic 218, 3) := by decide +kernel
theorem dX2_isBetter_30 : decode cX2_isBetter 30 = .ok (.iload_n 2, 1) := by decide +kernel
theorem dX2_isBetter_31 : decode cX2_isBetter 31 = .ok (.invokestatic 218, 3) := by decide +kernel
theorem dX2_isBetter_34 : decode cX2_isBetter 34 = .ok (.isub, 1) := by decide +kernel
theorem dX2_isBetter_35 : decode cX2_isBetter 35 = .ok (.istore 4, 2) := by decide +kernel
theorem dX2_isBetter_37 : decode cX2_isBetter 37 = .ok (.iload 4, 2) := by decide +kernel
theorem dX2_isBetter_39 : decode cX2_isBetter 39 = .ok (.ifCond .eq 14, 3) := by decide +kernel
theorem dX2_isBetter_42 : decode cX2_isBetter 42 = .ok (.iload 4, 2) := by decide +kernel
theorem dX2_isBetter_44 : decode cX2_isBetter 44 = .ok (.ifCond .ge 7, 3) := by decide +kernel
theorem dX2_isBetter_47 : decode cX2_isBetter 47 = .ok (.iconst 1, 1) := by decide +kernel
theorem dX2_isBetter_48 : decode cX2_isBetter 48 = .ok (.goto 4, 3) := by decide +kernel
theorem dX2_isBetter_51 : decode cX2_isBetter 51 = .ok (.iconst 0, 1) := by decide +kernel
theorem dX2_isBetter_52 : decode cX2_isBetter 52 = .ok (.ireturn, 1) := by decide +kernel
theorem dX2_isBetter_53 : decode cX2_isBetter 53 = .ok (.iload_n 1, 1) := by decide +kernel
theorem dX2_isBetter_54 : decode cX2_isBetter 54 = .ok (.iload_n 2, 1) := by decide +kernel
theorem dX2_isBetter_55 : decode cX2_isBetter 55 = .ok (.ixor, 1) := by decide +kernel
theorem dX2_isBetter_56 : decode cX2_isBetter 56 = .ok (.istore 5, 2) := by decide +kernel
theorem dX2_isBetter_58 : decode cX2_isBetter 58 = .ok (.iload 5, 2) := by decide +kernel
theorem dX2_isBetter_60 : decode cX2_isBetter 60 = .ok (.iload 5, 2) := by decide +kernel
theorem dX2_isBetter_62 : decode cX2_isBetter 62 = .ok (.ineg, 1) := by decide +kernel
theorem dX2_isBetter_63 : decode cX2_isBetter 63 = .ok (.iand, 1) := by decide +kernel
theorem dX2_isBetter_64 : decode cX2_isBetter 64 = .ok (.istore 6, 2) := by decide +kernel
theorem dX2_isBetter_66 : decode cX2_isBetter 66 = .ok (.iload_n 1, 1) := by decide +kernel
theorem dX2_isBetter_67 : decode cX2_isBetter 67 = .ok (.iload 6, 2) := by decide +kernel
theorem dX2_isBetter_69 : decode cX2_isBetter 69 = .ok (.iand, 1) := by decide +kernel
theorem dX2_isBetter_70 : decode cX2_isBetter 70 = .ok (.ifCond .eq 7, 3) := by decide +kernel
theorem dX2_isBetter_73 : decode cX2_isBetter 73 = .ok (.iconst 1, 1) := by decide +kernel
theorem dX2_isBetter_74 : decode cX2_isBetter 74 = .ok (.goto 4, 3) := by decide +kernel
theorem dX2_isBetter_77 : decode cX2_isBetter 77 = .ok (.iconst 0, 1) := by decide +kernel
theorem dX2_isBetter_78 : decode cX2_isBetter 78 = .ok (.ireturn, 1) := by decide +kernel
theorem dX3_init_0 : decode cX3_init 0 = .ok (.aload_n 0, 1) := by decide +kernel
theorem dX3_init_1 : decode cX3_init 1 = .ok (.invokespecial 1, 3) := by decide +kernel
theorem dX3_init_4 : decode cX3_init 4 = .ok (.aload_n 0, 1) := by decide +kernel
theorem dX3_init_5 : decode cX3_init 5 = .ok (.bipush 12, 2) := by decide +kernel
theorem dX3_init_7 : decode cX3_init 7 = .ok (.newarray .int, 2) := by decide +kernel
theorem dX3_init_9 : decode cX3_init 9 = .ok (.putfield 7, 3) := by decide +kernel
theorem dX3_init_12 : decode cX3_init 12 = .ok (.aload_n 0, 1) := by decide +kernel
theorem dX3_init_13 : decode cX3_init 13 = .ok (.bipush 12, 2) := by decide +kernel
theorem dX3_init_15 : decode cX3_init 15 = .ok (.newarray .int, 2) := by decide +kernel
theorem dX3_init_17 : decode cX3_init 17 = .ok (.putfield 13, 3) := by decide +kernel
theorem dX3_init_20 : decode cX3_init 20 = .ok (.aload_n 0, 1) := by decide +kernel
theorem dX3_init_21 : decode cX3_init 21 = .ok (.bipush 12, 2) := by decide +kernel
theorem dX3_init_23 : decode cX3_init 23 = .ok (.newarray .int, 2) := by decide +kernel
theorem dX3_init_25 : decode cX3_init 25 = .ok (.putfield 16, 3) := by decide +kernel
theorem dX3_init_28 : decode cX3_init 28 = .ok (.aload_n 0, 1) := by decide +kernel
theorem dX3_init_29 : decode cX3_init 29 = .ok (.bipush 12, 2) := by decide +kernel
theorem dX3_init_31 : decode cX3_init 31 = .ok (.newarray .int, 2) := by decide +kernel
theorem dX3_init_33 : decode cX3_init 33 = .ok (.putfield 19, 3) := by decide +kernel
theorem dX3_init_36 : decode cX3_init 36 = .ok (.aload_n 0, 1) := by decide +kernel
theorem dX3_init_37 : decode cX3_init 37 = .ok (.sipush 448, 3) := by decide +kernel
theorem dX3_init_40 : decode cX3_init 40 = .ok (.newarray .int, 2) := by decide +kernel
theorem dX3_init_42 : decode cX3_init 42 = .ok (.putfield 22, 3) := by decide +kernel
theorem dX3_init_45 : decode cX3_init 45 = .ok (.aload_n 0, 1) := by decide +kernel
theorem dX3_init_46 : decode cX3_init 46 = .ok (.bipush 7, 2) := by decide +kernel
theorem dX3_init_48 : decode cX3_init 48 = .ok (.newarray .int, 2) := by decide +kernel
theorem dX3_init_50 : decode cX3_init 50 = .ok (.putfield 25, 3) := by decide +kernel
theorem dX3_init_53 : decode cX3_init 53 = .ok (.aload_n 0, 1) := by decide +kernel
theorem dX3_init_54 : decode cX3_init 54 = .ok (.bipush 6, 2) := by decide +kernel
theorem dX3_init_56 : decode cX3_init 56 = .ok (.newarray .int, 2) := by decide +kernel
theorem dX3_init_58 : decode cX3_init 58 = .ok (.putfield 28, 3) := by decide +kernel
theorem dX3_init_61 : decode cX3_init 61 = .ok (.aload_n 0, 1) := by decide +kernel
theorem dX3_init_62 : decode cX3_init 62 = .ok (.bipush 96, 2) := by decide +kernel
theorem dX3_init_64 : decode cX3_init 64 = .ok (.newarray .int, 2) := by decide +kernel
theorem dX3_init_66 : decode cX3_init 66 = .ok (.putfield 31, 3) := by decide +kernel
theorem dX3_init_69 : decode cX3_init 69 = .ok (.return_, 1) := by decide +kernel
theorem dX3_thrown_0 : decode cX3_thrown 0 = .ok (.aload_n 0, 1) := by decide +kernel
theorem dX3_thrown_1 : decode cX3_thrown 1 = .ok (.getfield 34, 3) := by decide +kernel
theorem dX3_thrown_4 : decode cX3_thrown 4 = .ok (.ireturn, 1) := by decide +kernel
theorem dX3_refused_0 : decode cX3_refused 0 = .ok (.aload_n 0, 1) := by decide +kernel
theorem dX3_refused_1 : decode cX3_refused 1 = .ok (.iload_n 1, 1) := by decide +kernel
theorem dX3_refused_2 : decode cX3_refused 2 = .ok (.putfield 34, 3) := by decide +kernel
theorem dX3_refused_5 : decode cX3_refused 5 = .ok (.iload_n 1, 1) := by decide +kernel
theorem dX3_refused_6 : decode cX3_refused 6 = .ok (.ifCond .eq 7, 3) := by decide +kernel
theorem dX3_refused_9 : decode cX3_refused 9 = .ok (.iconst 1, 1) := by decide +kernel
theorem dX3_refused_10 : decode cX3_refused 10 = .ok (.goto 4, 3) := by decide +kernel
theorem dX3_refused_13 : decode cX3_refused 13 = .ok (.iconst 0, 1) := by decide +kernel
theorem dX3_refused_14 : decode cX3_refused 14 = .ok (.ireturn, 1) := by decide +kernel
theorem dX3_in_0 : decode cX3_in 0 = .ok (.iload_n 0, 1) := by decide +kernel
theorem dX3_in_1 : decode cX3_in 1 = .ok (.iload_n 1, 1) := by decide +kernel
theorem dX3_in_2 : decode cX3_in 2 = .ok (.if_icmp .lt 12, 3) := by decide +kernel
theorem dX3_in_5 : decode cX3_in 5 = .ok (.iload_n 0, 1) := by decide +kernel
theorem dX3_in_6 : decode cX3_in 6 = .ok (.iload_n 2, 1) := by decide +kernel
theorem dX3_in_7 : decode cX3_in 7 = .ok (.if_icmp .gt 7, 3) := by decide +kernel
theorem dX3_in_10 : decode cX3_in 10 = .ok (.iconst 1, 1) := by decide +kernel
theorem dX3_in_11 : decode cX3_in 11 = .ok (.goto 4, 3) := by decide +kernel
theorem dX3_in_14 : decode cX3_in 14 = .ok (.iconst 0, 1) := by decide +kernel
theorem dX3_in_15 : decode cX3_in 15 = .ok (.ireturn, 1) := by decide +kernel
theorem dX3_isVoice_0 : decode cX3_isVoice 0 = .ok (.iload_n 0, 1) := by decide +kernel
theorem dX3_isVoice_1 : decode cX3_isVoice 1 = .ok (.iconst 0, 1) := by decide +kernel
theorem dX3_isVoice_2 : decode cX3_isVoice 2 = .ok (.iconst 3, 1) := by decide +kernel
theorem dX3_isVoice_3 : decode cX3_isVoice 3 = .ok (.invokestatic 38, 3) := by decide +kernel
theorem dX3_isVoice_6 : decode cX3_isVoice 6 = .ok (.ireturn, 1) := by decide +kernel
theorem dX3_isDate_0 : decode cX3_isDate 0 = .ok (.iload_n 0, 1) := by decide +kernel
theorem dX3_isDate_1 : decode cX3_isDate 1 = .ok (.iconst 0, 1) := by decide +kernel
theorem dX3_isDate_2 : decode cX3_isDate 2 = .ok (.bipush 30, 2) := by decide +kernel
theorem dX3_isDate_4 : decode cX3_isDate 4 = .ok (.invokestatic 38, 3) := by decide +kernel
theorem dX3_isDate_7 : decode cX3_isDate 7 = .ok (.ireturn, 1) := by decide +kernel
theorem dX3_isTone_0 : decode cX3_isTone 0 = .ok (.iload_n 0, 1) := by decide +kernel
theorem dX3_isTone_1 : decode cX3_isTone 1 = .ok (.iconst 0, 1) := by decide +kernel
theorem dX3_isTone_2 : decode cX3_isTone 2 = .ok (.bipush 60, 2) := by decide +kernel
theorem dX3_isTone_4 : decode cX3_isTone 4 = .ok (.invokestatic 38, 3) := by decide +kernel
theorem dX3_isTone_7 : decode cX3_isTone 7 = .ok (.ireturn, 1) := by decide +kernel
theorem dX3_isSinger_0 : decode cX3_isSinger 0 = .ok (.iload_n 1, 1) := by decide +kernel
theorem dX3_isSinger_1 : decode cX3_isSinger 1 = .ok (.iconst 0, 1) := by decide +kernel
theorem dX3_isSinger_2 : decode cX3_isSinger 2 = .ok (.aload_n 0, 1) := by decide +kernel
theorem dX3_isSinger_3 : decode cX3_isSinger 3 = .ok (.getfield 42, 3) := by decide +kernel
theorem dX3_isSinger_6 : decode cX3_isSinger 6 = .ok (.iconst 1, 1) := by decide +kernel
theorem dX3_isSinger_7 : decode cX3_isSinger 7 = .ok (.isub, 1) := by decide +kernel
theorem dX3_isSinger_8 : decode cX3_isSinger 8 = .ok (.invokestatic 38, 3) := by decide +kernel
theorem dX3_isSinger_11 : decode cX3_isSinger 11 = .ok (.ireturn, 1) := by decide +kernel
theorem dX3_isPiece_0 : decode cX3_isPiece 0 = .ok (.iload_n 1, 1) := by decide +kernel
theorem dX3_isPiece_1 : decode cX3_isPiece 1 = .ok (.iconst 0, 1) := by decide +kernel
theorem dX3_isPiece_2 : decode cX3_isPiece 2 = .ok (.aload_n 0, 1) := by decide +kernel
theorem dX3_isPiece_3 : decode cX3_isPiece 3 = .ok (.getfield 45, 3) := by decide +kernel
theorem dX3_isPiece_6 : decode cX3_isPiece 6 = .ok (.iconst 1, 1) := by decide +kernel
theorem dX3_isPiece_7 : decode cX3_isPiece 7 = .ok (.isub, 1) := by decide +kernel
theorem dX3_isPiece_8 : decode cX3_isPiece 8 = .ok (.invokestatic 38, 3) := by decide +kernel
theorem dX3_isPiece_11 : decode cX3_isPiece 11 = .ok (.ireturn, 1) := by decide +kernel
theorem dX3_isChord_0 : decode cX3_isChord 0 = .ok (.aload_n 0, 1) := by decide +kernel
theorem dX3_isChord_1 : decode cX3_isChord 1 = .ok (.iload_n 1, 1) := by decide +kernel
theorem dX3_isChord_2 : decode cX3_isChord 2 = .ok (.invokevirtual 48, 3) := by decide +kernel
theorem dX3_isChord_5 : decode cX3_isChord 5 = .ok (.ifCond .eq 23, 3) := by decide +kernel
theorem dX3_isChord_8 : decode cX3_isChord 8 = .ok (.iload_n 2, 1) := by decide +kernel
theorem dX3_isChord_9 : decode cX3_isChord 9 = .ok (.iconst 0, 1) := by decide +kernel
theorem dX3_isChord_10 : decode cX3_isChord 10 = .ok (.aload_n 0, 1) := by decide +kernel
theorem dX3_isChord_11 : decode cX3_isChord 11 = .ok (.getfield 25, 3) := by decide +kernel
theorem dX3_isChord_14 : decode cX3_isChord 14 = .ok (.iload_n 1, 1) := by decide +kernel
theorem dX3_isChord_15 : decode cX3_isChord 15 = .ok (.iaload, 1) := by decide +kernel
theorem dX3_isChord_16 : decode cX3_isChord 16 = .ok (.iconst 1, 1) := by decide +kernel
theorem dX3_isChord_17 : decode cX3_isChord 17 = .ok (.isub, 1) := by decide +kernel
theorem dX3_isChord_18 : decode cX3_isChord 18 = .ok (.invokestatic 38, 3) := by decide +kernel
theorem dX3_isChord_21 : decode cX3_isChord 21 = .ok (.ifCond .eq 7, 3) := by decide +kernel
theorem dX3_isChord_24 : decode cX3_isChord 24 = .ok (.iconst 1, 1) := by decide +kernel
theorem dX3_isChord_25 : decode cX3_isChord 25 = .ok (.goto 4, 3) := by decide +kernel
theorem dX3_isChord_28 : decode cX3_isChord 28 = .ok (.iconst 0, 1) := by decide +kernel
theorem dX3_isChord_29 : decode cX3_isChord 29 = .ok (.ireturn, 1) := by decide +kernel
theorem dX3_addSinger_0 : decode cX3_addSinger 0 = .ok (.iload_n 1, 1) := by decide +kernel
theorem dX3_addSinger_1 : decode cX3_addSinger 1 = .ok (.invokestatic 52, 3) := by decide +kernel
theorem dX3_addSinger_4 : decode cX3_addSinger 4 = .ok (.ifCond .eq 24, 3) := by decide +kernel
theorem dX3_addSinger_7 : decode cX3_addSinger 7 = .ok (.iload_n 2, 1) := by decide +kernel
theorem dX3_addSinger_8 : decode cX3_addSinger 8 = .ok (.invokestatic 55, 3) := by decide +kernel
theorem dX3_addSinger_11 : decode cX3_addSinger 11 = .ok (.ifCond .eq 17, 3) := by decide +kernel
theorem dX3_addSinger_14 : decode cX3_addSinger 14 = .ok (.iload_n 3, 1) := by decide +kernel
theorem dX3_addSinger_15 : decode cX3_addSinger 15 = .ok (.iload_n 2, 1) := by decide +kernel
theorem dX3_addSinger_16 : decode cX3_addSinger 16 = .ok (.bipush 60, 2) := by decide +kernel
theorem dX3_addSinger_18 : decode cX3_addSinger 18 = .ok (.invokestatic 38, 3) := by decide +kernel
theorem dX3_addSinger_21 : decode cX3_addSinger 21 = .ok (.ifCond .eq 7, 3) := by decide +kernel
theorem dX3_addSinger_24 : decode cX3_addSinger 24 = .ok (.iconst 1, 1) := by decide +kernel
theorem dX3_addSinger_25 : decode cX3_addSinger 25 = .ok (.goto 4, 3) := by decide +kernel
theorem dX3_addSinger_28 : decode cX3_addSinger 28 = .ok (.iconst 0, 1) := by decide +kernel
theorem dX3_addSinger_29 : decode cX3_addSinger 29 = .ok (.istore 4, 2) := by decide +kernel
theorem dX3_addSinger_31 : decode cX3_addSinger 31 = .ok (.aload_n 0, 1) := by decide +kernel
theorem dX3_addSinger_32 : decode cX3_addSinger 32 = .ok (.iload 4, 2) := by decide +kernel
theorem dX3_addSinger_34 : decode cX3_addSinger 34 = .ok (.ifCond .ne 7, 3) := by decide +kernel
theorem dX3_addSinger_37 : decode cX3_addSinger 37 = .ok (.iconst 1, 1) := by decide +kernel
theorem dX3_addSinger_38 : decode cX3_addSinger 38 = .ok (.goto 17, 3) := by decide +kernel
theorem dX3_addSinger_41 : decode cX3_addSinger 41 = .ok (.aload_n 0, 1) := by decide +kernel
theorem dX3_addSinger_42 : decode cX3_addSinger 42 = .ok (.getfield 42, 3) := by decide +kernel
theorem dX3_addSinger_45 : decode cX3_addSinger 45 = .ok (.bipush 12, 2) := by decide +kernel
theorem dX3_addSinger_47 : decode cX3_addSinger 47 = .ok (.if_icmp .ne 7, 3) := by decide +kernel
theorem dX3_addSinger_50 : decode cX3_addSinger 50 = .ok (.iconst 2, 1) := by decide +kernel
theorem dX3_addSinger_51 : decode cX3_addSinger 51 = .ok (.goto 4, 3) := by decide +kernel
theorem dX3_addSinger_54 : decode cX3_addSinger 54 = .ok (.iconst 0, 1) := by decide +kernel
theorem dX3_addSinger_55 : decode cX3_addSinger 55 = .ok (.invokevirtual 58, 3) := by decide +kernel
theorem dX3_addSinger_58 : decode cX3_addSinger 58 = .ok (.ifCond .eq 5, 3) := by decide +kernel
theorem dX3_addSinger_61 : decode cX3_addSinger 61 = .ok (.iconst 0, 1) := by decide +kernel
theorem dX3_addSinger_62 : decode cX3_addSinger 62 = .ok (.ireturn, 1) := by decide +kernel
theorem dX3_addSinger_63 : decode cX3_addSinger 63 = .ok (.aload_n 0, 1) := by decide +kernel
theorem dX3_addSinger_64 : decode cX3_addSinger 64 = .ok (.getfield 7, 3) := by decide +kernel
theorem dX3_addSinger_67 : decode cX3_addSinger 67 = .ok (.aload_n 0, 1) := by decide +kernel
theorem dX3_addSinger_68 : decode cX3_addSinger 68 = .ok (.getfield 42, 3) := by decide +kernel
theorem dX3_addSinger_71 : decode cX3_addSinger 71 = .ok (.iload_n 1, 1) := by decide +kernel
theorem dX3_addSinger_72 : decode cX3_addSinger 72 = .ok (.iastore, 1) := by decide +kernel
theorem dX3_addSinger_73 : decode cX3_addSinger 73 = .ok (.aload_n 0, 1) := by decide +kernel
theorem dX3_addSinger_74 : decode cX3_addSinger 74 = .ok (.getfield 13, 3) := by decide +kernel
theorem dX3_addSinger_77 : decode cX3_addSinger 77 = .ok (.aload_n 0, 1) := by decide +kernel
theorem dX3_addSinger_78 : decode cX3_addSinger 78 = .ok (.getfield 42, 3) := by decide +kernel
theorem dX3_addSinger_81 : decode cX3_addSinger 81 = .ok (.iload_n 2, 1) := by decide +kernel
theorem dX3_addSinger_82 : decode cX3_addSinger 82 = .ok (.iastore, 1) := by decide +kernel
theorem dX3_addSinger_83 : decode cX3_addSinger 83 = .ok (.aload_n 0, 1) := by decide +kernel
theorem dX3_addSinger_84 : decode cX3_addSinger 84 = .ok (.getfield 16, 3) := by decide +kernel
theorem dX3_addSinger_87 : decode cX3_addSinger 87 = .ok (.aload_n 0, 1) := by decide +kernel
theorem dX3_addSinger_88 : decode cX3_addSinger 88 = .ok (.getfield 42, 3) := by decide +kernel
theorem dX3_addSinger_91 : decode cX3_addSinger 91 = .ok (.iload_n 3, 1) := by decide +kernel
theorem dX3_addSinger_92 : decode cX3_addSinger 92 = .ok (.iastore, 1) := by decide +kernel
theorem dX3_addSinger_93 : decode cX3_addSinger 93 = .ok (.aload_n 0, 1) := by decide +kernel
theorem dX3_addSinger_94 : decode cX3_addSinger 94 = .ok (.dup, 1) := by decide +kernel
theorem dX3_addSinger_95 : decode cX3_addSinger 95 = .ok (.getfield 42, 3) := by decide +kernel
theorem dX3_addSinger_98 : decode cX3_addSinger 98 = .ok (.iconst 1, 1) := by decide +kernel
theorem dX3_addSinger_99 : decode cX3_addSinger 99 = .ok (.iadd, 1) := by decide +kernel
theorem dX3_addSinger_100 : decode cX3_addSinger 100 = .ok (.putfield 42, 3) := by decide +kernel
theorem dX3_addSinger_103 : decode cX3_addSinger 103 = .ok (.aload_n 0, 1) := by decide +kernel
theorem dX3_addSinger_104 : decode cX3_addSinger 104 = .ok (.getfield 42, 3) := by decide +kernel
theorem dX3_addSinger_107 : decode cX3_addSinger 107 = .ok (.iconst 1, 1) := by decide +kernel
theorem dX3_addSinger_108 : decode cX3_addSinger 108 = .ok (.isub, 1) := by decide +kernel
theorem dX3_addSinger_109 : decode cX3_addSinger 109 = .ok (.ireturn, 1) := by decide +kernel
theorem dX3_isThere_0 : decode cX3_isThere 0 = .ok (.aload_n 0, 1) := by decide +kernel
theorem dX3_isThere_1 : decode cX3_isThere 1 = .ok (.getfield 19, 3) := by decide +kernel
theorem dX3_isThere_4 : decode cX3_isThere 4 = .ok (.iload_n 1, 1) := by decide +kernel
theorem dX3_isThere_5 : decode cX3_isThere 5 = .ok (.iaload, 1) := by decide +kernel
theorem dX3_isThere_6 : decode cX3_isThere 6 = .ok (.iload_n 2, 1) := by decide +kernel
theorem dX3_isThere_7 : decode cX3_isThere 7 = .ok (.ishr, 1) := by decide +kernel
theorem dX3_isThere_8 : decode cX3_isThere 8 = .ok (.iconst 1, 1) := by decide +kernel
theorem dX3_isThere_9 : decode cX3_isThere 9 = .ok (.iand, 1) := by decide +kernel
theorem dX3_isThere_10 : decode cX3_isThere 10 = .ok (.ifCond .ne 7, 3) := by decide +kernel
theorem dX3_isThere_13 : decode cX3_isThere 13 = .ok (.iconst 1, 1) := by decide +kernel
theorem dX3_isThere_14 : decode cX3_isThere 14 = .ok (.goto 4, 3) := by decide +kernel
theorem dX3_isThere_17 : decode cX3_isThere 17 = .ok (.iconst 0, 1) := by decide +kernel
theorem dX3_isThere_18 : decode cX3_isThere 18 = .ok (.ireturn, 1) := by decide +kernel
theorem dX3_tell_0 : decode cX3_tell 0 = .ok (.aload_n 0, 1) := by decide +kernel
theorem dX3_tell_1 : decode cX3_tell 1 = .ok (.aload_n 0, 1) := by decide +kernel
theorem dX3_tell_2 : decode cX3_tell 2 = .ok (.iload_n 1, 1) := by decide +kernel
theorem dX3_tell_3 : decode cX3_tell 3 = .ok (.invokevirtual 61, 3) := by decide +kernel
theorem dX3_tell_6 : decode cX3_tell 6 = .ok (.ifCond .ne 7, 3) := by decide +kernel
theorem dX3_tell_9 : decode cX3_tell 9 = .ok (.iconst 1, 1) := by decide +kernel
theorem dX3_tell_10 : decode cX3_tell 10 = .ok (.goto 15, 3) := by decide +kernel
theorem dX3_tell_13 : decode cX3_tell 13 = .ok (.iload_n 2, 1) := by decide +kernel
theorem dX3_tell_14 : decode cX3_tell 14 = .ok (.invokestatic 64, 3) := by decide +kernel
theorem dX3_tell_17 : decode cX3_tell 17 = .ok (.ifCond .eq 7, 3) := by decide +kernel
theorem dX3_tell_20 : decode cX3_tell 20 = .ok (.iconst 0, 1) := by decide +kernel
theorem dX3_tell_21 : decode cX3_tell 21 = .ok (.goto 4, 3) := by decide +kernel
theorem dX3_tell_24 : decode cX3_tell 24 = .ok (.iconst 2, 1) := by decide +kernel
theorem dX3_tell_25 : decode cX3_tell 25 = .ok (.invokevirtual 58, 3) := by decide +kernel
theorem dX3_tell_28 : decode cX3_tell 28 = .ok (.ifCond .eq 5, 3) := by decide +kernel
theorem dX3_tell_31 : decode cX3_tell 31 = .ok (.iconst 0, 1) := by decide +kernel
theorem dX3_tell_32 : decode cX3_tell 32 = .ok (.ireturn, 1) := by decide +kernel
theorem dX3_tell_33 : decode cX3_tell 33 = .ok (.aload_n 0, 1) := by decide +kernel
theorem dX3_tell_34 : decode cX3_tell 34 = .ok (.iload_n 1, 1) := by decide +kernel
theorem dX3_tell_35 : decode cX3_tell 35 = .ok (.iload_n 2, 1) := by decide +kernel
theorem dX3_tell_36 : decode cX3_tell 36 = .ok (.invokevirtual 67, 3) := by decide +kernel
theorem dX3_tell_39 : decode cX3_tell 39 = .ok (.istore 4, 2) := by decide +kernel
theorem dX3_tell_41 : decode cX3_tell 41 = .ok (.aload_n 0, 1) := by decide +kernel
theorem dX3_tell_42 : decode cX3_tell 42 = .ok (.getfield 19, 3) := by decide +kernel
theorem dX3_tell_45 : decode cX3_tell 45 = .ok (.iload_n 1, 1) := by decide +kernel
theorem dX3_tell_46 : decode cX3_tell 46 = .ok (.iload_n 3, 1) := by decide +kernel
theorem dX3_tell_47 : decode cX3_tell 47 = .ok (.ifCond .eq 18, 3) := by decide +kernel
theorem dX3_tell_50 : decode cX3_tell 50 = .ok (.aload_n 0, 1) := by decide +kernel
theorem dX3_tell_51 : decode cX3_tell 51 = .ok (.getfield 19, 3) := by decide +kernel
theorem dX3_tell_54 : decode cX3_tell 54 = .ok (.iload_n 1, 1) := by decide +kernel
theorem dX3_tell_55 : decode cX3_tell 55 = .ok (.iaload, 1) := by decide +kernel
theorem dX3_tell_56 : decode cX3_tell 56 = .ok (.iconst 1, 1) := by decide +kernel
theorem dX3_tell_57 : decode cX3_tell 57 = .ok (.iload_n 2, 1) := by decide +kernel
theorem dX3_tell_58 : decode cX3_tell 58 = .ok (.ishl, 1) := by decide +kernel
theorem dX3_tell_59 : decode cX3_tell 59 = .ok (.iconst (-1), 1) := by decide +kernel
theorem dX3_tell_60 : decode cX3_tell 60 = .ok (.ixor, 1) := by decide +kernel
theorem dX3_tell_61 : decode cX3_tell 61 = .ok (.iand, 1) := by decide +kernel
theorem dX3_tell_62 : decode cX3_tell 62 = .ok (.goto 13, 3) := by decide +kernel
theorem dX3_tell_65 : decode cX3_tell 65 = .ok (.aload_n 0, 1) := by decide +kernel
theorem dX3_tell_66 : decode cX3_tell 66 = .ok (.getfield 19, 3) := by decide +kernel
theorem dX3_tell_69 : decode cX3_tell 69 = .ok (.iload_n 1, 1) := by decide +kernel
theorem dX3_tell_70 : decode cX3_tell 70 = .ok (.iaload, 1) := by decide +kernel
theorem dX3_tell_71 : decode cX3_tell 71 = .ok (.iconst 1, 1) := by decide +kernel
theorem dX3_tell_72 : decode cX3_tell 72 = .ok (.iload_n 2, 1) := by decide +kernel
theorem dX3_tell_73 : decode cX3_tell 73 = .ok (.ishl, 1) := by decide +kernel
theorem dX3_tell_74 : decode cX3_tell 74 = .ok (.ior, 1) := by decide +kernel
theorem dX3_tell_75 : decode cX3_tell 75 = .ok (.iastore, 1) := by decide +kernel
theorem dX3_tell_76 : decode cX3_tell 76 = .ok (.iload 4, 2) := by decide +kernel
theorem dX3_tell_78 : decode cX3_tell 78 = .ok (.ireturn, 1) := by decide +kernel
theorem dX3_change_0 : decode cX3_change 0 = .ok (.aload_n 0, 1) := by decide +kernel
theorem dX3_change_1 : decode cX3_change 1 = .ok (.aload_n 0, 1) := by decide +kernel
theorem dX3_change_2 : decode cX3_change 2 = .ok (.iload_n 1, 1) := by decide +kernel
theorem dX3_change_3 : decode cX3_change 3 = .ok (.invokevirtual 61, 3) := by decide +kernel
theorem dX3_change_6 : decode cX3_change 6 = .ok (.ifCond .ne 7, 3) := by decide +kernel
theorem dX3_change_9 : decode cX3_change 9 = .ok (.iconst 1, 1) := by decide +kernel
theorem dX3_change_10 : decode cX3_change 10 = .ok (.goto 15, 3) := by decide +kernel
theorem dX3_change_13 : decode cX3_change 13 = .ok (.iload_n 2, 1) := by decide +kernel
theorem dX3_change_14 : decode cX3_change 14 = .ok (.invokestatic 52, 3) := by decide +kernel
theorem dX3_change_17 : decode cX3_change 17 = .ok (.ifCond .eq 7, 3) := by decide +kernel
theorem dX3_change_20 : decode cX3_change 20 = .ok (.iconst 0, 1) := by decide +kernel
theorem dX3_change_21 : decode cX3_change 21 = .ok (.goto 4, 3) := by decide +kernel
theorem dX3_change_24 : decode cX3_change 24 = .ok (.iconst 2, 1) := by decide +kernel
theorem dX3_change_25 : decode cX3_change 25 = .ok (.invokevirtual 58, 3) := by decide +kernel
theorem dX3_change_28 : decode cX3_change 28 = .ok (.ifCond .eq 5, 3) := by decide +kernel
theorem dX3_change_31 : decode cX3_change 31 = .ok (.iconst 0, 1) := by decide +kernel
theorem dX3_change_32 : decode cX3_change 32 = .ok (.ireturn, 1) := by decide +kernel
theorem dX3_change_33 : decode cX3_change 33 = .ok (.aload_n 0, 1) := by decide +kernel
theorem dX3_change_34 : decode cX3_change 34 = .ok (.getfield 7, 3) := by decide +kernel
theorem dX3_change_37 : decode cX3_change 37 = .ok (.iload_n 1, 1) := by decide +kernel
theorem dX3_change_38 : decode cX3_change 38 = .ok (.iaload, 1) := by decide +kernel
theorem dX3_change_39 : decode cX3_change 39 = .ok (.istore_n 3, 1) := by decide +kernel
theorem dX3_change_40 : decode cX3_change 40 = .ok (.aload_n 0, 1) := by decide +kernel
theorem dX3_change_41 : decode cX3_change 41 = .ok (.getfield 7, 3) := by decide +kernel
theorem dX3_change_44 : decode cX3_change 44 = .ok (.iload_n 1, 1) := by decide +kernel
theorem dX3_change_45 : decode cX3_change 45 = .ok (.iload_n 2, 1) := by decide +kernel
theorem dX3_change_46 : decode cX3_change 46 = .ok (.iastore, 1) := by decide +kernel
theorem dX3_change_47 : decode cX3_change 47 = .ok (.iload_n 3, 1) := by decide +kernel
theorem dX3_change_48 : decode cX3_change 48 = .ok (.ireturn, 1) := by decide +kernel
theorem dX3_firstOf_0 : decode cX3_firstOf 0 = .ok (.iconst (-1), 1) := by decide +kernel
theorem dX3_firstOf_1 : decode cX3_firstOf 1 = .ok (.istore_n 3, 1) := by decide +kernel
theorem dX3_firstOf_2 : decode cX3_firstOf 2 = .ok (.iconst 0, 1) := by decide +kernel
theorem dX3_firstOf_3 : decode cX3_firstOf 3 = .ok (.istore 4, 2) := by decide +kernel
theorem dX3_firstOf_5 : decode cX3_firstOf 5 = .ok (.iload 4, 2) := by decide +kernel
theorem dX3_firstOf_7 : decode cX3_firstOf 7 = .ok (.aload_n 0, 1) := by decide +kernel
theorem dX3_firstOf_8 : decode cX3_firstOf 8 = .ok (.getfield 42, 3) := by decide +kernel
theorem dX3_firstOf_11 : decode cX3_firstOf 11 = .ok (.if_icmp .ge 65, 3) := by decide +kernel
theorem dX3_firstOf_14 : decode cX3_firstOf 14 = .ok (.aload_n 0, 1) := by decide +kernel
theorem dX3_firstOf_15 : decode cX3_firstOf 15 = .ok (.getfield 7, 3) := by decide +kernel
theorem dX3_firstOf_18 : decode cX3_firstOf 18 = .ok (.iload 4, 2) := by decide +kernel
theorem dX3_firstOf_20 : decode cX3_firstOf 20 = .ok (.iaload, 1) := by decide +kernel
theorem dX3_firstOf_21 : decode cX3_firstOf 21 = .ok (.iload_n 1, 1) := by decide +kernel
theorem dX3_firstOf_22 : decode cX3_firstOf 22 = .ok (.if_icmp .ne 17, 3) := by decide +kernel
theorem dX3_firstOf_25 : decode cX3_firstOf 25 = .ok (.aload_n 0, 1) := by decide +kernel
theorem dX3_firstOf_26 : decode cX3_firstOf 26 = .ok (.iload 4, 2) := by decide +kernel
theorem dX3_firstOf_28 : decode cX3_firstOf 28 = .ok (.iload_n 2, 1) := by decide +kernel
theorem dX3_firstOf_29 : decode cX3_firstOf 29 = .ok (.invokevirtual 67, 3) := by decide +kernel
theorem dX3_firstOf_32 : decode cX3_firstOf 32 = .ok (.ifCond .eq 7, 3) := by decide +kernel
theorem dX3_firstOf_35 : decode cX3_firstOf 35 = .ok (.iconst 1, 1) := by decide +kernel
theorem dX3_firstOf_36 : decode cX3_firstOf 36 = .ok (.goto 4, 3) := by decide +kernel
theorem dX3_firstOf_39 : decode cX3_firstOf 39 = .ok (.iconst 0, 1) := by decide +kernel
theorem dX3_firstOf_40 : decode cX3_firstOf 40 = .ok (.istore 5, 2) := by decide +kernel
theorem dX3_firstOf_42 : decode cX3_firstOf 42 = .ok (.iload 5, 2) := by decide +kernel
theorem dX3_firstOf_44 : decode cX3_firstOf 44 = .ok (.ifCond .eq 24, 3) := by decide +kernel
theorem dX3_firstOf_47 : decode cX3_firstOf 47 = .ok (.aload_n 0, 1) := by decide +kernel
theorem dX3_firstOf_48 : decode cX3_firstOf 48 = .ok (.getfield 13, 3) := by decide +kernel
theorem dX3_firstOf_51 : decode cX3_firstOf 51 = .ok (.iload 4, 2) := by decide +kernel
theorem dX3_firstOf_53 : decode cX3_firstOf 53 = .ok (.iaload, 1) := by decide +kernel
theorem dX3_firstOf_54 : decode cX3_firstOf 54 = .ok (.iload_n 3, 1) := by decide +kernel
theorem dX3_firstOf_55 : decode cX3_firstOf 55 = .ok (.if_icmp .le 13, 3) := by decide +kernel
theorem dX3_firstOf_58 : decode cX3_firstOf 58 = .ok (.aload_n 0, 1) := by decide +kernel
theorem dX3_firstOf_59 : decode cX3_firstOf 59 = .ok (.getfield 13, 3) := by decide +kernel
theorem dX3_firstOf_62 : decode cX3_firstOf 62 = .ok (.iload 4, 2) := by decide +kernel
theorem dX3_firstOf_64 : decode cX3_firstOf 64 = .ok (.iaload, 1) := by decide +kernel
theorem dX3_firstOf_65 : decode cX3_firstOf 65 = .ok (.goto 4, 3) := by decide +kernel
theorem dX3_firstOf_68 : decode cX3_firstOf 68 = .ok (.iload_n 3, 1) := by decide +kernel
theorem dX3_firstOf_69 : decode cX3_firstOf 69 = .ok (.istore_n 3, 1) := by decide +kernel
theorem dX3_firstOf_70 : decode cX3_firstOf 70 = .ok (.iinc 4 1, 3) := by decide +kernel
theorem dX3_firstOf_73 : decode cX3_firstOf 73 = .ok (.goto (-68), 3) := by decide +kernel
theorem dX3_firstOf_76 : decode cX3_firstOf 76 = .ok (.iload_n 3, 1) := by decide +kernel
theorem dX3_firstOf_77 : decode cX3_firstOf 77 = .ok (.ifCond .ge 8, 3) := by decide +kernel
theorem dX3_firstOf_80 : decode cX3_firstOf 80 = .ok (.bipush 61, 2) := by decide +kernel
theorem dX3_firstOf_82 : decode cX3_firstOf 82 = .ok (.goto 4, 3) := by decide +kernel
theorem dX3_firstOf_85 : decode cX3_firstOf 85 = .ok (.iload_n 3, 1) := by decide +kernel
theorem dX3_firstOf_86 : decode cX3_firstOf 86 = .ok (.ireturn, 1) := by decide +kernel
theorem dX3_lastOf_0 : decode cX3_lastOf 0 = .ok (.bipush 60, 2) := by decide +kernel
theorem dX3_lastOf_2 : decode cX3_lastOf 2 = .ok (.istore_n 3, 1) := by decide +kernel
theorem dX3_lastOf_3 : decode cX3_lastOf 3 = .ok (.iconst 0, 1) := by decide +kernel
theorem dX3_lastOf_4 : decode cX3_lastOf 4 = .ok (.istore 4, 2) := by decide +kernel
theorem dX3_lastOf_6 : decode cX3_lastOf 6 = .ok (.iload 4, 2) := by decide +kernel
theorem dX3_lastOf_8 : decode cX3_lastOf 8 = .ok (.aload_n 0, 1) := by decide +kernel
theorem dX3_lastOf_9 : decode cX3_lastOf 9 = .ok (.getfield 42, 3) := by decide +kernel
theorem dX3_lastOf_12 : decode cX3_lastOf 12 = .ok (.if_icmp .ge 65, 3) := by decide +kernel
theorem dX3_lastOf_15 : decode cX3_lastOf 15 = .ok (.aload_n 0, 1) := by decide +kernel
theorem dX3_lastOf_16 : decode cX3_lastOf 16 = .ok (.getfield 7, 3) := by decide +kernel
theorem dX3_lastOf_19 : decode cX3_lastOf 19 = .ok (.iload 4, 2) := by decide +kernel
theorem dX3_lastOf_21 : decode cX3_lastOf 21 = .ok (.iaload, 1) := by decide +kernel
theorem dX3_lastOf_22 : decode cX3_lastOf 22 = .ok (.iload_n 1, 1) := by decide +kernel
theorem dX3_lastOf_23 : decode cX3_lastOf 23 = .ok (.if_icmp .ne 17, 3) := by decide +kernel
theorem dX3_lastOf_26 : decode cX3_lastOf 26 = .ok (.aload_n 0, 1) := by decide +kernel
theorem dX3_lastOf_27 : decode cX3_lastOf 27 = .ok (.iload 4, 2) := by decide +kernel
theorem dX3_lastOf_29 : decode cX3_lastOf 29 = .ok (.iload_n 2, 1) := by decide +kernel
theorem dX3_lastOf_30 : decode cX3_lastOf 30 = .ok (.invokevirtual 67, 3) := by decide +kernel
theorem dX3_lastOf_33 : decode cX3_lastOf 33 = .ok (.ifCond .eq 7, 3) := by decide +kernel
theorem dX3_lastOf_36 : decode cX3_lastOf 36 = .ok (.iconst 1, 1) := by decide +kernel
theorem dX3_lastOf_37 : decode cX3_lastOf 37 = .ok (.goto 4, 3) := by decide +kernel
theorem dX3_lastOf_40 : decode cX3_lastOf 40 = .ok (.iconst 0, 1) := by decide +kernel
theorem dX3_lastOf_41 : decode cX3_lastOf 41 = .ok (.istore 5, 2) := by decide +kernel
theorem dX3_lastOf_43 : decode cX3_lastOf 43 = .ok (.iload 5, 2) := by decide +kernel
theorem dX3_lastOf_45 : decode cX3_lastOf 45 = .ok (.ifCond .eq 24, 3) := by decide +kernel
theorem dX3_lastOf_48 : decode cX3_lastOf 48 = .ok (.aload_n 0, 1) := by decide +kernel
theorem dX3_lastOf_49 : decode cX3_lastOf 49 = .ok (.getfield 16, 3) := by decide +kernel
theorem dX3_lastOf_52 : decode cX3_lastOf 52 = .ok (.iload 4, 2) := by decide +kernel
theorem dX3_lastOf_54 : decode cX3_lastOf 54 = .ok (.iaload, 1) := by decide +kernel
theorem dX3_lastOf_55 : decode cX3_lastOf 55 = .ok (.iload_n 3, 1) := by decide +kernel
theorem dX3_lastOf_56 : decode cX3_lastOf 56 = .ok (.if_icmp .ge 13, 3) := by decide +kernel
theorem dX3_lastOf_59 : decode cX3_lastOf 59 = .ok (.aload_n 0, 1) := by decide +kernel
theorem dX3_lastOf_60 : decode cX3_lastOf 60 = .ok (.getfield 16, 3) := by decide +kernel
theorem dX3_lastOf_63 : decode cX3_lastOf 63 = .ok (.iload 4, 2) := by decide +kernel
theorem dX3_lastOf_65 : decode cX3_lastOf 65 = .ok (.iaload, 1) := by decide +kernel
theorem dX3_lastOf_66 : decode cX3_lastOf 66 = .ok (.goto 4, 3) := by decide +kernel
theorem dX3_lastOf_69 : decode cX3_lastOf 69 = .ok (.iload_n 3, 1) := by decide +kernel
theorem dX3_lastOf_70 : decode cX3_lastOf 70 = .ok (.istore_n 3, 1) := by decide +kernel
theorem dX3_lastOf_71 : decode cX3_lastOf 71 = .ok (.iinc 4 1, 3) := by decide +kernel
theorem dX3_lastOf_74 : decode cX3_lastOf 74 = .ok (.goto (-68), 3) := by decide +kernel
theorem dX3_lastOf_77 : decode cX3_lastOf 77 = .ok (.iload_n 3, 1) := by decide +kernel
theorem dX3_lastOf_78 : decode cX3_lastOf 78 = .ok (.ireturn, 1) := by decide +kernel
theorem dX3_range_0 : decode cX3_range 0 = .ok (.aload_n 0, 1) := by decide +kernel
theorem dX3_range_1 : decode cX3_range 1 = .ok (.iload_n 1, 1) := by decide +kernel
theorem dX3_range_2 : decode cX3_range 2 = .ok (.invokestatic 52, 3) := by decide +kernel
theorem dX3_range_5 : decode cX3_range 5 = .ok (.ifCond .eq 14, 3) := by decide +kernel
theorem dX3_range_8 : decode cX3_range 8 = .ok (.iload_n 2, 1) := by decide +kernel
theorem dX3_range_9 : decode cX3_range 9 = .ok (.invokestatic 64, 3) := by decide +kernel
theorem dX3_range_12 : decode cX3_range 12 = .ok (.ifCond .eq 7, 3) := by decide +kernel
theorem dX3_range_15 : decode cX3_range 15 = .ok (.iconst 0, 1) := by decide +kernel
theorem dX3_range_16 : decode cX3_range 16 = .ok (.goto 4, 3) := by decide +kernel
theorem dX3_range_19 : decode cX3_range 19 = .ok (.iconst 1, 1) := by decide +kernel
theorem dX3_range_20 : decode cX3_range 20 = .ok (.invokevirtual 58, 3) := by decide +kernel
theorem dX3_range_23 : decode cX3_range 23 = .ok (.ifCond .eq 5, 3) := by decide +kernel
theorem dX3_range_26 : decode cX3_range 26 = .ok (.iconst 0, 1) := by decide +kernel
theorem dX3_range_27 : decode cX3_range 27 = .ok (.ireturn, 1) := by decide +kernel
theorem dX3_range_28 : decode cX3_range 28 = .ok (.aload_n 0, 1) := by decide +kernel
theorem dX3_range_29 : decode cX3_range 29 = .ok (.iload_n 1, 1) := by decide +kernel
theorem dX3_range_30 : decode cX3_range 30 = .ok (.iload_n 2, 1) := by decide +kernel
theorem dX3_range_31 : decode cX3_range 31 = .ok (.invokevirtual 71, 3) := by decide +kernel
theorem dX3_range_34 : decode cX3_range 34 = .ok (.istore_n 3, 1) := by decide +kernel
theorem dX3_range_35 : decode cX3_range 35 = .ok (.aload_n 0, 1) := by decide +kernel
theorem dX3_range_36 : decode cX3_range 36 = .ok (.iload_n 1, 1) := by decide +kernel
theorem dX3_range_37 : decode cX3_range 37 = .ok (.iload_n 2, 1) := by decide +kernel
theorem dX3_range_38 : decode cX3_range 38 = .ok (.invokevirtual 75, 3) := by decide +kernel
theorem dX3_range_41 : decode cX3_range 41 = .ok (.istore 4, 2) := by decide +kernel
theorem dX3_range_43 : decode cX3_range 43 = .ok (.iload_n 3, 1) := by decide +kernel
theorem dX3_range_44 : decode cX3_range 44 = .ok (.iload 4, 2) := by decide +kernel
theorem dX3_range_46 : decode cX3_range 46 = .ok (.if_icmp .le 7, 3) := by decide +kernel
theorem dX3_range_49 : decode cX3_range 49 = .ok (.iconst (-1), 1) := by decide +kernel
theorem dX3_range_50 : decode cX3_range 50 = .ok (.goto 10, 3) := by decide +kernel
theorem dX3_range_53 : decode cX3_range 53 = .ok (.bipush 100, 2) := by decide +kernel
theorem dX3_range_55 : decode cX3_range 55 = .ok (.iload_n 3, 1) := by decide +kernel
theorem dX3_range_56 : decode cX3_range 56 = .ok (.imul, 1) := by decide +kernel
theorem dX3_range_57 : decode cX3_range 57 = .ok (.iload 4, 2) := by decide +kernel
theorem dX3_range_59 : decode cX3_range 59 = .ok (.iadd, 1) := by decide +kernel
theorem dX3_range_60 : decode cX3_range 60 = .ok (.ireturn, 1) := by decide +kernel
theorem dX3_chord_0 : decode cX3_chord 0 = .ok (.iload_n 1, 1) := by decide +kernel
theorem dX3_chord_1 : decode cX3_chord 1 = .ok (.invokestatic 55, 3) := by decide +kernel
theorem dX3_chord_4 : decode cX3_chord 4 = .ok (.ifCond .eq 35, 3) := by decide +kernel
theorem dX3_chord_7 : decode cX3_chord 7 = .ok (.iload_n 2, 1) := by decide +kernel
theorem dX3_chord_8 : decode cX3_chord 8 = .ok (.iconst 0, 1) := by decide +kernel
theorem dX3_chord_9 : decode cX3_chord 9 = .ok (.iload_n 1, 1) := by decide +kernel
theorem dX3_chord_10 : decode cX3_chord 10 = .ok (.invokestatic 38, 3) := by decide +kernel
theorem dX3_chord_13 : decode cX3_chord 13 = .ok (.ifCond .eq 26, 3) := by decide +kernel
theorem dX3_chord_16 : decode cX3_chord 16 = .ok (.iload_n 3, 1) := by decide +kernel
theorem dX3_chord_17 : decode cX3_chord 17 = .ok (.iconst 0, 1) := by decide +kernel
theorem dX3_chord_18 : decode cX3_chord 18 = .ok (.iload_n 2, 1) := by decide +kernel
theorem dX3_chord_19 : decode cX3_chord 19 = .ok (.invokestatic 38, 3) := by decide +kernel
theorem dX3_chord_22 : decode cX3_chord 22 = .ok (.ifCond .eq 17, 3) := by decide +kernel
theorem dX3_chord_25 : decode cX3_chord 25 = .ok (.iload 4, 2) := by decide +kernel
theorem dX3_chord_27 : decode cX3_chord 27 = .ok (.iconst 0, 1) := by decide +kernel
theorem dX3_chord_28 : decode cX3_chord 28 = .ok (.iload_n 3, 1) := by decide +kernel
theorem dX3_chord_29 : decode cX3_chord 29 = .ok (.invokestatic 38, 3) := by decide +kernel
theorem dX3_chord_32 : decode cX3_chord 32 = .ok (.ifCond .eq 7, 3) := by decide +kernel
theorem dX3_chord_35 : decode cX3_chord 35 = .ok (.iconst 1, 1) := by decide +kernel
theorem dX3_chord_36 : decode cX3_chord 36 = .ok (.goto 4, 3) := by decide +kernel
theorem dX3_chord_39 : decode cX3_chord 39 = .ok (.iconst 0, 1) := by decide +kernel
theorem dX3_chord_40 : decode cX3_chord 40 = .ok (.istore 5, 2) := by decide +kernel
theorem dX3_chord_42 : decode cX3_chord 42 = .ok (.aload_n 0, 1) := by decide +kernel
theorem dX3_chord_43 : decode cX3_chord 43 = .ok (.iload 5, 2) := by decide +kernel
theorem dX3_chord_45 : decode cX3_chord 45 = .ok (.ifCond .ne 7, 3) := by decide +kernel
theorem dX3_chord_48 : decode cX3_chord 48 = .ok (.iconst 1, 1) := by decide +kernel
theorem dX3_chord_49 : decode cX3_chord 49 = .ok (.goto 22, 3) := by decide +kernel
theorem dX3_chord_52 : decode cX3_chord 52 = .ok (.aload_n 0, 1) := by decide +kernel
theorem dX3_chord_53 : decode cX3_chord 53 = .ok (.getfield 25, 3) := by decide +kernel
theorem dX3_chord_56 : decode cX3_chord 56 = .ok (.aload_n 0, 1) := by decide +kernel
theorem dX3_chord_57 : decode cX3_chord 57 = .ok (.getfield 45, 3) := by decide +kernel
theorem dX3_chord_60 : decode cX3_chord 60 = .ok (.iaload, 1) := by decide +kernel
theorem dX3_chord_61 : decode cX3_chord 61 = .ok (.bipush 16, 2) := by decide +kernel
theorem dX3_chord_63 : decode cX3_chord 63 = .ok (.if_icmp .ne 7, 3) := by decide +kernel
theorem dX3_chord_66 : decode cX3_chord 66 = .ok (.iconst 2, 1) := by decide +kernel
theorem dX3_chord_67 : decode cX3_chord 67 = .ok (.goto 4, 3) := by decide +kernel
theorem dX3_chord_70 : decode cX3_chord 70 = .ok (.iconst 0, 1) := by decide +kernel
theorem dX3_chord_71 : decode cX3_chord 71 = .ok (.invokevirtual 58, 3) := by decide +kernel
theorem dX3_chord_74 : decode cX3_chord 74 = .ok (.ifCond .eq 5, 3) := by decide +kernel
theorem dX3_chord_77 : decode cX3_chord 77 = .ok (.iconst 0, 1) := by decide +kernel
theorem dX3_chord_78 : decode cX3_chord 78 = .ok (.ireturn, 1) := by decide +kernel
theorem dX3_chord_79 : decode cX3_chord 79 = .ok (.bipush 64, 2) := by decide +kernel
theorem dX3_chord_81 : decode cX3_chord 81 = .ok (.aload_n 0, 1) := by decide +kernel
theorem dX3_chord_82 : decode cX3_chord 82 = .ok (.getfield 45, 3) := by decide +kernel
theorem dX3_chord_85 : decode cX3_chord 85 = .ok (.imul, 1) := by decide +kernel
theorem dX3_chord_86 : decode cX3_chord 86 = .ok (.iconst 4, 1) := by decide +kernel
theorem dX3_chord_87 : decode cX3_chord 87 = .ok (.aload_n 0, 1) := by decide +kernel
theorem dX3_chord_88 : decode cX3_chord 88 = .ok (.getfield 25, 3) := by decide +kernel
theorem dX3_chord_91 : decode cX3_chord 91 = .ok (.aload_n 0, 1) := by decide +kernel
theorem dX3_chord_92 : decode cX3_chord 92 = .ok (.getfield 45, 3) := by decide +kernel
theorem dX3_chord_95 : decode cX3_chord 95 = .ok (.iaload, 1) := by decide +kernel
theorem dX3_chord_96 : decode cX3_chord 96 = .ok (.imul, 1) := by decide +kernel
theorem dX3_chord_97 : decode cX3_chord 97 = .ok (.iadd, 1) := by decide +kernel
theorem dX3_chord_98 : decode cX3_chord 98 = .ok (.istore 6, 2) := by decide +kernel
theorem dX3_chord_100 : decode cX3_chord 100 = .ok (.aload_n 0, 1) := by decide +kernel
theorem dX3_chord_101 : decode cX3_chord 101 = .ok (.getfield 22, 3) := by decide +kernel
theorem dX3_chord_104 : decode cX3_chord 104 = .ok (.iload 6, 2) := by decide +kernel
theorem dX3_chord_106 : decode cX3_chord 106 = .ok (.iload_n 1, 1) := by decide +kernel
theorem dX3_chord_107 : decode cX3_chord 107 = .ok (.iastore, 1) := by decide +kernel
theorem dX3_chord_108 : decode cX3_chord 108 = .ok (.aload_n 0, 1) := by decide +kernel
theorem dX3_chord_109 : decode cX3_chord 109 = .ok (.getfield 22, 3) := by decide +kernel
theorem dX3_chord_112 : decode cX3_chord 112 = .ok (.iload 6, 2) := by decide +kernel
theorem dX3_chord_114 : decode cX3_chord 114 = .ok (.iconst 1, 1) := by decide +kernel
theorem dX3_chord_115 : decode cX3_chord 115 = .ok (.iadd, 1) := by decide +kernel
theorem dX3_chord_116 : decode cX3_chord 116 = .ok (.iload_n 2, 1) := by decide +kernel
theorem dX3_chord_117 : decode cX3_chord 117 = .ok (.iastore, 1) := by decide +kernel
theorem dX3_chord_118 : decode cX3_chord 118 = .ok (.aload_n 0, 1) := by decide +kernel
theorem dX3_chord_119 : decode cX3_chord 119 = .ok (.getfield 22, 3) := by decide +kernel
theorem dX3_chord_122 : decode cX3_chord 122 = .ok (.iload 6, 2) := by decide +kernel
theorem dX3_chord_124 : decode cX3_chord 124 = .ok (.iconst 2, 1) := by decide +kernel
theorem dX3_chord_125 : decode cX3_chord 125 = .ok (.iadd, 1) := by decide +kernel
theorem dX3_chord_126 : decode cX3_chord 126 = .ok (.iload_n 3, 1) := by decide +kernel
theorem dX3_chord_127 : decode cX3_chord 127 = .ok (.iastore, 1) := by decide +kernel
theorem dX3_chord_128 : decode cX3_chord 128 = .ok (.aload_n 0, 1) := by decide +kernel
theorem dX3_chord_129 : decode cX3_chord 129 = .ok (.getfield 22, 3) := by decide +kernel
theorem dX3_chord_132 : decode cX3_chord 132 = .ok (.iload 6, 2) := by decide +kernel
theorem dX3_chord_134 : decode cX3_chord 134 = .ok (.iconst 3, 1) := by decide +kernel
theorem dX3_chord_135 : decode cX3_chord 135 = .ok (.iadd, 1) := by decide +kernel
theorem dX3_chord_136 : decode cX3_chord 136 = .ok (.iload 4, 2) := by decide +kernel
theorem dX3_chord_138 : decode cX3_chord 138 = .ok (.iastore, 1) := by decide +kernel
theorem dX3_chord_139 : decode cX3_chord 139 = .ok (.aload_n 0, 1) := by decide +kernel
theorem dX3_chord_140 : decode cX3_chord 140 = .ok (.getfield 25, 3) := by decide +kernel
theorem dX3_chord_143 : decode cX3_chord 143 = .ok (.aload_n 0, 1) := by decide +kernel
theorem dX3_chord_144 : decode cX3_chord 144 = .ok (.getfield 45, 3) := by decide +kernel
theorem dX3_chord_147 : decode cX3_chord 147 = .ok (.dup2, 1) := by decide +kernel
theorem dX3_chord_148 : decode cX3_chord 148 = .ok (.iaload, 1) := by decide +kernel
theorem dX3_chord_149 : decode cX3_chord 149 = .ok (.iconst 1, 1) := by decide +kernel
theorem dX3_chord_150 : decode cX3_chord 150 = .ok (.iadd, 1) := by decide +kernel
theorem dX3_chord_151 : decode cX3_chord 151 = .ok (.iastore, 1) := by decide +kernel
theorem dX3_chord_152 : decode cX3_chord 152 = .ok (.aload_n 0, 1) := by decide +kernel
theorem dX3_chord_153 : decode cX3_chord 153 = .ok (.getfield 25, 3) := by decide +kernel
theorem dX3_chord_156 : decode cX3_chord 156 = .ok (.aload_n 0, 1) := by decide +kernel
theorem dX3_chord_157 : decode cX3_chord 157 = .ok (.getfield 45, 3) := by decide +kernel
theorem dX3_chord_160 : decode cX3_chord 160 = .ok (.iaload, 1) := by decide +kernel
theorem dX3_chord_161 : decode cX3_chord 161 = .ok (.ireturn, 1) := by decide +kernel
theorem dX3_addPiece_0 : decode cX3_addPiece 0 = .ok (.aload_n 0, 1) := by decide +kernel
theorem dX3_addPiece_1 : decode cX3_addPiece 1 = .ok (.getfield 25, 3) := by decide +kernel
theorem dX3_addPiece_4 : decode cX3_addPiece 4 = .ok (.aload_n 0, 1) := by decide +kernel
theorem dX3_addPiece_5 : decode cX3_addPiece 5 = .ok (.getfield 45, 3) := by decide +kernel
theorem dX3_addPiece_8 : decode cX3_addPiece 8 = .ok (.iaload, 1) := by decide +kernel
theorem dX3_addPiece_9 : decode cX3_addPiece 9 = .ok (.ifCond .le 16, 3) := by decide +kernel
theorem dX3_addPiece_12 : decode cX3_addPiece 12 = .ok (.aload_n 0, 1) := by decide +kernel
theorem dX3_addPiece_13 : decode cX3_addPiece 13 = .ok (.getfield 45, 3) := by decide +kernel
theorem dX3_addPiece_16 : decode cX3_addPiece 16 = .ok (.bipush 6, 2) := by decide +kernel
theorem dX3_addPiece_18 : decode cX3_addPiece 18 = .ok (.if_icmp .ge 7, 3) := by decide +kernel
theorem dX3_addPiece_21 : decode cX3_addPiece 21 = .ok (.iconst 1, 1) := by decide +kernel
theorem dX3_addPiece_22 : decode cX3_addPiece 22 = .ok (.goto 4, 3) := by decide +kernel
theorem dX3_addPiece_25 : decode cX3_addPiece 25 = .ok (.iconst 0, 1) := by decide +kernel
theorem dX3_addPiece_26 : decode cX3_addPiece 26 = .ok (.istore_n 2, 1) := by decide +kernel
theorem dX3_addPiece_27 : decode cX3_addPiece 27 = .ok (.aload_n 0, 1) := by decide +kernel
theorem dX3_addPiece_28 : decode cX3_addPiece 28 = .ok (.iload_n 1, 1) := by decide +kernel
theorem dX3_addPiece_29 : decode cX3_addPiece 29 = .ok (.iconst 1, 1) := by decide +kernel
theorem dX3_addPiece_30 : decode cX3_addPiece 30 = .ok (.sipush 3600, 3) := by decide +kernel
theorem dX3_addPiece_33 : decode cX3_addPiece 33 = .ok (.invokestatic 38, 3) := by decide +kernel
theorem dX3_addPiece_36 : decode cX3_addPiece 36 = .ok (.ifCond .ne 7, 3) := by decide +kernel
theorem dX3_addPiece_39 : decode cX3_addPiece 39 = .ok (.iconst 1, 1) := by decide +kernel
theorem dX3_addPiece_40 : decode cX3_addPiece 40 = .ok (.goto 12, 3) := by decide +kernel
theorem dX3_addPiece_43 : decode cX3_addPiece 43 = .ok (.iload_n 2, 1) := by decide +kernel
theorem dX3_addPiece_44 : decode cX3_addPiece 44 = .ok (.ifCond .eq 7, 3) := by decide +kernel
theorem dX3_addPiece_47 : decode cX3_addPiece 47 = .ok (.iconst 0, 1) := by decide +kernel
theorem dX3_addPiece_48 : decode cX3_addPiece 48 = .ok (.goto 4, 3) := by decide +kernel
theorem dX3_addPiece_51 : decode cX3_addPiece 51 = .ok (.iconst 2, 1) := by decide +kernel
theorem dX3_addPiece_52 : decode cX3_addPiece 52 = .ok (.invokevirtual 58, 3) := by decide +kernel
theorem dX3_addPiece_55 : decode cX3_addPiece 55 = .ok (.ifCond .eq 5, 3) := by decide +kernel
theorem dX3_addPiece_58 : decode cX3_addPiece 58 = .ok (.iconst 0, 1) := by decide +kernel
theorem dX3_addPiece_59 : decode cX3_addPiece 59 = .ok (.ireturn, 1) := by decide +kernel
theorem dX3_addPiece_60 : decode cX3_addPiece 60 = .ok (.aload_n 0, 1) := by decide +kernel
theorem dX3_addPiece_61 : decode cX3_addPiece 61 = .ok (.getfield 28, 3) := by decide +kernel
theorem dX3_addPiece_64 : decode cX3_addPiece 64 = .ok (.aload_n 0, 1) := by decide +kernel
theorem dX3_addPiece_65 : decode cX3_addPiece 65 = .ok (.getfield 45, 3) := by decide +kernel
theorem dX3_addPiece_68 : decode cX3_addPiece 68 = .ok (.iload_n 1, 1) := by decide +kernel
theorem dX3_addPiece_69 : decode cX3_addPiece 69 = .ok (.iastore, 1) := by decide +kernel
theorem dX3_addPiece_70 : decode cX3_addPiece 70 = .ok (.aload_n 0, 1) := by decide +kernel
theorem dX3_addPiece_71 : decode cX3_addPiece 71 = .ok (.dup, 1) := by decide +kernel
theorem dX3_addPiece_72 : decode cX3_addPiece 72 = .ok (.getfield 45, 3) := by decide +kernel
theorem dX3_addPiece_75 : decode cX3_addPiece 75 = .ok (.iconst 1, 1) := by decide +kernel
theorem dX3_addPiece_76 : decode cX3_addPiece 76 = .ok (.iadd, 1) := by decide +kernel
theorem dX3_addPiece_77 : decode cX3_addPiece 77 = .ok (.putfield 45, 3) := by decide +kernel
theorem dX3_addPiece_80 : decode cX3_addPiece 80 = .ok (.aload_n 0, 1) := by decide +kernel
theorem dX3_addPiece_81 : decode cX3_addPiece 81 = .ok (.getfield 45, 3) := by decide +kernel
theorem dX3_addPiece_84 : decode cX3_addPiece 84 = .ok (.iconst 1, 1) := by decide +kernel
theorem dX3_addPiece_85 : decode cX3_addPiece 85 = .ok (.isub, 1) := by decide +kernel
theorem dX3_addPiece_86 : decode cX3_addPiece 86 = .ok (.ireturn, 1) := by decide +kernel
theorem dX3_toneAt_0 : decode cX3_toneAt 0 = .ok (.aload_n 0, 1) := by decide +kernel
theorem dX3_toneAt_1 : decode cX3_toneAt 1 = .ok (.getfield 22, 3) := by decide +kernel
theorem dX3_toneAt_4 : decode cX3_toneAt 4 = .ok (.bipush 64, 2) := by decide +kernel
theorem dX3_toneAt_6 : decode cX3_toneAt 6 = .ok (.iload_n 1, 1) := by decide +kernel
theorem dX3_toneAt_7 : decode cX3_toneAt 7 = .ok (.imul, 1) := by decide +kernel
theorem dX3_toneAt_8 : decode cX3_toneAt 8 = .ok (.iconst 4, 1) := by decide +kernel
theorem dX3_toneAt_9 : decode cX3_toneAt 9 = .ok (.iload_n 2, 1) := by decide +kernel
theorem dX3_toneAt_10 : decode cX3_toneAt 10 = .ok (.imul, 1) := by decide +kernel
theorem dX3_toneAt_11 : decode cX3_toneAt 11 = .ok (.iadd, 1) := by decide +kernel
theorem dX3_toneAt_12 : decode cX3_toneAt 12 = .ok (.iload_n 3, 1) := by decide +kernel
theorem dX3_toneAt_13 : decode cX3_toneAt 13 = .ok (.iadd, 1) := by decide +kernel
theorem dX3_toneAt_14 : decode cX3_toneAt 14 = .ok (.iaload, 1) := by decide +kernel
theorem dX3_toneAt_15 : decode cX3_toneAt 15 = .ok (.ireturn, 1) := by decide +kernel
theorem dX3_floorOf_0 : decode cX3_floorOf 0 = .ok (.iload_n 3, 1) := by decide +kernel
theorem dX3_floorOf_1 : decode cX3_floorOf 1 = .ok (.iconst 3, 1) := by decide +kernel
theorem dX3_floorOf_2 : decode cX3_floorOf 2 = .ok (.if_icmp .ne 7, 3) := by decide +kernel
theorem dX3_floorOf_5 : decode cX3_floorOf 5 = .ok (.iconst 0, 1) := by decide +kernel
theorem dX3_floorOf_6 : decode cX3_floorOf 6 = .ok (.goto 12, 3) := by decide +kernel
theorem dX3_floorOf_9 : decode cX3_floorOf 9 = .ok (.aload_n 0, 1) := by decide +kernel
theorem dX3_floorOf_10 : decode cX3_floorOf 10 = .ok (.iload_n 1, 1) := by decide +kernel
theorem dX3_floorOf_11 : decode cX3_floorOf 11 = .ok (.iload_n 2, 1) := by decide +kernel
theorem dX3_floorOf_12 : decode cX3_floorOf 12 = .ok (.iload_n 3, 1) := by decide +kernel
theorem dX3_floorOf_13 : decode cX3_floorOf 13 = .ok (.iconst 1, 1) := by decide +kernel
theorem dX3_floorOf_14 : decode cX3_floorOf 14 = .ok (.iadd, 1) := by decide +kernel
theorem dX3_floorOf_15 : decode cX3_floorOf 15 = .ok (.invokevirtual 78, 3) := by decide +kernel
theorem dX3_floorOf_18 : decode cX3_floorOf 18 = .ok (.ireturn, 1) := by decide +kernel
theorem dX3_roofOf_0 : decode cX3_roofOf 0 = .ok (.iload_n 3, 1) := by decide +kernel
theorem dX3_roofOf_1 : decode cX3_roofOf 1 = .ok (.ifCond .ne 8, 3) := by decide +kernel
theorem dX3_roofOf_4 : decode cX3_roofOf 4 = .ok (.bipush 60, 2) := by decide +kernel
theorem dX3_roofOf_6 : decode cX3_roofOf 6 = .ok (.goto 12, 3) := by decide +kernel
theorem dX3_roofOf_9 : decode cX3_roofOf 9 = .ok (.aload_n 0, 1) := by decide +kernel
theorem dX3_roofOf_10 : decode cX3_roofOf 10 = .ok (.iload_n 1, 1) := by decide +kernel
theorem dX3_roofOf_11 : decode cX3_roofOf 11 = .ok (.iload_n 2, 1) := by decide +kernel
theorem dX3_roofOf_12 : decode cX3_roofOf 12 = .ok (.iload_n 3, 1) := by decide +kernel
theorem dX3_roofOf_13 : decode cX3_roofOf 13 = .ok (.iconst 1, 1) := by decide +kernel
theorem dX3_roofOf_14 : decode cX3_roofOf 14 = .ok (.isub, 1) := by decide +kernel
theorem dX3_roofOf_15 : decode cX3_roofOf 15 = .ok (.invokevirtual 78, 3) := by decide +kernel
theorem dX3_roofOf_18 : decode cX3_roofOf 18 = .ok (.ireturn, 1) := by decide +kernel
theorem dX3_setTone_0 : decode cX3_setTone 0 = .ok (.iload_n 3, 1) := by decide +kernel
theorem dX3_setTone_1 : decode cX3_setTone 1 = .ok (.invokestatic 52, 3) := by decide +kernel
theorem dX3_setTone_4 : decode cX3_setTone 4 = .ok (.ifCond .eq 15, 3) := by decide +kernel
theorem dX3_setTone_7 : decode cX3_setTone 7 = .ok (.iload 4, 2) := by decide +kernel
theorem dX3_setTone_9 : decode cX3_setTone 9 = .ok (.invokestatic 55, 3) := by decide +kernel
theorem dX3_setTone_12 : decode cX3_setTone 12 = .ok (.ifCond .eq 7, 3) := by decide +kernel
theorem dX3_setTone_15 : decode cX3_setTone 15 = .ok (.iconst 1, 1) := by decide +kernel
theorem dX3_setTone_16 : decode cX3_setTone 16 = .ok (.goto 4, 3) := by decide +kernel
theorem dX3_setTone_19 : decode cX3_setTone 19 = .ok (.iconst 0, 1) := by decide +kernel
theorem dX3_setTone_20 : decode cX3_setTone 20 = .ok (.istore 5, 2) := by decide +kernel
theorem dX3_setTone_22 : decode cX3_setTone 22 = .ok (.aload_n 0, 1) := by decide +kernel
theorem dX3_setTone_23 : decode cX3_setTone 23 = .ok (.iload_n 1, 1) := by decide +kernel
theorem dX3_setTone_24 : decode cX3_setTone 24 = .ok (.iload_n 2, 1) := by decide +kernel
theorem dX3_setTone_25 : decode cX3_setTone 25 = .ok (.invokevirtual 82, 3) := by decide +kernel
theorem dX3_setTone_28 : decode cX3_setTone 28 = .ok (.ifCond .eq 34, 3) := by decide +kernel
theorem dX3_setTone_31 : decode cX3_setTone 31 = .ok (.iload 5, 2) := by decide +kernel
theorem dX3_setTone_33 : decode cX3_setTone 33 = .ok (.ifCond .eq 29, 3) := by decide +kernel
theorem dX3_setTone_36 : decode cX3_setTone 36 = .ok (.iload 4, 2) := by decide +kernel
theorem dX3_setTone_38 : decode cX3_setTone 38 = .ok (.aload_n 0, 1) := by decide +kernel
theorem dX3_setTone_39 : decode cX3_setTone 39 = .ok (.iload_n 1, 1) := by decide +kernel
theorem dX3_setTone_40 : decode cX3_setTone 40 = .ok (.iload_n 2, 1) := by decide +kernel
theorem dX3_setTone_41 : decode cX3_setTone 41 = .ok (.iload_n 3, 1) := by decide +kernel
theorem dX3_setTone_42 : decode cX3_setTone 42 = .ok (.invokevirtual 85, 3) := by decide +kernel
theorem dX3_setTone_45 : decode cX3_setTone 45 = .ok (.aload_n 0, 1) := by decide +kernel
theorem dX3_setTone_46 : decode cX3_setTone 46 = .ok (.iload_n 1, 1) := by decide +kernel
theorem dX3_setTone_47 : decode cX3_setTone 47 = .ok (.iload_n 2, 1) := by decide +kernel
theorem dX3_setTone_48 : decode cX3_setTone 48 = .ok (.iload_n 3, 1) := by decide +kernel
theorem dX3_setTone_49 : decode cX3_setTone 49 = .ok (.invokevirtual 88, 3) := by decide +kernel
theorem dX3_setTone_52 : decode cX3_setTone 52 = .ok (.invokestatic 38, 3) := by decide +kernel
theorem dX3_setTone_55 : decode cX3_setTone 55 = .ok (.ifCond .eq 7, 3) := by decide +kernel
theorem dX3_setTone_58 : decode cX3_setTone 58 = .ok (.iconst 1, 1) := by decide +kernel
theorem dX3_setTone_59 : decode cX3_setTone 59 = .ok (.goto 4, 3) := by decide +kernel
theorem dX3_setTone_62 : decode cX3_setTone 62 = .ok (.iconst 0, 1) := by decide +kernel
theorem dX3_setTone_63 : decode cX3_setTone 63 = .ok (.istore 6, 2) := by decide +kernel
theorem dX3_setTone_65 : decode cX3_setTone 65 = .ok (.aload_n 0, 1) := by decide +kernel
theorem dX3_setTone_66 : decode cX3_setTone 66 = .ok (.aload_n 0, 1) := by decide +kernel
theorem dX3_setTone_67 : decode cX3_setTone 67 = .ok (.iload_n 1, 1) := by decide +kernel
theorem dX3_setTone_68 : decode cX3_setTone 68 = .ok (.iload_n 2, 1) := by decide +kernel
theorem dX3_setTone_69 : decode cX3_setTone 69 = .ok (.invokevirtual 82, 3) := by decide +kernel
theorem dX3_setTone_72 : decode cX3_setTone 72 = .ok (.ifCond .ne 7, 3) := by decide +kernel
theorem dX3_setTone_75 : decode cX3_setTone 75 = .ok (.iconst 1, 1) := by decide +kernel
theorem dX3_setTone_76 : decode cX3_setTone 76 = .ok (.goto 22, 3) := by decide +kernel
theorem dX3_setTone_79 : decode cX3_setTone 79 = .ok (.iload 5, 2) := by decide +kernel
theorem dX3_setTone_81 : decode cX3_setTone 81 = .ok (.ifCond .ne 7, 3) := by decide +kernel
theorem dX3_setTone_84 : decode cX3_setTone 84 = .ok (.iconst 2, 1) := by decide +kernel
theorem dX3_setTone_85 : decode cX3_setTone 85 = .ok (.goto 13, 3) := by decide +kernel
theorem dX3_setTone_88 : decode cX3_setTone 88 = .ok (.iload 6, 2) := by decide +kernel
theorem dX3_setTone_90 : decode cX3_setTone 90 = .ok (.ifCond .eq 7, 3) := by decide +kernel
theorem dX3_setTone_93 : decode cX3_setTone 93 = .ok (.iconst 0, 1) := by decide +kernel
theorem dX3_setTone_94 : decode cX3_setTone 94 = .ok (.goto 4, 3) := by decide +kernel
theorem dX3_setTone_97 : decode cX3_setTone 97 = .ok (.iconst 3, 1) := by decide +kernel
theorem dX3_setTone_98 : decode cX3_setTone 98 = .ok (.invokevirtual 58, 3) := by decide +kernel
theorem dX3_setTone_101 : decode cX3_setTone 101 = .ok (.ifCond .eq 5, 3) := by decide +kernel
theorem dX3_setTone_104 : decode cX3_setTone 104 = .ok (.iconst 0, 1) := by decide +kernel
theorem dX3_setTone_105 : decode cX3_setTone 105 = .ok (.ireturn, 1) := by decide +kernel
theorem dX3_setTone_106 : decode cX3_setTone 106 = .ok (.aload_n 0, 1) := by decide +kernel
theorem dX3_setTone_107 : decode cX3_setTone 107 = .ok (.iload_n 1, 1) := by decide +kernel
theorem dX3_setTone_108 : decode cX3_setTone 108 = .ok (.iload_n 2, 1) := by decide +kernel
theorem dX3_setTone_109 : decode cX3_setTone 109 = .ok (.iload_n 3, 1) := by decide +kernel
theorem dX3_setTone_110 : decode cX3_setTone 110 = .ok (.invokevirtual 78, 3) := by decide +kernel
theorem dX3_setTone_113 : decode cX3_setTone 113 = .ok (.istore 7, 2) := by decide +kernel
theorem dX3_setTone_115 : decode cX3_setTone 115 = .ok (.aload_n 0, 1) := by decide +kernel
theorem dX3_setTone_116 : decode cX3_setTone 116 = .ok (.getfield 22, 3) := by decide +kernel
theorem dX3_setTone_119 : decode cX3_setTone 119 = .ok (.bipush 64, 2) := by decide +kernel
theorem dX3_setTone_121 : decode cX3_setTone 121 = .ok (.iload_n 1, 1) := by decide +kernel
theorem dX3_setTone_122 : decode cX3_setTone 122 = .ok (.imul, 1) := by decide +kernel
theorem dX3_setTone_123 : decode cX3_setTone 123 = .ok (.iconst 4, 1) := by decide +kernel
theorem dX3_setTone_124 : decode cX3_setTone 124 = .ok (.iload_n 2, 1) := by decide +kernel
theorem dX3_setTone_125 : decode cX3_setTone 125 = .ok (.imul, 1) := by decide +kernel
theorem dX3_setTone_126 : decode cX3_setTone 126 = .ok (.iadd, 1) := by decide +kernel
theorem dX3_setTone_127 : decode cX3_setTone 127 = .ok (.iload_n 3, 1) := by decide +kernel
theorem dX3_setTone_128 : decode cX3_setTone 128 = .ok (.iadd, 1) := by decide +kernel
theorem dX3_setTone_129 : decode cX3_setTone 129 = .ok (.iload 4, 2) := by decide +kernel
theorem dX3_setTone_131 : decode cX3_setTone 131 = .ok (.iastore, 1) := by decide +kernel
theorem dX3_setTone_132 : decode cX3_setTone 132 = .ok (.iload 7, 2) := by decide +kernel
theorem dX3_setTone_134 : decode cX3_setTone 134 = .ok (.ireturn, 1) := by decide +kernel
theorem dX3_isParallel_0 : decode cX3_isParallel 0 = .ok (.aload_n 0, 1) := by decide +kernel
theorem dX3_isParallel_1 : decode cX3_isParallel 1 = .ok (.iload_n 1, 1) := by decide +kernel
theorem dX3_isParallel_2 : decode cX3_isParallel 2 = .ok (.iload_n 2, 1) := by decide +kernel
theorem dX3_isParallel_3 : decode cX3_isParallel 3 = .ok (.iload_n 3, 1) := by decide +kernel
theorem dX3_isParallel_4 : decode cX3_isParallel 4 = .ok (.invokevirtual 78, 3) := by decide +kernel
theorem dX3_isParallel_7 : decode cX3_isParallel 7 = .ok (.aload_n 0, 1) := by decide +kernel
theorem dX3_isParallel_8 : decode cX3_isParallel 8 = .ok (.iload_n 1, 1) := by decide +kernel
theorem dX3_isParallel_9 : decode cX3_isParallel 9 = .ok (.iload_n 2, 1) := by decide +kernel
theorem dX3_isParallel_10 : decode cX3_isParallel 10 = .ok (.iconst 1, 1) := by decide +kernel
theorem dX3_isParallel_11 : decode cX3_isParallel 11 = .ok (.isub, 1) := by decide +kernel
theorem dX3_isParallel_12 : decode cX3_isParallel 12 = .ok (.iload_n 3, 1) := by decide +kernel
theorem dX3_isParallel_13 : decode cX3_isParallel 13 = .ok (.invokevirtual 78, 3) := by decide +kernel
theorem dX3_isParallel_16 : decode cX3_isParallel 16 = .ok (.isub, 1) := by decide +kernel
theorem dX3_isParallel_17 : decode cX3_isParallel 17 = .ok (.istore 5, 2) := by decide +kernel
theorem dX3_isParallel_19 : decode cX3_isParallel 19 = .ok (.aload_n 0, 1) := by decide +kernel
theorem dX3_isParallel_20 : decode cX3_isParallel 20 = .ok (.iload_n 1, 1) := by decide +kernel
theorem dX3_isParallel_21 : decode cX3_isParallel 21 = .ok (.iload_n 2, 1) := by decide +kernel
theorem dX3_isParallel_22 : decode cX3_isParallel 22 = .ok (.iload 4, 2) := by decide +kernel
theorem dX3_isParallel_24 : decode cX3_isParallel 24 = .ok (.invokevirtual 78, 3) := by decide +kernel
theorem dX3_isParallel_27 : decode cX3_isParallel 27 = .ok (.aload_n 0, 1) := by decide +kernel
theorem dX3_isParallel_28 : decode cX3_isParallel 28 = .ok (.iload_n 1, 1) := by decide +kernel
theorem dX3_isParallel_29 : decode cX3_isParallel 29 = .ok (.iload_n 2, 1) := by decide +kernel
theorem dX3_isParallel_30 : decode cX3_isParallel 30 = .ok (.iconst 1, 1) := by decide +kernel
theorem dX3_isParallel_31 : decode cX3_isParallel 31 = .ok (.isub, 1) := by decide +kernel
theorem dX3_isParallel_32 : decode cX3_isParallel 32 = .ok (.iload 4, 2) := by decide +kernel
theorem dX3_isParallel_34 : decode cX3_isParallel 34 = .ok (.invokevirtual 78, 3) := by decide +kernel
theorem dX3_isParallel_37 : decode cX3_isParallel 37 = .ok (.isub, 1) := by decide +kernel
theorem dX3_isParallel_38 : decode cX3_isParallel 38 = .ok (.istore 6, 2) := by decide +kernel
theorem dX3_isParallel_40 : decode cX3_isParallel 40 = .ok (.aload_n 0, 1) := by decide +kernel
theorem dX3_isParallel_41 : decode cX3_isParallel 41 = .ok (.iload_n 1, 1) := by decide +kernel
theorem dX3_isParallel_42 : decode cX3_isParallel 42 = .ok (.iload_n 2, 1) := by decide +kernel
theorem dX3_isParallel_43 : decode cX3_isParallel 43 = .ok (.iload_n 3, 1) := by decide +kernel
theorem dX3_isParallel_44 : decode cX3_isParallel 44 = .ok (.invokevirtual 78, 3) := by decide +kernel
theorem dX3_isParallel_47 : decode cX3_isParallel 47 = .ok (.aload_n 0, 1) := by decide +kernel
theorem dX3_isParallel_48 : decode cX3_isParallel 48 = .ok (.iload_n 1, 1) := by decide +kernel
theorem dX3_isParallel_49 : decode cX3_isParallel 49 = .ok (.iload_n 2, 1) := by decide +kernel
theorem dX3_isParallel_50 : decode cX3_isParallel 50 = .ok (.iload 4, 2) := by decide +kernel
theorem dX3_isParallel_52 : decode cX3_isParallel 52 = .ok (.invokevirtual 78, 3) := by decide +kernel
theorem dX3_isParallel_55 : decode cX3_isParallel 55 = .ok (.isub, 1) := by decide +kernel
theorem dX3_isParallel_56 : decode cX3_isParallel 56 = .ok (.istore 7, 2) := by decide +kernel
theorem dX3_isParallel_58 : decode cX3_isParallel 58 = .ok (.iload 7, 2) := by decide +kernel
theorem dX3_isParallel_60 : decode cX3_isParallel 60 = .ok (.bipush 12, 2) := by decide +kernel
theorem dX3_isParallel_62 : decode cX3_isParallel 62 = .ok (.if_icmp .le 9, 3) := by decide +kernel
theorem dX3_isParallel_65 : decode cX3_isParallel 65 = .ok (.iinc 7 (-12), 3) := by decide +kernel
theorem dX3_isParallel_68 : decode cX3_isParallel 68 = .ok (.goto (-10), 3) := by decide +kernel
theorem dX3_isParallel_71 : decode cX3_isParallel 71 = .ok (.iload 5, 2) := by decide +kernel
theorem dX3_isParallel_73 : decode cX3_isParallel 73 = .ok (.ifCond .eq 33, 3) := by decide +kernel
theorem dX3_isParallel_76 : decode cX3_isParallel 76 = .ok (.iload 5, 2) := by decide +kernel
theorem dX3_isParallel_78 : decode cX3_isParallel 78 = .ok (.iload 6, 2) := by decide +kernel
theorem dX3_isParallel_80 : decode cX3_isParallel 80 = .ok (.if_icmp .ne 26, 3) := by decide +kernel
theorem dX3_isParallel_83 : decode cX3_isParallel 83 = .ok (.iload 7, 2) := by decide +kernel
theorem dX3_isParallel_85 : decode cX3_isParallel 85 = .ok (.ifCond .eq 17, 3) := by decide +kernel
theorem dX3_isParallel_88 : decode cX3_isParallel 88 = .ok (.iload 7, 2) := by decide +kernel
theorem dX3_isParallel_90 : decode cX3_isParallel 90 = .ok (.bipush 7, 2) := by decide +kernel
theorem dX3_isParallel_92 : decode cX3_isParallel 92 = .ok (.if_icmp .eq 10, 3) := by decide +kernel
theorem dX3_isParallel_95 : decode cX3_isParallel 95 = .ok (.iload 7, 2) := by decide +kernel
theorem dX3_isParallel_97 : decode cX3_isParallel 97 = .ok (.bipush 12, 2) := by decide +kernel
theorem dX3_isParallel_99 : decode cX3_isParallel 99 = .ok (.if_icmp .ne 7, 3) := by decide +kernel
theorem dX3_isParallel_102 : decode cX3_isParallel 102 = .ok (.iconst 1, 1) := by decide +kernel
theorem dX3_isParallel_103 : decode cX3_isParallel 103 = .ok (.goto 4, 3) := by decide +kernel
theorem dX3_isParallel_106 : decode cX3_isParallel 106 = .ok (.iconst 0, 1) := by decide +kernel
theorem dX3_isParallel_107 : decode cX3_isParallel 107 = .ok (.ireturn, 1) := by decide +kernel
theorem dX3_faultsOf_0 : decode cX3_faultsOf 0 = .ok (.iconst 0, 1) := by decide +kernel
theorem dX3_faultsOf_1 : decode cX3_faultsOf 1 = .ok (.istore_n 3, 1) := by decide +kernel
theorem dX3_faultsOf_2 : decode cX3_faultsOf 2 = .ok (.iconst 0, 1) := by decide +kernel
theorem dX3_faultsOf_3 : decode cX3_faultsOf 3 = .ok (.istore 4, 2) := by decide +kernel
theorem dX3_faultsOf_5 : decode cX3_faultsOf 5 = .ok (.iload 4, 2) := by decide +kernel
theorem dX3_faultsOf_7 : decode cX3_faultsOf 7 = .ok (.iconst 4, 1) := by decide +kernel
theorem dX3_faultsOf_8 : decode cX3_faultsOf 8 = .ok (.if_icmp .ge 93, 3) := by decide +kernel
theorem dX3_faultsOf_11 : decode cX3_faultsOf 11 = .ok (.iload_n 2, 1) := by decide +kernel
theorem dX3_faultsOf_12 : decode cX3_faultsOf 12 = .ok (.ifCond .le 89, 3) := by decide +kernel
theorem dX3_faultsOf_15 : decode cX3_faultsOf 15 = .ok (.aload_n 0, 1) := by decide +kernel
theorem dX3_faultsOf_16 : decode cX3_faultsOf 16 = .ok (.iload_n 1, 1) := by decide +kernel
theorem dX3_faultsOf_17 : decode cX3_faultsOf 17 = .ok (.iload_n 2, 1) := by decide +kernel
theorem dX3_faultsOf_18 : decode cX3_faultsOf 18 = .ok (.iload 4, 2) := by decide +kernel
theorem dX3_faultsOf_20 : decode cX3_faultsOf 20 = .ok (.invokevirtual 78, 3) := by decide +kernel
theorem dX3_faultsOf_23 : decode cX3_faultsOf 23 = .ok (.aload_n 0, 1) := by decide +kernel
theorem dX3_faultsOf_24 : decode cX3_faultsOf 24 = .ok (.iload_n 1, 1) := by decide +kernel
theorem dX3_faultsOf_25 : decode cX3_faultsOf 25 = .ok (.iload_n 2, 1) := by decide +kernel
