theorem dX0_init_0 : decode cX0_init 0 = .ok (.aload_n 0, 1) := by decide +kernel
theorem dX0_init_1 : decode cX0_init 1 = .ok (.invokespecial 3, 3) := by decide +kernel
theorem dX0_init_4 : decode cX0_init 4 = .ok (.aload_n 0, 1) := by decide +kernel
theorem dX0_init_5 : decode cX0_init 5 = .ok (.bipush 64, 2) := by decide +kernel
theorem dX0_init_7 : decode cX0_init 7 = .ok (.newarray .int, 2) := by decide +kernel
theorem dX0_init_9 : decode cX0_init 9 = .ok (.putfield 9, 3) := by decide +kernel
theorem dX0_init_12 : decode cX0_init 12 = .ok (.aload_n 0, 1) := by decide +kernel
theorem dX0_init_13 : decode cX0_init 13 = .ok (.bipush 16, 2) := by decide +kernel
theorem dX0_init_15 : decode cX0_init 15 = .ok (.newarray .int, 2) := by decide +kernel
theorem dX0_init_17 : decode cX0_init 17 = .ok (.putfield 15, 3) := by decide +kernel
theorem dX0_init_20 : decode cX0_init 20 = .ok (.aload_n 0, 1) := by decide +kernel
theorem dX0_init_21 : decode cX0_init 21 = .ok (.bipush 16, 2) := by decide +kernel
theorem dX0_init_23 : decode cX0_init 23 = .ok (.newarray .int, 2) := by decide +kernel
theorem dX0_init_25 : decode cX0_init 25 = .ok (.putfield 18, 3) := by decide +kernel
theorem dX0_init_28 : decode cX0_init 28 = .ok (.return_, 1) := by decide +kernel
theorem dX0_isEmpty_0 : decode cX0_isEmpty 0 = .ok (.aload_n 0, 1) := by decide +kernel
theorem dX0_isEmpty_1 : decode cX0_isEmpty 1 = .ok (.getfield 21, 3) := by decide +kernel
theorem dX0_isEmpty_4 : decode cX0_isEmpty 4 = .ok (.ifCond .ne 7, 3) := by decide +kernel
theorem dX0_isEmpty_7 : decode cX0_isEmpty 7 = .ok (.iconst 1, 1) := by decide +kernel
theorem dX0_isEmpty_8 : decode cX0_isEmpty 8 = .ok (.goto 4, 3) := by decide +kernel
theorem dX0_isEmpty_11 : decode cX0_isEmpty 11 = .ok (.iconst 0, 1) := by decide +kernel
theorem dX0_isEmpty_12 : decode cX0_isEmpty 12 = .ok (.ireturn, 1) := by decide +kernel
theorem dX0_isFull_0 : decode cX0_isFull 0 = .ok (.aload_n 0, 1) := by decide +kernel
theorem dX0_isFull_1 : decode cX0_isFull 1 = .ok (.getfield 21, 3) := by decide +kernel
theorem dX0_isFull_4 : decode cX0_isFull 4 = .ok (.bipush 16, 2) := by decide +kernel
theorem dX0_isFull_6 : decode cX0_isFull 6 = .ok (.if_icmp .lt 7, 3) := by decide +kernel
theorem dX0_isFull_9 : decode cX0_isFull 9 = .ok (.iconst 1, 1) := by decide +kernel
theorem dX0_isFull_10 : decode cX0_isFull 10 = .ok (.goto 4, 3) := by decide +kernel
theorem dX0_isFull_13 : decode cX0_isFull 13 = .ok (.iconst 0, 1) := by decide +kernel
theorem dX0_isFull_14 : decode cX0_isFull 14 = .ok (.ireturn, 1) := by decide +kernel
theorem dX0_has_0 : decode cX0_has 0 = .ok (.iload_n 1, 1) := by decide +kernel
theorem dX0_has_1 : decode cX0_has 1 = .ok (.ifCond .lt 15, 3) := by decide +kernel
theorem dX0_has_4 : decode cX0_has 4 = .ok (.iload_n 1, 1) := by decide +kernel
theorem dX0_has_5 : decode cX0_has 5 = .ok (.aload_n 0, 1) := by decide +kernel
theorem dX0_has_6 : decode cX0_has 6 = .ok (.getfield 21, 3) := by decide +kernel
theorem dX0_has_9 : decode cX0_has 9 = .ok (.if_icmp .ge 7, 3) := by decide +kernel
theorem dX0_has_12 : decode cX0_has 12 = .ok (.iconst 1, 1) := by decide +kernel
theorem dX0_has_13 : decode cX0_has 13 = .ok (.goto 4, 3) := by decide +kernel
theorem dX0_has_16 : decode cX0_has 16 = .ok (.iconst 0, 1) := by decide +kernel
theorem dX0_has_17 : decode cX0_has 17 = .ok (.ireturn, 1) := by decide +kernel
theorem dX0_isLast_0 : decode cX0_isLast 0 = .ok (.iload_n 1, 1) := by decide +kernel
theorem dX0_isLast_1 : decode cX0_isLast 1 = .ok (.aload_n 0, 1) := by decide +kernel
theorem dX0_isLast_2 : decode cX0_isLast 2 = .ok (.getfield 21, 3) := by decide +kernel
theorem dX0_isLast_5 : decode cX0_isLast 5 = .ok (.iconst 1, 1) := by decide +kernel
theorem dX0_isLast_6 : decode cX0_isLast 6 = .ok (.isub, 1) := by decide +kernel
theorem dX0_isLast_7 : decode cX0_isLast 7 = .ok (.if_icmp .ne 7, 3) := by decide +kernel
theorem dX0_isLast_10 : decode cX0_isLast 10 = .ok (.iconst 1, 1) := by decide +kernel
theorem dX0_isLast_11 : decode cX0_isLast 11 = .ok (.goto 4, 3) := by decide +kernel
theorem dX0_isLast_14 : decode cX0_isLast 14 = .ok (.iconst 0, 1) := by decide +kernel
theorem dX0_isLast_15 : decode cX0_isLast 15 = .ok (.ireturn, 1) := by decide +kernel
theorem dX0_length_0 : decode cX0_length 0 = .ok (.aload_n 0, 1) := by decide +kernel
theorem dX0_length_1 : decode cX0_length 1 = .ok (.getfield 25, 3) := by decide +kernel
theorem dX0_length_4 : decode cX0_length 4 = .ok (.ireturn, 1) := by decide +kernel
theorem dX0_putLength_0 : decode cX0_putLength 0 = .ok (.aload_n 0, 1) := by decide +kernel
theorem dX0_putLength_1 : decode cX0_putLength 1 = .ok (.iload_n 1, 1) := by decide +kernel
theorem dX0_putLength_2 : decode cX0_putLength 2 = .ok (.putfield 25, 3) := by decide +kernel
theorem dX0_putLength_5 : decode cX0_putLength 5 = .ok (.return_, 1) := by decide +kernel
theorem dX0_append_0 : decode cX0_append 0 = .ok (.iconst 4, 1) := by decide +kernel
theorem dX0_append_1 : decode cX0_append 1 = .ok (.aload_n 0, 1) := by decide +kernel
theorem dX0_append_2 : decode cX0_append 2 = .ok (.getfield 21, 3) := by decide +kernel
theorem dX0_append_5 : decode cX0_append 5 = .ok (.imul, 1) := by decide +kernel
theorem dX0_append_6 : decode cX0_append 6 = .ok (.istore 5, 2) := by decide +kernel
theorem dX0_append_8 : decode cX0_append 8 = .ok (.aload_n 0, 1) := by decide +kernel
theorem dX0_append_9 : decode cX0_append 9 = .ok (.getfield 9, 3) := by decide +kernel
theorem dX0_append_12 : decode cX0_append 12 = .ok (.iload 5, 2) := by decide +kernel
theorem dX0_append_14 : decode cX0_append 14 = .ok (.iload_n 1, 1) := by decide +kernel
theorem dX0_append_15 : decode cX0_append 15 = .ok (.iastore, 1) := by decide +kernel
theorem dX0_append_16 : decode cX0_append 16 = .ok (.aload_n 0, 1) := by decide +kernel
theorem dX0_append_17 : decode cX0_append 17 = .ok (.getfield 9, 3) := by decide +kernel
theorem dX0_append_20 : decode cX0_append 20 = .ok (.iload 5, 2) := by decide +kernel
theorem dX0_append_22 : decode cX0_append 22 = .ok (.iconst 1, 1) := by decide +kernel
theorem dX0_append_23 : decode cX0_append 23 = .ok (.iadd, 1) := by decide +kernel
theorem dX0_append_24 : decode cX0_append 24 = .ok (.iload_n 2, 1) := by decide +kernel
theorem dX0_append_25 : decode cX0_append 25 = .ok (.iastore, 1) := by decide +kernel
theorem dX0_append_26 : decode cX0_append 26 = .ok (.aload_n 0, 1) := by decide +kernel
theorem dX0_append_27 : decode cX0_append 27 = .ok (.getfield 9, 3) := by decide +kernel
theorem dX0_append_30 : decode cX0_append 30 = .ok (.iload 5, 2) := by decide +kernel
theorem dX0_append_32 : decode cX0_append 32 = .ok (.iconst 2, 1) := by decide +kernel
theorem dX0_append_33 : decode cX0_append 33 = .ok (.iadd, 1) := by decide +kernel
theorem dX0_append_34 : decode cX0_append 34 = .ok (.iload_n 3, 1) := by decide +kernel
theorem dX0_append_35 : decode cX0_append 35 = .ok (.iastore, 1) := by decide +kernel
theorem dX0_append_36 : decode cX0_append 36 = .ok (.aload_n 0, 1) := by decide +kernel
theorem dX0_append_37 : decode cX0_append 37 = .ok (.getfield 9, 3) := by decide +kernel
theorem dX0_append_40 : decode cX0_append 40 = .ok (.iload 5, 2) := by decide +kernel
theorem dX0_append_42 : decode cX0_append 42 = .ok (.iconst 3, 1) := by decide +kernel
theorem dX0_append_43 : decode cX0_append 43 = .ok (.iadd, 1) := by decide +kernel
theorem dX0_append_44 : decode cX0_append 44 = .ok (.iload 4, 2) := by decide +kernel
theorem dX0_append_46 : decode cX0_append 46 = .ok (.iastore, 1) := by decide +kernel
theorem dX0_append_47 : decode cX0_append 47 = .ok (.aload_n 0, 1) := by decide +kernel
theorem dX0_append_48 : decode cX0_append 48 = .ok (.dup, 1) := by decide +kernel
theorem dX0_append_49 : decode cX0_append 49 = .ok (.getfield 21, 3) := by decide +kernel
theorem dX0_append_52 : decode cX0_append 52 = .ok (.iconst 1, 1) := by decide +kernel
theorem dX0_append_53 : decode cX0_append 53 = .ok (.iadd, 1) := by decide +kernel
theorem dX0_append_54 : decode cX0_append 54 = .ok (.putfield 21, 3) := by decide +kernel
theorem dX0_append_57 : decode cX0_append 57 = .ok (.aload_n 0, 1) := by decide +kernel
theorem dX0_append_58 : decode cX0_append 58 = .ok (.aload_n 0, 1) := by decide +kernel
theorem dX0_append_59 : decode cX0_append 59 = .ok (.getfield 21, 3) := by decide +kernel
theorem dX0_append_62 : decode cX0_append 62 = .ok (.iconst 1, 1) := by decide +kernel
theorem dX0_append_63 : decode cX0_append 63 = .ok (.isub, 1) := by decide +kernel
theorem dX0_append_64 : decode cX0_append 64 = .ok (.invokevirtual 28, 3) := by decide +kernel
theorem dX0_append_67 : decode cX0_append 67 = .ok (.aload_n 0, 1) := by decide +kernel
theorem dX0_append_68 : decode cX0_append 68 = .ok (.getfield 21, 3) := by decide +kernel
theorem dX0_append_71 : decode cX0_append 71 = .ok (.ireturn, 1) := by decide +kernel
theorem dX0_toneAt_0 : decode cX0_toneAt 0 = .ok (.aload_n 0, 1) := by decide +kernel
theorem dX0_toneAt_1 : decode cX0_toneAt 1 = .ok (.getfield 9, 3) := by decide +kernel
theorem dX0_toneAt_4 : decode cX0_toneAt 4 = .ok (.iconst 4, 1) := by decide +kernel
theorem dX0_toneAt_5 : decode cX0_toneAt 5 = .ok (.iload_n 1, 1) := by decide +kernel
theorem dX0_toneAt_6 : decode cX0_toneAt 6 = .ok (.imul, 1) := by decide +kernel
theorem dX0_toneAt_7 : decode cX0_toneAt 7 = .ok (.iload_n 2, 1) := by decide +kernel
theorem dX0_toneAt_8 : decode cX0_toneAt 8 = .ok (.iadd, 1) := by decide +kernel
theorem dX0_toneAt_9 : decode cX0_toneAt 9 = .ok (.iaload, 1) := by decide +kernel
theorem dX0_toneAt_10 : decode cX0_toneAt 10 = .ok (.ireturn, 1) := by decide +kernel
theorem dX0_putTone_0 : decode cX0_putTone 0 = .ok (.aload_n 0, 1) := by decide +kernel
theorem dX0_putTone_1 : decode cX0_putTone 1 = .ok (.getfield 9, 3) := by decide +kernel
theorem dX0_putTone_4 : decode cX0_putTone 4 = .ok (.iconst 4, 1) := by decide +kernel
theorem dX0_putTone_5 : decode cX0_putTone 5 = .ok (.iload_n 1, 1) := by decide +kernel
theorem dX0_putTone_6 : decode cX0_putTone 6 = .ok (.imul, 1) := by decide +kernel
theorem dX0_putTone_7 : decode cX0_putTone 7 = .ok (.iload_n 2, 1) := by decide +kernel
theorem dX0_putTone_8 : decode cX0_putTone 8 = .ok (.iadd, 1) := by decide +kernel
theorem dX0_putTone_9 : decode cX0_putTone 9 = .ok (.iload_n 3, 1) := by decide +kernel
theorem dX0_putTone_10 : decode cX0_putTone 10 = .ok (.iastore, 1) := by decide +kernel
theorem dX0_putTone_11 : decode cX0_putTone 11 = .ok (.aload_n 0, 1) := by decide +kernel
theorem dX0_putTone_12 : decode cX0_putTone 12 = .ok (.iload_n 1, 1) := by decide +kernel
theorem dX0_putTone_13 : decode cX0_putTone 13 = .ok (.invokevirtual 28, 3) := by decide +kernel
theorem dX0_putTone_16 : decode cX0_putTone 16 = .ok (.aload_n 0, 1) := by decide +kernel
theorem dX0_putTone_17 : decode cX0_putTone 17 = .ok (.iload_n 1, 1) := by decide +kernel
theorem dX0_putTone_18 : decode cX0_putTone 18 = .ok (.iconst 1, 1) := by decide +kernel
theorem dX0_putTone_19 : decode cX0_putTone 19 = .ok (.iadd, 1) := by decide +kernel
theorem dX0_putTone_20 : decode cX0_putTone 20 = .ok (.invokevirtual 28, 3) := by decide +kernel
theorem dX0_putTone_23 : decode cX0_putTone 23 = .ok (.return_, 1) := by decide +kernel
theorem dX0_ceiling_0 : decode cX0_ceiling 0 = .ok (.iload_n 2, 1) := by decide +kernel
theorem dX0_ceiling_1 : decode cX0_ceiling 1 = .ok (.ifCond .le 14, 3) := by decide +kernel
theorem dX0_ceiling_4 : decode cX0_ceiling 4 = .ok (.aload_n 0, 1) := by decide +kernel
theorem dX0_ceiling_5 : decode cX0_ceiling 5 = .ok (.iload_n 1, 1) := by decide +kernel
theorem dX0_ceiling_6 : decode cX0_ceiling 6 = .ok (.iload_n 2, 1) := by decide +kernel
theorem dX0_ceiling_7 : decode cX0_ceiling 7 = .ok (.iconst 1, 1) := by decide +kernel
theorem dX0_ceiling_8 : decode cX0_ceiling 8 = .ok (.isub, 1) := by decide +kernel
theorem dX0_ceiling_9 : decode cX0_ceiling 9 = .ok (.invokevirtual 32, 3) := by decide +kernel
theorem dX0_ceiling_12 : decode cX0_ceiling 12 = .ok (.goto 5, 3) := by decide +kernel
theorem dX0_ceiling_15 : decode cX0_ceiling 15 = .ok (.bipush 60, 2) := by decide +kernel
theorem dX0_ceiling_17 : decode cX0_ceiling 17 = .ok (.ireturn, 1) := by decide +kernel
theorem dX0_floor_0 : decode cX0_floor 0 = .ok (.iload_n 2, 1) := by decide +kernel
theorem dX0_floor_1 : decode cX0_floor 1 = .ok (.iconst 3, 1) := by decide +kernel
theorem dX0_floor_2 : decode cX0_floor 2 = .ok (.if_icmp .ge 14, 3) := by decide +kernel
theorem dX0_floor_5 : decode cX0_floor 5 = .ok (.aload_n 0, 1) := by decide +kernel
theorem dX0_floor_6 : decode cX0_floor 6 = .ok (.iload_n 1, 1) := by decide +kernel
theorem dX0_floor_7 : decode cX0_floor 7 = .ok (.iload_n 2, 1) := by decide +kernel
theorem dX0_floor_8 : decode cX0_floor 8 = .ok (.iconst 1, 1) := by decide +kernel
theorem dX0_floor_9 : decode cX0_floor 9 = .ok (.iadd, 1) := by decide +kernel
theorem dX0_floor_10 : decode cX0_floor 10 = .ok (.invokevirtual 32, 3) := by decide +kernel
theorem dX0_floor_13 : decode cX0_floor 13 = .ok (.goto 4, 3) := by decide +kernel
theorem dX0_floor_16 : decode cX0_floor 16 = .ok (.iconst 0, 1) := by decide +kernel
theorem dX0_floor_17 : decode cX0_floor 17 = .ok (.ireturn, 1) := by decide +kernel
theorem dX0_lowestTone_0 : decode cX0_lowestTone 0 = .ok (.bipush 60, 2) := by decide +kernel
theorem dX0_lowestTone_2 : decode cX0_lowestTone 2 = .ok (.istore_n 2, 1) := by decide +kernel
theorem dX0_lowestTone_3 : decode cX0_lowestTone 3 = .ok (.iconst 0, 1) := by decide +kernel
theorem dX0_lowestTone_4 : decode cX0_lowestTone 4 = .ok (.istore_n 3, 1) := by decide +kernel
theorem dX0_lowestTone_5 : decode cX0_lowestTone 5 = .ok (.iload_n 3, 1) := by decide +kernel
theorem dX0_lowestTone_6 : decode cX0_lowestTone 6 = .ok (.aload_n 0, 1) := by decide +kernel
theorem dX0_lowestTone_7 : decode cX0_lowestTone 7 = .ok (.getfield 21, 3) := by decide +kernel
theorem dX0_lowestTone_10 : decode cX0_lowestTone 10 = .ok (.if_icmp .ge 20, 3) := by decide +kernel
theorem dX0_lowestTone_13 : decode cX0_lowestTone 13 = .ok (.iload_n 2, 1) := by decide +kernel
theorem dX0_lowestTone_14 : decode cX0_lowestTone 14 = .ok (.aload_n 0, 1) := by decide +kernel
theorem dX0_lowestTone_15 : decode cX0_lowestTone 15 = .ok (.iload_n 3, 1) := by decide +kernel
theorem dX0_lowestTone_16 : decode cX0_lowestTone 16 = .ok (.iload_n 1, 1) := by decide +kernel
theorem dX0_lowestTone_17 : decode cX0_lowestTone 17 = .ok (.invokevirtual 32, 3) := by decide +kernel
theorem dX0_lowestTone_20 : decode cX0_lowestTone 20 = .ok (.invokestatic 36, 3) := by decide +kernel
theorem dX0_lowestTone_23 : decode cX0_lowestTone 23 = .ok (.istore_n 2, 1) := by decide +kernel
theorem dX0_lowestTone_24 : decode cX0_lowestTone 24 = .ok (.iinc 3 1, 3) := by decide +kernel
theorem dX0_lowestTone_27 : decode cX0_lowestTone 27 = .ok (.goto (-22), 3) := by decide +kernel
theorem dX0_lowestTone_30 : decode cX0_lowestTone 30 = .ok (.iload_n 2, 1) := by decide +kernel
theorem dX0_lowestTone_31 : decode cX0_lowestTone 31 = .ok (.ireturn, 1) := by decide +kernel
theorem dX0_highestTone_0 : decode cX0_highestTone 0 = .ok (.iconst 0, 1) := by decide +kernel
theorem dX0_highestTone_1 : decode cX0_highestTone 1 = .ok (.istore_n 2, 1) := by decide +kernel
theorem dX0_highestTone_2 : decode cX0_highestTone 2 = .ok (.iconst 0, 1) := by decide +kernel
theorem dX0_highestTone_3 : decode cX0_highestTone 3 = .ok (.istore_n 3, 1) := by decide +kernel
theorem dX0_highestTone_4 : decode cX0_highestTone 4 = .ok (.iload_n 3, 1) := by decide +kernel
theorem dX0_highestTone_5 : decode cX0_highestTone 5 = .ok (.aload_n 0, 1) := by decide +kernel
theorem dX0_highestTone_6 : decode cX0_highestTone 6 = .ok (.getfield 21, 3) := by decide +kernel
theorem dX0_highestTone_9 : decode cX0_highestTone 9 = .ok (.if_icmp .ge 20, 3) := by decide +kernel
theorem dX0_highestTone_12 : decode cX0_highestTone 12 = .ok (.iload_n 2, 1) := by decide +kernel
theorem dX0_highestTone_13 : decode cX0_highestTone 13 = .ok (.aload_n 0, 1) := by decide +kernel
theorem dX0_highestTone_14 : decode cX0_highestTone 14 = .ok (.iload_n 3, 1) := by decide +kernel
theorem dX0_highestTone_15 : decode cX0_highestTone 15 = .ok (.iload_n 1, 1) := by decide +kernel
theorem dX0_highestTone_16 : decode cX0_highestTone 16 = .ok (.invokevirtual 32, 3) := by decide +kernel
theorem dX0_highestTone_19 : decode cX0_highestTone 19 = .ok (.invokestatic 41, 3) := by decide +kernel
theorem dX0_highestTone_22 : decode cX0_highestTone 22 = .ok (.istore_n 2, 1) := by decide +kernel
theorem dX0_highestTone_23 : decode cX0_highestTone 23 = .ok (.iinc 3 1, 3) := by decide +kernel
theorem dX0_highestTone_26 : decode cX0_highestTone 26 = .ok (.goto (-22), 3) := by decide +kernel
theorem dX0_highestTone_29 : decode cX0_highestTone 29 = .ok (.iload_n 2, 1) := by decide +kernel
theorem dX0_highestTone_30 : decode cX0_highestTone 30 = .ok (.ireturn, 1) := by decide +kernel
theorem dX0_faultsInto_0 : decode cX0_faultsInto 0 = .ok (.aload_n 0, 1) := by decide +kernel
theorem dX0_faultsInto_1 : decode cX0_faultsInto 1 = .ok (.getfield 18, 3) := by decide +kernel
theorem dX0_faultsInto_4 : decode cX0_faultsInto 4 = .ok (.iload_n 1, 1) := by decide +kernel
theorem dX0_faultsInto_5 : decode cX0_faultsInto 5 = .ok (.iaload, 1) := by decide +kernel
theorem dX0_faultsInto_6 : decode cX0_faultsInto 6 = .ok (.ireturn, 1) := by decide +kernel
theorem dX0_faultSum_0 : decode cX0_faultSum 0 = .ok (.iconst 0, 1) := by decide +kernel
theorem dX0_faultSum_1 : decode cX0_faultSum 1 = .ok (.istore_n 1, 1) := by decide +kernel
theorem dX0_faultSum_2 : decode cX0_faultSum 2 = .ok (.iconst 1, 1) := by decide +kernel
theorem dX0_faultSum_3 : decode cX0_faultSum 3 = .ok (.istore_n 2, 1) := by decide +kernel
theorem dX0_faultSum_4 : decode cX0_faultSum 4 = .ok (.iload_n 2, 1) := by decide +kernel
theorem dX0_faultSum_5 : decode cX0_faultSum 5 = .ok (.aload_n 0, 1) := by decide +kernel
theorem dX0_faultSum_6 : decode cX0_faultSum 6 = .ok (.getfield 21, 3) := by decide +kernel
theorem dX0_faultSum_9 : decode cX0_faultSum 9 = .ok (.if_icmp .ge 18, 3) := by decide +kernel
theorem dX0_faultSum_12 : decode cX0_faultSum 12 = .ok (.iload_n 1, 1) := by decide +kernel
theorem dX0_faultSum_13 : decode cX0_faultSum 13 = .ok (.aload_n 0, 1) := by decide +kernel
theorem dX0_faultSum_14 : decode cX0_faultSum 14 = .ok (.getfield 18, 3) := by decide +kernel
theorem dX0_faultSum_17 : decode cX0_faultSum 17 = .ok (.iload_n 2, 1) := by decide +kernel
theorem dX0_faultSum_18 : decode cX0_faultSum 18 = .ok (.iaload, 1) := by decide +kernel
theorem dX0_faultSum_19 : decode cX0_faultSum 19 = .ok (.iadd, 1) := by decide +kernel
theorem dX0_faultSum_20 : decode cX0_faultSum 20 = .ok (.istore_n 1, 1) := by decide +kernel
theorem dX0_faultSum_21 : decode cX0_faultSum 21 = .ok (.iinc 2 1, 3) := by decide +kernel
theorem dX0_faultSum_24 : decode cX0_faultSum 24 = .ok (.goto (-20), 3) := by decide +kernel
theorem dX0_faultSum_27 : decode cX0_faultSum 27 = .ok (.iload_n 1, 1) := by decide +kernel
theorem dX0_faultSum_28 : decode cX0_faultSum 28 = .ok (.ireturn, 1) := by decide +kernel
theorem dX0_leastFaultSum_0 : decode cX0_leastFaultSum 0 = .ok (.aload_n 0, 1) := by decide +kernel
theorem dX0_leastFaultSum_1 : decode cX0_leastFaultSum 1 = .ok (.iload_n 1, 1) := by decide +kernel
theorem dX0_leastFaultSum_2 : decode cX0_leastFaultSum 2 = .ok (.iload_n 2, 1) := by decide +kernel
theorem dX0_leastFaultSum_3 : decode cX0_leastFaultSum 3 = .ok (.invokevirtual 32, 3) := by decide +kernel
theorem dX0_leastFaultSum_6 : decode cX0_leastFaultSum 6 = .ok (.istore_n 3, 1) := by decide +kernel
theorem dX0_leastFaultSum_7 : decode cX0_leastFaultSum 7 = .ok (.aload_n 0, 1) := by decide +kernel
theorem dX0_leastFaultSum_8 : decode cX0_leastFaultSum 8 = .ok (.iload_n 1, 1) := by decide +kernel
theorem dX0_leastFaultSum_9 : decode cX0_leastFaultSum 9 = .ok (.iload_n 2, 1) := by decide +kernel
theorem dX0_leastFaultSum_10 : decode cX0_leastFaultSum 10 = .ok (.invokevirtual 44, 3) := by decide +kernel
theorem dX0_leastFaultSum_13 : decode cX0_leastFaultSum 13 = .ok (.istore 4, 2) := by decide +kernel
theorem dX0_leastFaultSum_15 : decode cX0_leastFaultSum 15 = .ok (.aload_n 0, 1) := by decide +kernel
theorem dX0_leastFaultSum_16 : decode cX0_leastFaultSum 16 = .ok (.invokevirtual 47, 3) := by decide +kernel
theorem dX0_leastFaultSum_19 : decode cX0_leastFaultSum 19 = .ok (.istore 5, 2) := by decide +kernel
theorem dX0_leastFaultSum_21 : decode cX0_leastFaultSum 21 = .ok (.aload_n 0, 1) := by decide +kernel
theorem dX0_leastFaultSum_22 : decode cX0_leastFaultSum 22 = .ok (.iload_n 1, 1) := by decide +kernel
theorem dX0_leastFaultSum_23 : decode cX0_leastFaultSum 23 = .ok (.iload_n 2, 1) := by decide +kernel
theorem dX0_leastFaultSum_24 : decode cX0_leastFaultSum 24 = .ok (.invokevirtual 51, 3) := by decide +kernel
theorem dX0_leastFaultSum_27 : decode cX0_leastFaultSum 27 = .ok (.istore 6, 2) := by decide +kernel
theorem dX0_leastFaultSum_29 : decode cX0_leastFaultSum 29 = .ok (.iload 6, 2) := by decide +kernel
theorem dX0_leastFaultSum_31 : decode cX0_leastFaultSum 31 = .ok (.iload 4, 2) := by decide +kernel
theorem dX0_leastFaultSum_33 : decode cX0_leastFaultSum 33 = .ok (.if_icmp .gt 28, 3) := by decide +kernel
theorem dX0_leastFaultSum_36 : decode cX0_leastFaultSum 36 = .ok (.aload_n 0, 1) := by decide +kernel
theorem dX0_leastFaultSum_37 : decode cX0_leastFaultSum 37 = .ok (.iload_n 1, 1) := by decide +kernel
theorem dX0_leastFaultSum_38 : decode cX0_leastFaultSum 38 = .ok (.iload_n 2, 1) := by decide +kernel
theorem dX0_leastFaultSum_39 : decode cX0_leastFaultSum 39 = .ok (.iload 6, 2) := by decide +kernel
theorem dX0_leastFaultSum_41 : decode cX0_leastFaultSum 41 = .ok (.invokevirtual 54, 3) := by decide +kernel
theorem dX0_leastFaultSum_44 : decode cX0_leastFaultSum 44 = .ok (.iload 5, 2) := by decide +kernel
theorem dX0_leastFaultSum_46 : decode cX0_leastFaultSum 46 = .ok (.aload_n 0, 1) := by decide +kernel
theorem dX0_leastFaultSum_47 : decode cX0_leastFaultSum 47 = .ok (.invokevirtual 47, 3) := by decide +kernel
theorem dX0_leastFaultSum_50 : decode cX0_leastFaultSum 50 = .ok (.invokestatic 36, 3) := by decide +kernel
theorem dX0_leastFaultSum_53 : decode cX0_leastFaultSum 53 = .ok (.istore 5, 2) := by decide +kernel
theorem dX0_leastFaultSum_55 : decode cX0_leastFaultSum 55 = .ok (.iinc 6 1, 3) := by decide +kernel
theorem dX0_leastFaultSum_58 : decode cX0_leastFaultSum 58 = .ok (.goto (-29), 3) := by decide +kernel
theorem dX0_leastFaultSum_61 : decode cX0_leastFaultSum 61 = .ok (.aload_n 0, 1) := by decide +kernel
theorem dX0_leastFaultSum_62 : decode cX0_leastFaultSum 62 = .ok (.iload_n 1, 1) := by decide +kernel
theorem dX0_leastFaultSum_63 : decode cX0_leastFaultSum 63 = .ok (.iload_n 2, 1) := by decide +kernel
theorem dX0_leastFaultSum_64 : decode cX0_leastFaultSum 64 = .ok (.iload_n 3, 1) := by decide +kernel
theorem dX0_leastFaultSum_65 : decode cX0_leastFaultSum 65 = .ok (.invokevirtual 54, 3) := by decide +kernel
theorem dX0_leastFaultSum_68 : decode cX0_leastFaultSum 68 = .ok (.iload 5, 2) := by decide +kernel
theorem dX0_leastFaultSum_70 : decode cX0_leastFaultSum 70 = .ok (.ireturn, 1) := by decide +kernel
theorem dX0_weaknessOf_0 : decode cX0_weaknessOf 0 = .ok (.iconst 0, 1) := by decide +kernel
theorem dX0_weaknessOf_1 : decode cX0_weaknessOf 1 = .ok (.bipush 10, 2) := by decide +kernel
theorem dX0_weaknessOf_3 : decode cX0_weaknessOf 3 = .ok (.iconst 5, 1) := by decide +kernel
theorem dX0_weaknessOf_4 : decode cX0_weaknessOf 4 = .ok (.aload_n 0, 1) := by decide +kernel
theorem dX0_weaknessOf_5 : decode cX0_weaknessOf 5 = .ok (.getfield 18, 3) := by decide +kernel
theorem dX0_weaknessOf_8 : decode cX0_weaknessOf 8 = .ok (.iload_n 1, 1) := by decide +kernel
theorem dX0_weaknessOf_9 : decode cX0_weaknessOf 9 = .ok (.iaload, 1) := by decide +kernel
theorem dX0_weaknessOf_10 : decode cX0_weaknessOf 10 = .ok (.imul, 1) := by decide +kernel
theorem dX0_weaknessOf_11 : decode cX0_weaknessOf 11 = .ok (.iadd, 1) := by decide +kernel
theorem dX0_weaknessOf_12 : decode cX0_weaknessOf 12 = .ok (.aload_n 0, 1) := by decide +kernel
theorem dX0_weaknessOf_13 : decode cX0_weaknessOf 13 = .ok (.getfield 15, 3) := by decide +kernel
theorem dX0_weaknessOf_16 : decode cX0_weaknessOf 16 = .ok (.iload_n 1, 1) := by decide +kernel
theorem dX0_weaknessOf_17 : decode cX0_weaknessOf 17 = .ok (.iaload, 1) := by decide +kernel
theorem dX0_weaknessOf_18 : decode cX0_weaknessOf 18 = .ok (.isub, 1) := by decide +kernel
theorem dX0_weaknessOf_19 : decode cX0_weaknessOf 19 = .ok (.invokestatic 41, 3) := by decide +kernel
theorem dX0_weaknessOf_22 : decode cX0_weaknessOf 22 = .ok (.ireturn, 1) := by decide +kernel
theorem dX0_weaknessSum_0 : decode cX0_weaknessSum 0 = .ok (.iconst 0, 1) := by decide +kernel
theorem dX0_weaknessSum_1 : decode cX0_weaknessSum 1 = .ok (.istore_n 1, 1) := by decide +kernel
theorem dX0_weaknessSum_2 : decode cX0_weaknessSum 2 = .ok (.iconst 0, 1) := by decide +kernel
theorem dX0_weaknessSum_3 : decode cX0_weaknessSum 3 = .ok (.istore_n 2, 1) := by decide +kernel
theorem dX0_weaknessSum_4 : decode cX0_weaknessSum 4 = .ok (.iload_n 2, 1) := by decide +kernel
theorem dX0_weaknessSum_5 : decode cX0_weaknessSum 5 = .ok (.aload_n 0, 1) := by decide +kernel
theorem dX0_weaknessSum_6 : decode cX0_weaknessSum 6 = .ok (.getfield 21, 3) := by decide +kernel
theorem dX0_weaknessSum_9 : decode cX0_weaknessSum 9 = .ok (.if_icmp .ge 17, 3) := by decide +kernel
theorem dX0_weaknessSum_12 : decode cX0_weaknessSum 12 = .ok (.iload_n 1, 1) := by decide +kernel
theorem dX0_weaknessSum_13 : decode cX0_weaknessSum 13 = .ok (.aload_n 0, 1) := by decide +kernel
theorem dX0_weaknessSum_14 : decode cX0_weaknessSum 14 = .ok (.iload_n 2, 1) := by decide +kernel
theorem dX0_weaknessSum_15 : decode cX0_weaknessSum 15 = .ok (.invokevirtual 58, 3) := by decide +kernel
theorem dX0_weaknessSum_18 : decode cX0_weaknessSum 18 = .ok (.iadd, 1) := by decide +kernel
theorem dX0_weaknessSum_19 : decode cX0_weaknessSum 19 = .ok (.istore_n 1, 1) := by decide +kernel
theorem dX0_weaknessSum_20 : decode cX0_weaknessSum 20 = .ok (.iinc 2 1, 3) := by decide +kernel
theorem dX0_weaknessSum_23 : decode cX0_weaknessSum 23 = .ok (.goto (-19), 3) := by decide +kernel
theorem dX0_weaknessSum_26 : decode cX0_weaknessSum 26 = .ok (.iload_n 1, 1) := by decide +kernel
theorem dX0_weaknessSum_27 : decode cX0_weaknessSum 27 = .ok (.ireturn, 1) := by decide +kernel
theorem dX0_weakestChord_0 : decode cX0_weakestChord 0 = .ok (.iconst 0, 1) := by decide +kernel
theorem dX0_weakestChord_1 : decode cX0_weakestChord 1 = .ok (.istore_n 1, 1) := by decide +kernel
theorem dX0_weakestChord_2 : decode cX0_weakestChord 2 = .ok (.iconst 1, 1) := by decide +kernel
theorem dX0_weakestChord_3 : decode cX0_weakestChord 3 = .ok (.istore_n 2, 1) := by decide +kernel
theorem dX0_weakestChord_4 : decode cX0_weakestChord 4 = .ok (.iload_n 2, 1) := by decide +kernel
theorem dX0_weakestChord_5 : decode cX0_weakestChord 5 = .ok (.aload_n 0, 1) := by decide +kernel
theorem dX0_weakestChord_6 : decode cX0_weakestChord 6 = .ok (.getfield 21, 3) := by decide +kernel
theorem dX0_weakestChord_9 : decode cX0_weakestChord 9 = .ok (.if_icmp .ge 24, 3) := by decide +kernel
theorem dX0_weakestChord_12 : decode cX0_weakestChord 12 = .ok (.aload_n 0, 1) := by decide +kernel
theorem dX0_weakestChord_13 : decode cX0_weakestChord 13 = .ok (.iload_n 2, 1) := by decide +kernel
theorem dX0_weakestChord_14 : decode cX0_weakestChord 14 = .ok (.invokevirtual 58, 3) := by decide +kernel
theorem dX0_weakestChord_17 : decode cX0_weakestChord 17 = .ok (.aload_n 0, 1) := by decide +kernel
theorem dX0_weakestChord_18 : decode cX0_weakestChord 18 = .ok (.iload_n 1, 1) := by decide +kernel
theorem dX0_weakestChord_19 : decode cX0_weakestChord 19 = .ok (.invokevirtual 58, 3) := by decide +kernel
theorem dX0_weakestChord_22 : decode cX0_weakestChord 22 = .ok (.if_icmp .le 5, 3) := by decide +kernel
theorem dX0_weakestChord_25 : decode cX0_weakestChord 25 = .ok (.iload_n 2, 1) := by decide +kernel
theorem dX0_weakestChord_26 : decode cX0_weakestChord 26 = .ok (.istore_n 1, 1) := by decide +kernel
theorem dX0_weakestChord_27 : decode cX0_weakestChord 27 = .ok (.iinc 2 1, 3) := by decide +kernel
theorem dX0_weakestChord_30 : decode cX0_weakestChord 30 = .ok (.goto (-26), 3) := by decide +kernel
theorem dX0_weakestChord_33 : decode cX0_weakestChord 33 = .ok (.iload_n 1, 1) := by decide +kernel
theorem dX0_weakestChord_34 : decode cX0_weakestChord 34 = .ok (.ireturn, 1) := by decide +kernel
theorem dX0_practiseWeakest_0 : decode cX0_practiseWeakest 0 = .ok (.aload_n 0, 1) := by decide +kernel
theorem dX0_practiseWeakest_1 : decode cX0_practiseWeakest 1 = .ok (.getfield 15, 3) := by decide +kernel
theorem dX0_practiseWeakest_4 : decode cX0_practiseWeakest 4 = .ok (.aload_n 0, 1) := by decide +kernel
theorem dX0_practiseWeakest_5 : decode cX0_practiseWeakest 5 = .ok (.invokevirtual 62, 3) := by decide +kernel
theorem dX0_practiseWeakest_8 : decode cX0_practiseWeakest 8 = .ok (.dup2, 1) := by decide +kernel
theorem dX0_practiseWeakest_9 : decode cX0_practiseWeakest 9 = .ok (.iaload, 1) := by decide +kernel
theorem dX0_practiseWeakest_10 : decode cX0_practiseWeakest 10 = .ok (.iconst 4, 1) := by decide +kernel
theorem dX0_practiseWeakest_11 : decode cX0_practiseWeakest 11 = .ok (.iadd, 1) := by decide +kernel
theorem dX0_practiseWeakest_12 : decode cX0_practiseWeakest 12 = .ok (.iastore, 1) := by decide +kernel
theorem dX0_practiseWeakest_13 : decode cX0_practiseWeakest 13 = .ok (.return_, 1) := by decide +kernel
theorem dX0_countMoveFaults_0 : decode cX0_countMoveFaults 0 = .ok (.iload_n 1, 1) := by decide +kernel
theorem dX0_countMoveFaults_1 : decode cX0_countMoveFaults 1 = .ok (.iconst 1, 1) := by decide +kernel
theorem dX0_countMoveFaults_2 : decode cX0_countMoveFaults 2 = .ok (.if_icmp .lt 11, 3) := by decide +kernel
theorem dX0_countMoveFaults_5 : decode cX0_countMoveFaults 5 = .ok (.iload_n 1, 1) := by decide +kernel
theorem dX0_countMoveFaults_6 : decode cX0_countMoveFaults 6 = .ok (.aload_n 0, 1) := by decide +kernel
theorem dX0_countMoveFaults_7 : decode cX0_countMoveFaults 7 = .ok (.getfield 21, 3) := by decide +kernel
theorem dX0_countMoveFaults_10 : decode cX0_countMoveFaults 10 = .ok (.if_icmp .lt 4, 3) := by decide +kernel
theorem dX0_countMoveFaults_13 : decode cX0_countMoveFaults 13 = .ok (.return_, 1) := by decide +kernel
theorem dX0_countMoveFaults_14 : decode cX0_countMoveFaults 14 = .ok (.iconst 0, 1) := by decide +kernel
theorem dX0_countMoveFaults_15 : decode cX0_countMoveFaults 15 = .ok (.istore_n 2, 1) := by decide +kernel
theorem dX0_countMoveFaults_16 : decode cX0_countMoveFaults 16 = .ok (.iconst 0, 1) := by decide +kernel
theorem dX0_countMoveFaults_17 : decode cX0_countMoveFaults 17 = .ok (.istore_n 3, 1) := by decide +kernel
theorem dX0_countMoveFaults_18 : decode cX0_countMoveFaults 18 = .ok (.iload_n 3, 1) := by decide +kernel
theorem dX0_countMoveFaults_19 : decode cX0_countMoveFaults 19 = .ok (.iconst 4, 1) := by decide +kernel
theorem dX0_countMoveFaults_20 : decode cX0_countMoveFaults 20 = .ok (.if_icmp .ge 57, 3) := by decide +kernel
theorem dX0_countMoveFaults_23 : decode cX0_countMoveFaults 23 = .ok (.aload_n 0, 1) := by decide +kernel
theorem dX0_countMoveFaults_24 : decode cX0_countMoveFaults 24 = .ok (.iload_n 1, 1) := by decide +kernel
theorem dX0_countMoveFaults_25 : decode cX0_countMoveFaults 25 = .ok (.iload_n 3, 1) := by decide +kernel
theorem dX0_countMoveFaults_26 : decode cX0_countMoveFaults 26 = .ok (.invokevirtual 65, 3) := by decide +kernel
theorem dX0_countMoveFaults_29 : decode cX0_countMoveFaults 29 = .ok (.invokestatic 68, 3) := by decide +kernel
theorem dX0_countMoveFaults_32 : decode cX0_countMoveFaults 32 = .ok (.bipush 7, 2) := by decide +kernel
theorem dX0_countMoveFaults_34 : decode cX0_countMoveFaults 34 = .ok (.if_icmp .le 6, 3) := by decide +kernel
theorem dX0_countMoveFaults_37 : decode cX0_countMoveFaults 37 = .ok (.iinc 2 1, 3) := by decide +kernel
theorem dX0_countMoveFaults_40 : decode cX0_countMoveFaults 40 = .ok (.iload_n 3, 1) := by decide +kernel
theorem dX0_countMoveFaults_41 : decode cX0_countMoveFaults 41 = .ok (.iconst 1, 1) := by decide +kernel
theorem dX0_countMoveFaults_42 : decode cX0_countMoveFaults 42 = .ok (.iadd, 1) := by decide +kernel
theorem dX0_countMoveFaults_43 : decode cX0_countMoveFaults 43 = .ok (.istore 4, 2) := by decide +kernel
theorem dX0_countMoveFaults_45 : decode cX0_countMoveFaults 45 = .ok (.iload 4, 2) := by decide +kernel
theorem dX0_countMoveFaults_47 : decode cX0_countMoveFaults 47 = .ok (.iconst 4, 1) := by decide +kernel
theorem dX0_countMoveFaults_48 : decode cX0_countMoveFaults 48 = .ok (.if_icmp .ge 23, 3) := by decide +kernel
theorem dX0_countMoveFaults_51 : decode cX0_countMoveFaults 51 = .ok (.aload_n 0, 1) := by decide +kernel
theorem dX0_countMoveFaults_52 : decode cX0_countMoveFaults 52 = .ok (.iload_n 1, 1) := by decide +kernel
theorem dX0_countMoveFaults_53 : decode cX0_countMoveFaults 53 = .ok (.iload_n 3, 1) := by decide +kernel
theorem dX0_countMoveFaults_54 : decode cX0_countMoveFaults 54 = .ok (.iload 4, 2) := by decide +kernel
theorem dX0_countMoveFaults_56 : decode cX0_countMoveFaults 56 = .ok (.invokevirtual 71, 3) := by decide +kernel
theorem dX0_countMoveFaults_59 : decode cX0_countMoveFaults 59 = .ok (.ifCond .eq 6, 3) := by decide +kernel
theorem dX0_countMoveFaults_62 : decode cX0_countMoveFaults 62 = .ok (.iinc 2 3, 3) := by decide +kernel
theorem dX0_countMoveFaults_65 : decode cX0_countMoveFaults 65 = .ok (.iinc 4 1, 3) := by decide +kernel
theorem dX0_countMoveFaults_68 : decode cX0_countMoveFaults 68 = .ok (.goto (-23), 3) := by decide +kernel
theorem dX0_countMoveFaults_71 : decode cX0_countMoveFaults 71 = .ok (.iinc 3 1, 3) := by decide +kernel
theorem dX0_countMoveFaults_74 : decode cX0_countMoveFaults 74 = .ok (.goto (-56), 3) := by decide +kernel
theorem dX0_countMoveFaults_77 : decode cX0_countMoveFaults 77 = .ok (.aload_n 0, 1) := by decide +kernel
theorem dX0_countMoveFaults_78 : decode cX0_countMoveFaults 78 = .ok (.getfield 18, 3) := by decide +kernel
theorem dX0_countMoveFaults_81 : decode cX0_countMoveFaults 81 = .ok (.iload_n 1, 1) := by decide +kernel
theorem dX0_countMoveFaults_82 : decode cX0_countMoveFaults 82 = .ok (.iload_n 2, 1) := by decide +kernel
theorem dX0_countMoveFaults_83 : decode cX0_countMoveFaults 83 = .ok (.iastore, 1) := by decide +kernel
theorem dX0_countMoveFaults_84 : decode cX0_countMoveFaults 84 = .ok (.return_, 1) := by decide +kernel
theorem dX0_stepInto_0 : decode cX0_stepInto 0 = .ok (.aload_n 0, 1) := by decide +kernel
theorem dX0_stepInto_1 : decode cX0_stepInto 1 = .ok (.iload_n 1, 1) := by decide +kernel
theorem dX0_stepInto_2 : decode cX0_stepInto 2 = .ok (.iload_n 2, 1) := by decide +kernel
theorem dX0_stepInto_3 : decode cX0_stepInto 3 = .ok (.invokevirtual 32, 3) := by decide +kernel
theorem dX0_stepInto_6 : decode cX0_stepInto 6 = .ok (.aload_n 0, 1) := by decide +kernel
theorem dX0_stepInto_7 : decode cX0_stepInto 7 = .ok (.iload_n 1, 1) := by decide +kernel
theorem dX0_stepInto_8 : decode cX0_stepInto 8 = .ok (.iconst 1, 1) := by decide +kernel
theorem dX0_stepInto_9 : decode cX0_stepInto 9 = .ok (.isub, 1) := by decide +kernel
theorem dX0_stepInto_10 : decode cX0_stepInto 10 = .ok (.iload_n 2, 1) := by decide +kernel
theorem dX0_stepInto_11 : decode cX0_stepInto 11 = .ok (.invokevirtual 32, 3) := by decide +kernel
theorem dX0_stepInto_14 : decode cX0_stepInto 14 = .ok (.isub, 1) := by decide +kernel
theorem dX0_stepInto_15 : decode cX0_stepInto 15 = .ok (.ireturn, 1) := by decide +kernel
theorem dX0_isParallel_0 : decode cX0_isParallel 0 = .ok (.aload_n 0, 1) := by decide +kernel
theorem dX0_isParallel_1 : decode cX0_isParallel 1 = .ok (.iload_n 1, 1) := by decide +kernel
theorem dX0_isParallel_2 : decode cX0_isParallel 2 = .ok (.iload_n 2, 1) := by decide +kernel
theorem dX0_isParallel_3 : decode cX0_isParallel 3 = .ok (.invokevirtual 65, 3) := by decide +kernel
theorem dX0_isParallel_6 : decode cX0_isParallel 6 = .ok (.istore 4, 2) := by decide +kernel
theorem dX0_isParallel_8 : decode cX0_isParallel 8 = .ok (.iload 4, 2) := by decide +kernel
theorem dX0_isParallel_10 : decode cX0_isParallel 10 = .ok (.ifCond .eq 37, 3) := by decide +kernel
theorem dX0_isParallel_13 : decode cX0_isParallel 13 = .ok (.iload 4, 2) := by decide +kernel
theorem dX0_isParallel_15 : decode cX0_isParallel 15 = .ok (.aload_n 0, 1) := by decide +kernel
theorem dX0_isParallel_16 : decode cX0_isParallel 16 = .ok (.iload_n 1, 1) := by decide +kernel
theorem dX0_isParallel_17 : decode cX0_isParallel 17 = .ok (.iload_n 3, 1) := by decide +kernel
theorem dX0_isParallel_18 : decode cX0_isParallel 18 = .ok (.invokevirtual 65, 3) := by decide +kernel
theorem dX0_isParallel_21 : decode cX0_isParallel 21 = .ok (.if_icmp .ne 26, 3) := by decide +kernel
theorem dX0_isParallel_24 : decode cX0_isParallel 24 = .ok (.aload_n 0, 1) := by decide +kernel
theorem dX0_isParallel_25 : decode cX0_isParallel 25 = .ok (.iload_n 1, 1) := by decide +kernel
theorem dX0_isParallel_26 : decode cX0_isParallel 26 = .ok (.iload_n 2, 1) := by decide +kernel
theorem dX0_isParallel_27 : decode cX0_isParallel 27 = .ok (.invokevirtual 32, 3) := by decide +kernel
theorem dX0_isParallel_30 : decode cX0_isParallel 30 = .ok (.aload_n 0, 1) := by decide +kernel
theorem dX0_isParallel_31 : decode cX0_isParallel 31 = .ok (.iload_n 1, 1) := by decide +kernel
theorem dX0_isParallel_32 : decode cX0_isParallel 32 = .ok (.iload_n 3, 1) := by decide +kernel
theorem dX0_isParallel_33 : decode cX0_isParallel 33 = .ok (.invokevirtual 32, 3) := by decide +kernel
theorem dX0_isParallel_36 : decode cX0_isParallel 36 = .ok (.isub, 1) := by decide +kernel
theorem dX0_isParallel_37 : decode cX0_isParallel 37 = .ok (.invokestatic 75, 3) := by decide +kernel
theorem dX0_isParallel_40 : decode cX0_isParallel 40 = .ok (.ifCond .eq 7, 3) := by decide +kernel
theorem dX0_isParallel_43 : decode cX0_isParallel 43 = .ok (.iconst 1, 1) := by decide +kernel
theorem dX0_isParallel_44 : decode cX0_isParallel 44 = .ok (.goto 4, 3) := by decide +kernel
theorem dX0_isParallel_47 : decode cX0_isParallel 47 = .ok (.iconst 0, 1) := by decide +kernel
theorem dX0_isParallel_48 : decode cX0_isParallel 48 = .ok (.ireturn, 1) := by decide +kernel
theorem dX0_isTold_0 : decode cX0_isTold 0 = .ok (.iload_n 0, 1) := by decide +kernel
theorem dX0_isTold_1 : decode cX0_isTold 1 = .ok (.bipush 12, 2) := by decide +kernel
theorem dX0_isTold_3 : decode cX0_isTold 3 = .ok (.irem, 1) := by decide +kernel
theorem dX0_isTold_4 : decode cX0_isTold 4 = .ok (.istore_n 1, 1) := by decide +kernel
theorem dX0_isTold_5 : decode cX0_isTold 5 = .ok (.iload_n 1, 1) := by decide +kernel
theorem dX0_isTold_6 : decode cX0_isTold 6 = .ok (.ifCond .eq 9, 3) := by decide +kernel
theorem dX0_isTold_9 : decode cX0_isTold 9 = .ok (.iload_n 1, 1) := by decide +kernel
theorem dX0_isTold_10 : decode cX0_isTold 10 = .ok (.bipush 7, 2) := by decide +kernel
theorem dX0_isTold_12 : decode cX0_isTold 12 = .ok (.if_icmp .ne 7, 3) := by decide +kernel
theorem dX0_isTold_15 : decode cX0_isTold 15 = .ok (.iconst 1, 1) := by decide +kernel
theorem dX0_isTold_16 : decode cX0_isTold 16 = .ok (.goto 4, 3) := by decide +kernel
theorem dX0_isTold_19 : decode cX0_isTold 19 = .ok (.iconst 0, 1) := by decide +kernel
theorem dX0_isTold_20 : decode cX0_isTold 20 = .ok (.ireturn, 1) := by decide +kernel
theorem dX1_init_0 : decode cX1_init 0 = .ok (.aload_n 0, 1) := by decide +kernel
theorem dX1_init_1 : decode cX1_init 1 = .ok (.invokespecial 3, 3) := by decide +kernel
theorem dX1_init_4 : decode cX1_init 4 = .ok (.aload_n 0, 1) := by decide +kernel
theorem dX1_init_5 : decode cX1_init 5 = .ok (.bipush 12, 2) := by decide +kernel
theorem dX1_init_7 : decode cX1_init 7 = .ok (.newarray .int, 2) := by decide +kernel
theorem dX1_init_9 : decode cX1_init 9 = .ok (.putfield 9, 3) := by decide +kernel
theorem dX1_init_12 : decode cX1_init 12 = .ok (.aload_n 0, 1) := by decide +kernel
theorem dX1_init_13 : decode cX1_init 13 = .ok (.bipush 12, 2) := by decide +kernel
theorem dX1_init_15 : decode cX1_init 15 = .ok (.newarray .int, 2) := by decide +kernel
theorem dX1_init_17 : decode cX1_init 17 = .ok (.putfield 15, 3) := by decide +kernel
theorem dX1_init_20 : decode cX1_init 20 = .ok (.aload_n 0, 1) := by decide +kernel
theorem dX1_init_21 : decode cX1_init 21 = .ok (.bipush 12, 2) := by decide +kernel
theorem dX1_init_23 : decode cX1_init 23 = .ok (.newarray .int, 2) := by decide +kernel
theorem dX1_init_25 : decode cX1_init 25 = .ok (.putfield 18, 3) := by decide +kernel
theorem dX1_init_28 : decode cX1_init 28 = .ok (.aload_n 0, 1) := by decide +kernel
theorem dX1_init_29 : decode cX1_init 29 = .ok (.bipush 12, 2) := by decide +kernel
theorem dX1_init_31 : decode cX1_init 31 = .ok (.newarray .int, 2) := by decide +kernel
theorem dX1_init_33 : decode cX1_init 33 = .ok (.putfield 21, 3) := by decide +kernel
theorem dX1_init_36 : decode cX1_init 36 = .ok (.return_, 1) := by decide +kernel
theorem dX1_isFull_0 : decode cX1_isFull 0 = .ok (.aload_n 0, 1) := by decide +kernel
theorem dX1_isFull_1 : decode cX1_isFull 1 = .ok (.getfield 24, 3) := by decide +kernel
theorem dX1_isFull_4 : decode cX1_isFull 4 = .ok (.bipush 12, 2) := by decide +kernel
theorem dX1_isFull_6 : decode cX1_isFull 6 = .ok (.if_icmp .lt 7, 3) := by decide +kernel
theorem dX1_isFull_9 : decode cX1_isFull 9 = .ok (.iconst 1, 1) := by decide +kernel
theorem dX1_isFull_10 : decode cX1_isFull 10 = .ok (.goto 4, 3) := by decide +kernel
theorem dX1_isFull_13 : decode cX1_isFull 13 = .ok (.iconst 0, 1) := by decide +kernel
theorem dX1_isFull_14 : decode cX1_isFull 14 = .ok (.ireturn, 1) := by decide +kernel
theorem dX1_has_0 : decode cX1_has 0 = .ok (.iload_n 1, 1) := by decide +kernel
theorem dX1_has_1 : decode cX1_has 1 = .ok (.ifCond .lt 15, 3) := by decide +kernel
theorem dX1_has_4 : decode cX1_has 4 = .ok (.iload_n 1, 1) := by decide +kernel
theorem dX1_has_5 : decode cX1_has 5 = .ok (.aload_n 0, 1) := by decide +kernel
theorem dX1_has_6 : decode cX1_has 6 = .ok (.getfield 24, 3) := by decide +kernel
theorem dX1_has_9 : decode cX1_has 9 = .ok (.if_icmp .ge 7, 3) := by decide +kernel
theorem dX1_has_12 : decode cX1_has 12 = .ok (.iconst 1, 1) := by decide +kernel
theorem dX1_has_13 : decode cX1_has 13 = .ok (.goto 4, 3) := by decide +kernel
theorem dX1_has_16 : decode cX1_has 16 = .ok (.iconst 0, 1) := by decide +kernel
theorem dX1_has_17 : decode cX1_has 17 = .ok (.ireturn, 1) := by decide +kernel
theorem dX1_add_0 : decode cX1_add 0 = .ok (.aload_n 0, 1) := by decide +kernel
theorem dX1_add_1 : decode cX1_add 1 = .ok (.getfield 24, 3) := by decide +kernel
theorem dX1_add_4 : decode cX1_add 4 = .ok (.istore 4, 2) := by decide +kernel
theorem dX1_add_6 : decode cX1_add 6 = .ok (.aload_n 0, 1) := by decide +kernel
theorem dX1_add_7 : decode cX1_add 7 = .ok (.getfield 9, 3) := by decide +kernel
theorem dX1_add_10 : decode cX1_add 10 = .ok (.iload 4, 2) := by decide +kernel
theorem dX1_add_12 : decode cX1_add 12 = .ok (.iload_n 1, 1) := by decide +kernel
theorem dX1_add_13 : decode cX1_add 13 = .ok (.iastore, 1) := by decide +kernel
theorem dX1_add_14 : decode cX1_add 14 = .ok (.aload_n 0, 1) := by decide +kernel
theorem dX1_add_15 : decode cX1_add 15 = .ok (.getfield 15, 3) := by decide +kernel
theorem dX1_add_18 : decode cX1_add 18 = .ok (.iload 4, 2) := by decide +kernel
theorem dX1_add_20 : decode cX1_add 20 = .ok (.iload_n 2, 1) := by decide +kernel
theorem dX1_add_21 : decode cX1_add 21 = .ok (.iastore, 1) := by decide +kernel
theorem dX1_add_22 : decode cX1_add 22 = .ok (.aload_n 0, 1) := by decide +kernel
theorem dX1_add_23 : decode cX1_add 23 = .ok (.getfield 18, 3) := by decide +kernel
theorem dX1_add_26 : decode cX1_add 26 = .ok (.iload 4, 2) := by decide +kernel
theorem dX1_add_28 : decode cX1_add 28 = .ok (.iload_n 3, 1) := by decide +kernel
theorem dX1_add_29 : decode cX1_add 29 = .ok (.iastore, 1) := by decide +kernel
theorem dX1_add_30 : decode cX1_add 30 = .ok (.aload_n 0, 1) := by decide +kernel
theorem dX1_add_31 : decode cX1_add 31 = .ok (.dup, 1) := by decide +kernel
theorem dX1_add_32 : decode cX1_add 32 = .ok (.getfield 24, 3) := by decide +kernel
theorem dX1_add_35 : decode cX1_add 35 = .ok (.iconst 1, 1) := by decide +kernel
theorem dX1_add_36 : decode cX1_add 36 = .ok (.iadd, 1) := by decide +kernel
theorem dX1_add_37 : decode cX1_add 37 = .ok (.putfield 24, 3) := by decide +kernel
theorem dX1_add_40 : decode cX1_add 40 = .ok (.iload 4, 2) := by decide +kernel
theorem dX1_add_42 : decode cX1_add 42 = .ok (.ireturn, 1) := by decide +kernel
theorem dX1_replaceVoice_0 : decode cX1_replaceVoice 0 = .ok (.aload_n 0, 1) := by decide +kernel
theorem dX1_replaceVoice_1 : decode cX1_replaceVoice 1 = .ok (.getfield 9, 3) := by decide +kernel
theorem dX1_replaceVoice_4 : decode cX1_replaceVoice 4 = .ok (.iload_n 1, 1) := by decide +kernel
theorem dX1_replaceVoice_5 : decode cX1_replaceVoice 5 = .ok (.iaload, 1) := by decide +kernel
theorem dX1_replaceVoice_6 : decode cX1_replaceVoice 6 = .ok (.istore_n 3, 1) := by decide +kernel
theorem dX1_replaceVoice_7 : decode cX1_replaceVoice 7 = .ok (.aload_n 0, 1) := by decide +kernel
theorem dX1_replaceVoice_8 : decode cX1_replaceVoice 8 = .ok (.getfield 9, 3) := by decide +kernel
theorem dX1_replaceVoice_11 : decode cX1_replaceVoice 11 = .ok (.iload_n 1, 1) := by decide +kernel
theorem dX1_replaceVoice_12 : decode cX1_replaceVoice 12 = .ok (.iload_n 2, 1) := by decide +kernel
theorem dX1_replaceVoice_13 : decode cX1_replaceVoice 13 = .ok (.iastore, 1) := by decide +kernel
theorem dX1_replaceVoice_14 : decode cX1_replaceVoice 14 = .ok (.iload_n 3, 1) := by decide +kernel
theorem dX1_replaceVoice_15 : decode cX1_replaceVoice 15 = .ok (.ireturn, 1) := by decide +kernel
theorem dX1_isThere_0 : decode cX1_isThere 0 = .ok (.aload_n 0, 1) := by decide +kernel
theorem dX1_isThere_1 : decode cX1_isThere 1 = .ok (.getfield 21, 3) := by decide +kernel
theorem dX1_isThere_4 : decode cX1_isThere 4 = .ok (.iload_n 1, 1) := by decide +kernel
theorem dX1_isThere_5 : decode cX1_isThere 5 = .ok (.iaload, 1) := by decide +kernel
theorem dX1_isThere_6 : decode cX1_isThere 6 = .ok (.iload_n 2, 1) := by decide +kernel
theorem dX1_isThere_7 : decode cX1_isThere 7 = .ok (.ishr, 1) := by decide +kernel
theorem dX1_isThere_8 : decode cX1_isThere 8 = .ok (.iconst 1, 1) := by decide +kernel
theorem dX1_isThere_9 : decode cX1_isThere 9 = .ok (.iand, 1) := by decide +kernel
theorem dX1_isThere_10 : decode cX1_isThere 10 = .ok (.ifCond .ne 7, 3) := by decide +kernel
theorem dX1_isThere_13 : decode cX1_isThere 13 = .ok (.iconst 1, 1) := by decide +kernel
theorem dX1_isThere_14 : decode cX1_isThere 14 = .ok (.goto 4, 3) := by decide +kernel
theorem dX1_isThere_17 : decode cX1_isThere 17 = .ok (.iconst 0, 1) := by decide +kernel
theorem dX1_isThere_18 : decode cX1_isThere 18 = .ok (.ireturn, 1) := by decide +kernel
theorem dX1_putThere_0 : decode cX1_putThere 0 = .ok (.iconst 1, 1) := by decide +kernel
theorem dX1_putThere_1 : decode cX1_putThere 1 = .ok (.iload_n 2, 1) := by decide +kernel
theorem dX1_putThere_2 : decode cX1_putThere 2 = .ok (.ishl, 1) := by decide +kernel
theorem dX1_putThere_3 : decode cX1_putThere 3 = .ok (.istore 4, 2) := by decide +kernel
theorem dX1_putThere_5 : decode cX1_putThere 5 = .ok (.aload_n 0, 1) := by decide +kernel
theorem dX1_putThere_6 : decode cX1_putThere 6 = .ok (.getfield 21, 3) := by decide +kernel
theorem dX1_putThere_9 : decode cX1_putThere 9 = .ok (.iload_n 1, 1) := by decide +kernel
theorem dX1_putThere_10 : decode cX1_putThere 10 = .ok (.iload_n 3, 1) := by decide +kernel
theorem dX1_putThere_11 : decode cX1_putThere 11 = .ok (.ifCond .eq 17, 3) := by decide +kernel
theorem dX1_putThere_14 : decode cX1_putThere 14 = .ok (.aload_n 0, 1) := by decide +kernel
theorem dX1_putThere_15 : decode cX1_putThere 15 = .ok (.getfield 21, 3) := by decide +kernel
theorem dX1_putThere_18 : decode cX1_putThere 18 = .ok (.iload_n 1, 1) := by decide +kernel
theorem dX1_putThere_19 : decode cX1_putThere 19 = .ok (.iaload, 1) := by decide +kernel
theorem dX1_putThere_20 : decode cX1_putThere 20 = .ok (.iload 4, 2) := by decide +kernel
theorem dX1_putThere_22 : decode cX1_putThere 22 = .ok (.iconst (-1), 1) := by decide +kernel
theorem dX1_putThere_23 : decode cX1_putThere 23 = .ok (.ixor, 1) := by decide +kernel
theorem dX1_putThere_24 : decode cX1_putThere 24 = .ok (.iand, 1) := by decide +kernel
theorem dX1_putThere_25 : decode cX1_putThere 25 = .ok (.goto 12, 3) := by decide +kernel
theorem dX1_putThere_28 : decode cX1_putThere 28 = .ok (.aload_n 0, 1) := by decide +kernel
theorem dX1_putThere_29 : decode cX1_putThere 29 = .ok (.getfield 21, 3) := by decide +kernel
theorem dX1_putThere_32 : decode cX1_putThere 32 = .ok (.iload_n 1, 1) := by decide +kernel
theorem dX1_putThere_33 : decode cX1_putThere 33 = .ok (.iaload, 1) := by decide +kernel
theorem dX1_putThere_34 : decode cX1_putThere 34 = .ok (.iload 4, 2) := by decide +kernel
theorem dX1_putThere_36 : decode cX1_putThere 36 = .ok (.ior, 1) := by decide +kernel
theorem dX1_putThere_37 : decode cX1_putThere 37 = .ok (.iastore, 1) := by decide +kernel
theorem dX1_putThere_38 : decode cX1_putThere 38 = .ok (.return_, 1) := by decide +kernel
theorem dX1_firstTone_0 : decode cX1_firstTone 0 = .ok (.iconst 0, 1) := by decide +kernel
theorem dX1_firstTone_1 : decode cX1_firstTone 1 = .ok (.istore_n 3, 1) := by decide +kernel
theorem dX1_firstTone_2 : decode cX1_firstTone 2 = .ok (.iconst 0, 1) := by decide +kernel
theorem dX1_firstTone_3 : decode cX1_firstTone 3 = .ok (.istore 4, 2) := by decide +kernel
theorem dX1_firstTone_5 : decode cX1_firstTone 5 = .ok (.iload 4, 2) := by decide +kernel
theorem dX1_firstTone_7 : decode cX1_firstTone 7 = .ok (.aload_n 0, 1) := by decide +kernel
theorem dX1_firstTone_8 : decode cX1_firstTone 8 = .ok (.getfield 24, 3) := by decide +kernel
theorem dX1_firstTone_11 : decode cX1_firstTone 11 = .ok (.if_icmp .ge 32, 3) := by decide +kernel
theorem dX1_firstTone_14 : decode cX1_firstTone 14 = .ok (.aload_n 0, 1) := by decide +kernel
theorem dX1_firstTone_15 : decode cX1_firstTone 15 = .ok (.iload 4, 2) := by decide +kernel
theorem dX1_firstTone_17 : decode cX1_firstTone 17 = .ok (.iload_n 1, 1) := by decide +kernel
theorem dX1_firstTone_18 : decode cX1_firstTone 18 = .ok (.iload_n 2, 1) := by decide +kernel
theorem dX1_firstTone_19 : decode cX1_firstTone 19 = .ok (.invokevirtual 28, 3) := by decide +kernel
theorem dX1_firstTone_22 : decode cX1_firstTone 22 = .ok (.ifCond .eq 15, 3) := by decide +kernel
theorem dX1_firstTone_25 : decode cX1_firstTone 25 = .ok (.iload_n 3, 1) := by decide +kernel
theorem dX1_firstTone_26 : decode cX1_firstTone 26 = .ok (.aload_n 0, 1) := by decide +kernel
theorem dX1_firstTone_27 : decode cX1_firstTone 27 = .ok (.getfield 15, 3) := by decide +kernel
theorem dX1_firstTone_30 : decode cX1_firstTone 30 = .ok (.iload 4, 2) := by decide +kernel
theorem dX1_firstTone_32 : decode cX1_firstTone 32 = .ok (.iaload, 1) := by decide +kernel
theorem dX1_firstTone_33 : decode cX1_firstTone 33 = .ok (.invokestatic 32, 3) := by decide +kernel
theorem dX1_firstTone_36 : decode cX1_firstTone 36 = .ok (.istore_n 3, 1) := by decide +kernel
theorem dX1_firstTone_37 : decode cX1_firstTone 37 = .ok (.iinc 4 1, 3) := by decide +kernel
theorem dX1_firstTone_40 : decode cX1_firstTone 40 = .ok (.goto (-35), 3) := by decide +kernel
theorem dX1_firstTone_43 : decode cX1_firstTone 43 = .ok (.iload_n 3, 1) := by decide +kernel
theorem dX1_firstTone_44 : decode cX1_firstTone 44 = .ok (.ireturn, 1) := by decide +kernel
theorem dX1_lastTone_0 : decode cX1_lastTone 0 = .ok (.iconst (-1), 1) := by decide +kernel
theorem dX1_lastTone_1 : decode cX1_lastTone 1 = .ok (.istore_n 3, 1) := by decide +kernel
theorem dX1_lastTone_2 : decode cX1_lastTone 2 = .ok (.iconst 0, 1) := by decide +kernel
theorem dX1_lastTone_3 : decode cX1_lastTone 3 = .ok (.istore 4, 2) := by decide +kernel
theorem dX1_lastTone_5 : decode cX1_lastTone 5 = .ok (.iload 4, 2) := by decide +kernel
theorem dX1_lastTone_7 : decode cX1_lastTone 7 = .ok (.aload_n 0, 1) := by decide +kernel
theorem dX1_lastTone_8 : decode cX1_lastTone 8 = .ok (.getfield 24, 3) := by decide +kernel
theorem dX1_lastTone_11 : decode cX1_lastTone 11 = .ok (.if_icmp .ge 46, 3) := by decide +kernel
theorem dX1_lastTone_14 : decode cX1_lastTone 14 = .ok (.aload_n 0, 1) := by decide +kernel
theorem dX1_lastTone_15 : decode cX1_lastTone 15 = .ok (.iload 4, 2) := by decide +kernel
theorem dX1_lastTone_17 : decode cX1_lastTone 17 = .ok (.iload_n 1, 1) := by decide +kernel
theorem dX1_lastTone_18 : decode cX1_lastTone 18 = .ok (.iload_n 2, 1) := by decide +kernel
theorem dX1_lastTone_19 : decode cX1_lastTone 19 = .ok (.invokevirtual 28, 3) := by decide +kernel
theorem dX1_lastTone_22 : decode cX1_lastTone 22 = .ok (.ifCond .eq 29, 3) := by decide +kernel
theorem dX1_lastTone_25 : decode cX1_lastTone 25 = .ok (.iload_n 3, 1) := by decide +kernel
theorem dX1_lastTone_26 : decode cX1_lastTone 26 = .ok (.ifCond .ge 13, 3) := by decide +kernel
theorem dX1_lastTone_29 : decode cX1_lastTone 29 = .ok (.aload_n 0, 1) := by decide +kernel
theorem dX1_lastTone_30 : decode cX1_lastTone 30 = .ok (.getfield 18, 3) := by decide +kernel
theorem dX1_lastTone_33 : decode cX1_lastTone 33 = .ok (.iload 4, 2) := by decide +kernel
theorem dX1_lastTone_35 : decode cX1_lastTone 35 = .ok (.iaload, 1) := by decide +kernel
theorem dX1_lastTone_36 : decode cX1_lastTone 36 = .ok (.goto 14, 3) := by decide +kernel
theorem dX1_lastTone_39 : decode cX1_lastTone 39 = .ok (.iload_n 3, 1) := by decide +kernel
theorem dX1_lastTone_40 : decode cX1_lastTone 40 = .ok (.aload_n 0, 1) := by decide +kernel
theorem dX1_lastTone_41 : decode cX1_lastTone 41 = .ok (.getfield 18, 3) := by decide +kernel
theorem dX1_lastTone_44 : decode cX1_lastTone 44 = .ok (.iload 4, 2) := by decide +kernel
theorem dX1_lastTone_46 : decode cX1_lastTone 46 = .ok (.iaload, 1) := by decide +kernel
theorem dX1_lastTone_47 : decode cX1_lastTone 47 = .ok (.invokestatic 38, 3) := by decide +kernel
theorem dX1_lastTone_50 : decode cX1_lastTone 50 = .ok (.istore_n 3, 1) := by decide +kernel
theorem dX1_lastTone_51 : decode cX1_lastTone 51 = .ok (.iinc 4 1, 3) := by decide +kernel
theorem dX1_lastTone_54 : decode cX1_lastTone 54 = .ok (.goto (-49), 3) := by decide +kernel
theorem dX1_lastTone_57 : decode cX1_lastTone 57 = .ok (.iload_n 3, 1) := by decide +kernel
theorem dX1_lastTone_58 : decode cX1_lastTone 58 = .ok (.ireturn, 1) := by decide +kernel
theorem dX1_countMissed_0 : decode cX1_countMissed 0 = .ok (.iconst 0, 1) := by decide +kernel
theorem dX1_countMissed_1 : decode cX1_countMissed 1 = .ok (.istore_n 2, 1) := by decide +kernel
theorem dX1_countMissed_2 : decode cX1_countMissed 2 = .ok (.iconst 0, 1) := by decide +kernel
theorem dX1_countMissed_3 : decode cX1_countMissed 3 = .ok (.istore_n 3, 1) := by decide +kernel
theorem dX1_countMissed_4 : decode cX1_countMissed 4 = .ok (.iload_n 3, 1) := by decide +kernel
theorem dX1_countMissed_5 : decode cX1_countMissed 5 = .ok (.aload_n 0, 1) := by decide +kernel
theorem dX1_countMissed_6 : decode cX1_countMissed 6 = .ok (.getfield 24, 3) := by decide +kernel
theorem dX1_countMissed_9 : decode cX1_countMissed 9 = .ok (.if_icmp .ge 35, 3) := by decide +kernel
theorem dX1_countMissed_12 : decode cX1_countMissed 12 = .ok (.aload_n 0, 1) := by decide +kernel
theorem dX1_countMissed_13 : decode cX1_countMissed 13 = .ok (.iload_n 3, 1) := by decide +kernel
theorem dX1_countMissed_14 : decode cX1_countMissed 14 = .ok (.iload_n 1, 1) := by decide +kernel
theorem dX1_countMissed_15 : decode cX1_countMissed 15 = .ok (.invokevirtual 41, 3) := by decide +kernel
theorem dX1_countMissed_18 : decode cX1_countMissed 18 = .ok (.ifCond .ne 20, 3) := by decide +kernel
theorem dX1_countMissed_21 : decode cX1_countMissed 21 = .ok (.aload_n 0, 1) := by decide +kernel
theorem dX1_countMissed_22 : decode cX1_countMissed 22 = .ok (.aload_n 0, 1) := by decide +kernel
theorem dX1_countMissed_23 : decode cX1_countMissed 23 = .ok (.getfield 9, 3) := by decide +kernel
theorem dX1_countMissed_26 : decode cX1_countMissed 26 = .ok (.iload_n 3, 1) := by decide +kernel
theorem dX1_countMissed_27 : decode cX1_countMissed 27 = .ok (.iaload, 1) := by decide +kernel
theorem dX1_countMissed_28 : decode cX1_countMissed 28 = .ok (.iload_n 1, 1) := by decide +kernel
theorem dX1_countMissed_29 : decode cX1_countMissed 29 = .ok (.invokevirtual 45, 3) := by decide +kernel
theorem dX1_countMissed_32 : decode cX1_countMissed 32 = .ok (.ifCond .ge 6, 3) := by decide +kernel
theorem dX1_countMissed_35 : decode cX1_countMissed 35 = .ok (.iinc 2 1, 3) := by decide +kernel
theorem dX1_countMissed_38 : decode cX1_countMissed 38 = .ok (.iinc 3 1, 3) := by decide +kernel
theorem dX1_countMissed_41 : decode cX1_countMissed 41 = .ok (.goto (-37), 3) := by decide +kernel
theorem dX1_countMissed_44 : decode cX1_countMissed 44 = .ok (.iload_n 2, 1) := by decide +kernel
theorem dX1_countMissed_45 : decode cX1_countMissed 45 = .ok (.ireturn, 1) := by decide +kernel
theorem dX1_sings_0 : decode cX1_sings 0 = .ok (.aload_n 0, 1) := by decide +kernel
theorem dX1_sings_1 : decode cX1_sings 1 = .ok (.getfield 9, 3) := by decide +kernel
theorem dX1_sings_4 : decode cX1_sings 4 = .ok (.iload_n 1, 1) := by decide +kernel
theorem dX1_sings_5 : decode cX1_sings 5 = .ok (.iaload, 1) := by decide +kernel
theorem dX1_sings_6 : decode cX1_sings 6 = .ok (.iload_n 2, 1) := by decide +kernel
theorem dX1_sings_7 : decode cX1_sings 7 = .ok (.if_icmp .ne 16, 3) := by decide +kernel
theorem dX1_sings_10 : decode cX1_sings 10 = .ok (.aload_n 0, 1) := by decide +kernel
theorem dX1_sings_11 : decode cX1_sings 11 = .ok (.iload_n 1, 1) := by decide +kernel
theorem dX1_sings_12 : decode cX1_sings 12 = .ok (.iload_n 3, 1) := by decide +kernel
theorem dX1_sings_13 : decode cX1_sings 13 = .ok (.invokevirtual 41, 3) := by decide +kernel
theorem dX1_sings_16 : decode cX1_sings 16 = .ok (.ifCond .eq 7, 3) := by decide +kernel
theorem dX1_sings_19 : decode cX1_sings 19 = .ok (.iconst 1, 1) := by decide +kernel
theorem dX1_sings_20 : decode cX1_sings 20 = .ok (.goto 4, 3) := by decide +kernel
theorem dX1_sings_23 : decode cX1_sings 23 = .ok (.iconst 0, 1) := by decide +kernel
theorem dX1_sings_24 : decode cX1_sings 24 = .ok (.ireturn, 1) := by decide +kernel
theorem dX2_init_0 : decode cX2_init 0 = .ok (.aload_n 0, 1) := by decide +kernel
theorem dX2_init_1 : decode cX2_init 1 = .ok (.invokespecial 3, 3) := by decide +kernel
theorem dX2_init_4 : decode cX2_init 4 = .ok (.aload_n 0, 1) := by decide +kernel
theorem dX2_init_5 : decode cX2_init 5 = .ok (.new 9, 3) := by decide +kernel
theorem dX2_init_8 : decode cX2_init 8 = .ok (.dup, 1) := by decide +kernel
theorem dX2_init_9 : decode cX2_init 9 = .ok (.invokespecial 11, 3) := by decide +kernel
theorem dX2_init_12 : decode cX2_init 12 = .ok (.putfield 12, 3) := by decide +kernel
theorem dX2_init_15 : decode cX2_init 15 = .ok (.aload_n 0, 1) := by decide +kernel
theorem dX2_init_16 : decode cX2_init 16 = .ok (.bipush 6, 2) := by decide +kernel
theorem dX2_init_18 : decode cX2_init 18 = .ok (.anewarray 16, 3) := by decide +kernel
theorem dX2_init_21 : decode cX2_init 21 = .ok (.putfield 18, 3) := by decide +kernel
theorem dX2_init_24 : decode cX2_init 24 = .ok (.aload_n 0, 1) := by decide +kernel
theorem dX2_init_25 : decode cX2_init 25 = .ok (.new 16, 3) := by decide +kernel
theorem dX2_init_28 : decode cX2_init 28 = .ok (.dup, 1) := by decide +kernel
theorem dX2_init_29 : decode cX2_init 29 = .ok (.invokespecial 22, 3) := by decide +kernel
theorem dX2_init_32 : decode cX2_init 32 = .ok (.putfield 23, 3) := by decide +kernel
theorem dX2_init_35 : decode cX2_init 35 = .ok (.return_, 1) := by decide +kernel
theorem dX2_addSinger_0 : decode cX2_addSinger 0 = .ok (.iload_n 1, 1) := by decide +kernel
theorem dX2_addSinger_1 : decode cX2_addSinger 1 = .ok (.invokestatic 27, 3) := by decide +kernel
theorem dX2_addSinger_4 : decode cX2_addSinger 4 = .ok (.iload_n 2, 1) := by decide +kernel
theorem dX2_addSinger_5 : decode cX2_addSinger 5 = .ok (.bipush 60, 2) := by decide +kernel
theorem dX2_addSinger_7 : decode cX2_addSinger 7 = .ok (.invokestatic 31, 3) := by decide +kernel
theorem dX2_addSinger_10 : decode cX2_addSinger 10 = .ok (.iload_n 3, 1) := by decide +kernel
theorem dX2_addSinger_11 : decode cX2_addSinger 11 = .ok (.bipush 60, 2) := by decide +kernel
theorem dX2_addSinger_13 : decode cX2_addSinger 13 = .ok (.invokestatic 31, 3) := by decide +kernel
theorem dX2_addSinger_16 : decode cX2_addSinger 16 = .ok (.iload_n 3, 1) := by decide +kernel
theorem dX2_addSinger_17 : decode cX2_addSinger 17 = .ok (.iload_n 2, 1) := by decide +kernel
theorem dX2_addSinger_18 : decode cX2_addSinger 18 = .ok (.if_icmp .ge 13, 3) := by decide +kernel
theorem dX2_addSinger_21 : decode cX2_addSinger 21 = .ok (.new 35, 3) := by decide +kernel
theorem dX2_addSinger_24 : decode cX2_addSinger 24 = .ok (.dup, 1) := by decide +kernel
theorem dX2_addSinger_25 : decode cX2_addSinger 25 = .ok (.ldc 37, 2) := by decide +kernel
theorem dX2_addSinger_27 : decode cX2_addSinger 27 = .ok (.invokespecial 39, 3) := by decide +kernel
theorem dX2_addSinger_30 : decode cX2_addSinger 30 = .ok (.athrow, 1) := by decide +kernel
theorem dX2_addSinger_31 : decode cX2_addSinger 31 = .ok (.aload_n 0, 1) := by decide +kernel
theorem dX2_addSinger_32 : decode cX2_addSinger 32 = .ok (.getfield 12, 3) := by decide +kernel
theorem dX2_addSinger_35 : decode cX2_addSinger 35 = .ok (.invokevirtual 42, 3) := by decide +kernel
theorem dX2_addSinger_38 : decode cX2_addSinger 38 = .ok (.ifCond .eq 13, 3) := by decide +kernel
theorem dX2_addSinger_41 : decode cX2_addSinger 41 = .ok (.new 46, 3) := by decide +kernel
theorem dX2_addSinger_44 : decode cX2_addSinger 44 = .ok (.dup, 1) := by decide +kernel
theorem dX2_addSinger_45 : decode cX2_addSinger 45 = .ok (.ldc 48, 2) := by decide +kernel
theorem dX2_addSinger_47 : decode cX2_addSinger 47 = .ok (.invokespecial 50, 3) := by decide +kernel
theorem dX2_addSinger_50 : decode cX2_addSinger 50 = .ok (.athrow, 1) := by decide +kernel
theorem dX2_addSinger_51 : decode cX2_addSinger 51 = .ok (.aload_n 0, 1) := by decide +kernel
theorem dX2_addSinger_52 : decode cX2_addSinger 52 = .ok (.getfield 12, 3) := by decide +kernel
theorem dX2_addSinger_55 : decode cX2_addSinger 55 = .ok (.iload_n 1, 1) := by decide +kernel
theorem dX2_addSinger_56 : decode cX2_addSinger 56 = .ok (.iload_n 2, 1) := by decide +kernel
theorem dX2_addSinger_57 : decode cX2_addSinger 57 = .ok (.iload_n 3, 1) := by decide +kernel
theorem dX2_addSinger_58 : decode cX2_addSinger 58 = .ok (.invokevirtual 51, 3) := by decide +kernel
theorem dX2_addSinger_61 : decode cX2_addSinger 61 = .ok (.ireturn, 1) := by decide +kernel
theorem dX2_tell_0 : decode cX2_tell 0 = .ok (.aload_n 0, 1) := by decide +kernel
theorem dX2_tell_1 : decode cX2_tell 1 = .ok (.iload_n 1, 1) := by decide +kernel
theorem dX2_tell_2 : decode cX2_tell 2 = .ok (.invokevirtual 55, 3) := by decide +kernel
theorem dX2_tell_5 : decode cX2_tell 5 = .ok (.iload_n 2, 1) := by decide +kernel
theorem dX2_tell_6 : decode cX2_tell 6 = .ok (.invokestatic 58, 3) := by decide +kernel
theorem dX2_tell_9 : decode cX2_tell 9 = .ok (.aload_n 0, 1) := by decide +kernel
theorem dX2_tell_10 : decode cX2_tell 10 = .ok (.getfield 12, 3) := by decide +kernel
theorem dX2_tell_13 : decode cX2_tell 13 = .ok (.iload_n 1, 1) := by decide +kernel
theorem dX2_tell_14 : decode cX2_tell 14 = .ok (.iload_n 2, 1) := by decide +kernel
theorem dX2_tell_15 : decode cX2_tell 15 = .ok (.invokevirtual 61, 3) := by decide +kernel
theorem dX2_tell_18 : decode cX2_tell 18 = .ok (.istore 4, 2) := by decide +kernel
theorem dX2_tell_20 : decode cX2_tell 20 = .ok (.aload_n 0, 1) := by decide +kernel
theorem dX2_tell_21 : decode cX2_tell 21 = .ok (.getfield 12, 3) := by decide +kernel
theorem dX2_tell_24 : decode cX2_tell 24 = .ok (.iload_n 1, 1) := by decide +kernel
theorem dX2_tell_25 : decode cX2_tell 25 = .ok (.iload_n 2, 1) := by decide +kernel
theorem dX2_tell_26 : decode cX2_tell 26 = .ok (.iload_n 3, 1) := by decide +kernel
theorem dX2_tell_27 : decode cX2_tell 27 = .ok (.invokevirtual 65, 3) := by decide +kernel
theorem dX2_tell_30 : decode cX2_tell 30 = .ok (.iload 4, 2) := by decide +kernel
theorem dX2_tell_32 : decode cX2_tell 32 = .ok (.ireturn, 1) := by decide +kernel
theorem dX2_change_0 : decode cX2_change 0 = .ok (.aload_n 0, 1) := by decide +kernel
theorem dX2_change_1 : decode cX2_change 1 = .ok (.iload_n 1, 1) := by decide +kernel
theorem dX2_change_2 : decode cX2_change 2 = .ok (.invokevirtual 55, 3) := by decide +kernel
theorem dX2_change_5 : decode cX2_change 5 = .ok (.iload_n 2, 1) := by decide +kernel
theorem dX2_change_6 : decode cX2_change 6 = .ok (.invokestatic 27, 3) := by decide +kernel
theorem dX2_change_9 : decode cX2_change 9 = .ok (.aload_n 0, 1) := by decide +kernel
theorem dX2_change_10 : decode cX2_change 10 = .ok (.getfield 12, 3) := by decide +kernel
theorem dX2_change_13 : decode cX2_change 13 = .ok (.iload_n 1, 1) := by decide +kernel
theorem dX2_change_14 : decode cX2_change 14 = .ok (.iload_n 2, 1) := by decide +kernel
theorem dX2_change_15 : decode cX2_change 15 = .ok (.invokevirtual 69, 3) := by decide +kernel
theorem dX2_change_18 : decode cX2_change 18 = .ok (.ireturn, 1) := by decide +kernel
theorem dX2_range_0 : decode cX2_range 0 = .ok (.iload_n 1, 1) := by decide +kernel
theorem dX2_range_1 : decode cX2_range 1 = .ok (.invokestatic 27, 3) := by decide +kernel
theorem dX2_range_4 : decode cX2_range 4 = .ok (.iload_n 2, 1) := by decide +kernel
theorem dX2_range_5 : decode cX2_range 5 = .ok (.invokestatic 58, 3) := by decide +kernel
theorem dX2_range_8 : decode cX2_range 8 = .ok (.aload_n 0, 1) := by decide +kernel
theorem dX2_range_9 : decode cX2_range 9 = .ok (.getfield 12, 3) := by decide +kernel
theorem dX2_range_12 : decode cX2_range 12 = .ok (.iload_n 1, 1) := by decide +kernel
theorem dX2_range_13 : decode cX2_range 13 = .ok (.iload_n 2, 1) := by decide +kernel
theorem dX2_range_14 : decode cX2_range 14 = .ok (.invokevirtual 73, 3) := by decide +kernel
theorem dX2_range_17 : decode cX2_range 17 = .ok (.istore_n 3, 1) := by decide +kernel
theorem dX2_range_18 : decode cX2_range 18 = .ok (.aload_n 0, 1) := by decide +kernel
theorem dX2_range_19 : decode cX2_range 19 = .ok (.getfield 12, 3) := by decide +kernel
theorem dX2_range_22 : decode cX2_range 22 = .ok (.iload_n 1, 1) := by decide +kernel
theorem dX2_range_23 : decode cX2_range 23 = .ok (.iload_n 2, 1) := by decide +kernel
theorem dX2_range_24 : decode cX2_range 24 = .ok (.invokevirtual 76, 3) := by decide +kernel
theorem dX2_range_27 : decode cX2_range 27 = .ok (.istore 4, 2) := by decide +kernel
theorem dX2_range_29 : decode cX2_range 29 = .ok (.iload_n 3, 1) := by decide +kernel
theorem dX2_range_30 : decode cX2_range 30 = .ok (.iload 4, 2) := by decide +kernel
theorem dX2_range_32 : decode cX2_range 32 = .ok (.if_icmp .le 7, 3) := by decide +kernel
theorem dX2_range_35 : decode cX2_range 35 = .ok (.iconst (-1), 1) := by decide +kernel
theorem dX2_range_36 : decode cX2_range 36 = .ok (.goto 10, 3) := by decide +kernel
theorem dX2_range_39 : decode cX2_range 39 = .ok (.bipush 100, 2) := by decide +kernel
theorem dX2_range_41 : decode cX2_range 41 = .ok (.iload_n 3, 1) := by decide +kernel
theorem dX2_range_42 : decode cX2_range 42 = .ok (.imul, 1) := by decide +kernel
theorem dX2_range_43 : decode cX2_range 43 = .ok (.iload 4, 2) := by decide +kernel
theorem dX2_range_45 : decode cX2_range 45 = .ok (.iadd, 1) := by decide +kernel
theorem dX2_range_46 : decode cX2_range 46 = .ok (.ireturn, 1) := by decide +kernel
theorem dX2_chord_0 : decode cX2_chord 0 = .ok (.iload_n 1, 1) := by decide +kernel
theorem dX2_chord_1 : decode cX2_chord 1 = .ok (.bipush 60, 2) := by decide +kernel
theorem dX2_chord_3 : decode cX2_chord 3 = .ok (.invokestatic 31, 3) := by decide +kernel
theorem dX2_chord_6 : decode cX2_chord 6 = .ok (.iload_n 2, 1) := by decide +kernel
theorem dX2_chord_7 : decode cX2_chord 7 = .ok (.iload_n 1, 1) := by decide +kernel
theorem dX2_chord_8 : decode cX2_chord 8 = .ok (.invokestatic 31, 3) := by decide +kernel
theorem dX2_chord_11 : decode cX2_chord 11 = .ok (.iload_n 3, 1) := by decide +kernel
theorem dX2_chord_12 : decode cX2_chord 12 = .ok (.iload_n 2, 1) := by decide +kernel
theorem dX2_chord_13 : decode cX2_chord 13 = .ok (.invokestatic 31, 3) := by decide +kernel
theorem dX2_chord_16 : decode cX2_chord 16 = .ok (.iload 4, 2) := by decide +kernel
theorem dX2_chord_18 : decode cX2_chord 18 = .ok (.iload_n 3, 1) := by decide +kernel
theorem dX2_chord_19 : decode cX2_chord 19 = .ok (.invokestatic 31, 3) := by decide +kernel
theorem dX2_chord_22 : decode cX2_chord 22 = .ok (.aload_n 0, 1) := by decide +kernel
theorem dX2_chord_23 : decode cX2_chord 23 = .ok (.getfield 23, 3) := by decide +kernel
theorem dX2_chord_26 : decode cX2_chord 26 = .ok (.invokevirtual 79, 3) := by decide +kernel
theorem dX2_chord_29 : decode cX2_chord 29 = .ok (.ifCond .eq 13, 3) := by decide +kernel
theorem dX2_chord_32 : decode cX2_chord 32 = .ok (.new 46, 3) := by decide +kernel
theorem dX2_chord_35 : decode cX2_chord 35 = .ok (.dup, 1) := by decide +kernel
theorem dX2_chord_36 : decode cX2_chord 36 = .ok (.ldc 80, 2) := by decide +kernel
theorem dX2_chord_38 : decode cX2_chord 38 = .ok (.invokespecial 50, 3) := by decide +kernel
theorem dX2_chord_41 : decode cX2_chord 41 = .ok (.athrow, 1) := by decide +kernel
theorem dX2_chord_42 : decode cX2_chord 42 = .ok (.aload_n 0, 1) := by decide +kernel
theorem dX2_chord_43 : decode cX2_chord 43 = .ok (.getfield 23, 3) := by decide +kernel
theorem dX2_chord_46 : decode cX2_chord 46 = .ok (.iload_n 1, 1) := by decide +kernel
theorem dX2_chord_47 : decode cX2_chord 47 = .ok (.iload_n 2, 1) := by decide +kernel
theorem dX2_chord_48 : decode cX2_chord 48 = .ok (.iload_n 3, 1) := by decide +kernel
theorem dX2_chord_49 : decode cX2_chord 49 = .ok (.iload 4, 2) := by decide +kernel
theorem dX2_chord_51 : decode cX2_chord 51 = .ok (.invokevirtual 82, 3) := by decide +kernel
theorem dX2_chord_54 : decode cX2_chord 54 = .ok (.ireturn, 1) := by decide +kernel
theorem dX2_addPiece_0 : decode cX2_addPiece 0 = .ok (.iload_n 1, 1) := by decide +kernel
theorem dX2_addPiece_1 : decode cX2_addPiece 1 = .ok (.iconst 1, 1) := by decide +kernel
theorem dX2_addPiece_2 : decode cX2_addPiece 2 = .ok (.if_icmp .lt 10, 3) := by decide +kernel
theorem dX2_addPiece_5 : decode cX2_addPiece 5 = .ok (.iload_n 1, 1) := by decide +kernel
theorem dX2_addPiece_6 : decode cX2_addPiece 6 = .ok (.sipush 3600, 3) := by decide +kernel
theorem dX2_addPiece_9 : decode cX2_addPiece 9 = .ok (.if_icmp .le 13, 3) := by decide +kernel
theorem dX2_addPiece_12 : decode cX2_addPiece 12 = .ok (.new 35, 3) := by decide +kernel
theorem dX2_addPiece_15 : decode cX2_addPiece 15 = .ok (.dup, 1) := by decide +kernel
theorem dX2_addPiece_16 : decode cX2_addPiece 16 = .ok (.ldc 86, 2) := by decide +kernel
theorem dX2_addPiece_18 : decode cX2_addPiece 18 = .ok (.invokespecial 39, 3) := by decide +kernel
theorem dX2_addPiece_21 : decode cX2_addPiece 21 = .ok (.athrow, 1) := by decide +kernel
theorem dX2_addPiece_22 : decode cX2_addPiece 22 = .ok (.aload_n 0, 1) := by decide +kernel
theorem dX2_addPiece_23 : decode cX2_addPiece 23 = .ok (.getfield 23, 3) := by decide +kernel
theorem dX2_addPiece_26 : decode cX2_addPiece 26 = .ok (.invokevirtual 88, 3) := by decide +kernel
theorem dX2_addPiece_29 : decode cX2_addPiece 29 = .ok (.ifCond .eq 13, 3) := by decide +kernel
theorem dX2_addPiece_32 : decode cX2_addPiece 32 = .ok (.new 46, 3) := by decide +kernel
theorem dX2_addPiece_35 : decode cX2_addPiece 35 = .ok (.dup, 1) := by decide +kernel
theorem dX2_addPiece_36 : decode cX2_addPiece 36 = .ok (.ldc 91, 2) := by decide +kernel
theorem dX2_addPiece_38 : decode cX2_addPiece 38 = .ok (.invokespecial 50, 3) := by decide +kernel
theorem dX2_addPiece_41 : decode cX2_addPiece 41 = .ok (.athrow, 1) := by decide +kernel
theorem dX2_addPiece_42 : decode cX2_addPiece 42 = .ok (.aload_n 0, 1) := by decide +kernel
theorem dX2_addPiece_43 : decode cX2_addPiece 43 = .ok (.getfield 93, 3) := by decide +kernel
theorem dX2_addPiece_46 : decode cX2_addPiece 46 = .ok (.bipush 6, 2) := by decide +kernel
theorem dX2_addPiece_48 : decode cX2_addPiece 48 = .ok (.if_icmp .lt 13, 3) := by decide +kernel
theorem dX2_addPiece_51 : decode cX2_addPiece 51 = .ok (.new 46, 3) := by decide +kernel
theorem dX2_addPiece_54 : decode cX2_addPiece 54 = .ok (.dup, 1) := by decide +kernel
theorem dX2_addPiece_55 : decode cX2_addPiece 55 = .ok (.ldc 97, 2) := by decide +kernel
theorem dX2_addPiece_57 : decode cX2_addPiece 57 = .ok (.invokespecial 50, 3) := by decide +kernel
theorem dX2_addPiece_60 : decode cX2_addPiece 60 = .ok (.athrow, 1) := by decide +kernel
theorem dX2_addPiece_61 : decode cX2_addPiece 61 = .ok (.aload_n 0, 1) := by decide +kernel
theorem dX2_addPiece_62 : decode cX2_addPiece 62 = .ok (.getfield 93, 3) := by decide +kernel
theorem dX2_addPiece_65 : decode cX2_addPiece 65 = .ok (.istore_n 2, 1) := by decide +kernel
theorem dX2_addPiece_66 : decode cX2_addPiece 66 = .ok (.aload_n 0, 1) := by decide +kernel
theorem dX2_addPiece_67 : decode cX2_addPiece 67 = .ok (.getfield 23, 3) := by decide +kernel
theorem dX2_addPiece_70 : decode cX2_addPiece 70 = .ok (.iload_n 1, 1) := by decide +kernel
theorem dX2_addPiece_71 : decode cX2_addPiece 71 = .ok (.invokevirtual 99, 3) := by decide +kernel
theorem dX2_addPiece_74 : decode cX2_addPiece 74 = .ok (.aload_n 0, 1) := by decide +kernel
theorem dX2_addPiece_75 : decode cX2_addPiece 75 = .ok (.getfield 18, 3) := by decide +kernel
theorem dX2_addPiece_78 : decode cX2_addPiece 78 = .ok (.iload_n 2, 1) := by decide +kernel
theorem dX2_addPiece_79 : decode cX2_addPiece 79 = .ok (.aload_n 0, 1) := by decide +kernel
theorem dX2_addPiece_80 : decode cX2_addPiece 80 = .ok (.getfield 23, 3) := by decide +kernel
theorem dX2_addPiece_83 : decode cX2_addPiece 83 = .ok (.aastore, 1) := by decide +kernel
theorem dX2_addPiece_84 : decode cX2_addPiece 84 = .ok (.aload_n 0, 1) := by decide +kernel
theorem dX2_addPiece_85 : decode cX2_addPiece 85 = .ok (.dup, 1) := by decide +kernel
theorem dX2_addPiece_86 : decode cX2_addPiece 86 = .ok (.getfield 93, 3) := by decide +kernel
theorem dX2_addPiece_89 : decode cX2_addPiece 89 = .ok (.iconst 1, 1) := by decide +kernel
theorem dX2_addPiece_90 : decode cX2_addPiece 90 = .ok (.iadd, 1) := by decide +kernel
theorem dX2_addPiece_91 : decode cX2_addPiece 91 = .ok (.putfield 93, 3) := by decide +kernel
theorem dX2_addPiece_94 : decode cX2_addPiece 94 = .ok (.aload_n 0, 1) := by decide +kernel
theorem dX2_addPiece_95 : decode cX2_addPiece 95 = .ok (.new 16, 3) := by decide +kernel
theorem dX2_addPiece_98 : decode cX2_addPiece 98 = .ok (.dup, 1) := by decide +kernel
theorem dX2_addPiece_99 : decode cX2_addPiece 99 = .ok (.invokespecial 22, 3) := by decide +kernel
theorem dX2_addPiece_102 : decode cX2_addPiece 102 = .ok (.putfield 23, 3) := by decide +kernel
theorem dX2_addPiece_105 : decode cX2_addPiece 105 = .ok (.iload_n 2, 1) := by decide +kernel
theorem dX2_addPiece_106 : decode cX2_addPiece 106 = .ok (.ireturn, 1) := by decide +kernel
theorem dX2_setTone_0 : decode cX2_setTone 0 = .ok (.aload_n 0, 1) := by decide +kernel
theorem dX2_setTone_1 : decode cX2_setTone 1 = .ok (.iload_n 1, 1) := by decide +kernel
theorem dX2_setTone_2 : decode cX2_setTone 2 = .ok (.invokevirtual 102, 3) := by decide +kernel
theorem dX2_setTone_5 : decode cX2_setTone 5 = .ok (.astore 5, 2) := by decide +kernel
theorem dX2_setTone_7 : decode cX2_setTone 7 = .ok (.aload 5, 2) := by decide +kernel
theorem dX2_setTone_9 : decode cX2_setTone 9 = .ok (.iload_n 2, 1) := by decide +kernel
theorem dX2_setTone_10 : decode cX2_setTone 10 = .ok (.invokestatic 106, 3) := by decide +kernel
theorem dX2_setTone_13 : decode cX2_setTone 13 = .ok (.iload_n 3, 1) := by decide +kernel
theorem dX2_setTone_14 : decode cX2_setTone 14 = .ok (.invokestatic 27, 3) := by decide +kernel
theorem dX2_setTone_17 : decode cX2_setTone 17 = .ok (.iload 4, 2) := by decide +kernel
theorem dX2_setTone_19 : decode cX2_setTone 19 = .ok (.bipush 60, 2) := by decide +kernel
theorem dX2_setTone_21 : decode cX2_setTone 21 = .ok (.invokestatic 31, 3) := by decide +kernel
theorem dX2_setTone_24 : decode cX2_setTone 24 = .ok (.iload 4, 2) := by decide +kernel
theorem dX2_setTone_26 : decode cX2_setTone 26 = .ok (.aload 5, 2) := by decide +kernel
theorem dX2_setTone_28 : decode cX2_setTone 28 = .ok (.iload_n 2, 1) := by decide +kernel
theorem dX2_setTone_29 : decode cX2_setTone 29 = .ok (.iload_n 3, 1) := by decide +kernel
theorem dX2_setTone_30 : decode cX2_setTone 30 = .ok (.invokevirtual 110, 3) := by decide +kernel
theorem dX2_setTone_33 : decode cX2_setTone 33 = .ok (.if_icmp .gt 15, 3) := by decide +kernel
theorem dX2_setTone_36 : decode cX2_setTone 36 = .ok (.iload 4, 2) := by decide +kernel
theorem dX2_setTone_38 : decode cX2_setTone 38 = .ok (.aload 5, 2) := by decide +kernel
theorem dX2_setTone_40 : decode cX2_setTone 40 = .ok (.iload_n 2, 1) := by decide +kernel
theorem dX2_setTone_41 : decode cX2_setTone 41 = .ok (.iload_n 3, 1) := by decide +kernel
theorem dX2_setTone_42 : decode cX2_setTone 42 = .ok (.invokevirtual 113, 3) := by decide +kernel
theorem dX2_setTone_45 : decode cX2_setTone 45 = .ok (.if_icmp .ge 13, 3) := by decide +kernel
theorem dX2_setTone_48 : decode cX2_setTone 48 = .ok (.new 46, 3) := by decide +kernel
theorem dX2_setTone_51 : decode cX2_setTone 51 = .ok (.dup, 1) := by decide +kernel
theorem dX2_setTone_52 : decode cX2_setTone 52 = .ok (.ldc 116, 2) := by decide +kernel
theorem dX2_setTone_54 : decode cX2_setTone 54 = .ok (.invokespecial 50, 3) := by decide +kernel
theorem dX2_setTone_57 : decode cX2_setTone 57 = .ok (.athrow, 1) := by decide +kernel
theorem dX2_setTone_58 : decode cX2_setTone 58 = .ok (.aload 5, 2) := by decide +kernel
theorem dX2_setTone_60 : decode cX2_setTone 60 = .ok (.iload_n 2, 1) := by decide +kernel
theorem dX2_setTone_61 : decode cX2_setTone 61 = .ok (.iload_n 3, 1) := by decide +kernel
theorem dX2_setTone_62 : decode cX2_setTone 62 = .ok (.invokevirtual 118, 3) := by decide +kernel
theorem dX2_setTone_65 : decode cX2_setTone 65 = .ok (.istore 6, 2) := by decide +kernel
theorem dX2_setTone_67 : decode cX2_setTone 67 = .ok (.aload 5, 2) := by decide +kernel
theorem dX2_setTone_69 : decode cX2_setTone 69 = .ok (.iload_n 2, 1) := by decide +kernel
theorem dX2_setTone_70 : decode cX2_setTone 70 = .ok (.iload_n 3, 1) := by decide +kernel
theorem dX2_setTone_71 : decode cX2_setTone 71 = .ok (.iload 4, 2) := by decide +kernel
theorem dX2_setTone_73 : decode cX2_setTone 73 = .ok (.invokevirtual 121, 3) := by decide +kernel
theorem dX2_setTone_76 : decode cX2_setTone 76 = .ok (.iload 6, 2) := by decide +kernel
theorem dX2_setTone_78 : decode cX2_setTone 78 = .ok (.ireturn, 1) := by decide +kernel
theorem dX2_faultsAt_0 : decode cX2_faultsAt 0 = .ok (.aload_n 0, 1) := by decide +kernel
theorem dX2_faultsAt_1 : decode cX2_faultsAt 1 = .ok (.iload_n 1, 1) := by decide +kernel
theorem dX2_faultsAt_2 : decode cX2_faultsAt 2 = .ok (.invokevirtual 102, 3) := by decide +kernel
theorem dX2_faultsAt_5 : decode cX2_faultsAt 5 = .ok (.astore_n 3, 1) := by decide +kernel
theorem dX2_faultsAt_6 : decode cX2_faultsAt 6 = .ok (.aload_n 3, 1) := by decide +kernel
theorem dX2_faultsAt_7 : decode cX2_faultsAt 7 = .ok (.iload_n 2, 1) := by decide +kernel
theorem dX2_faultsAt_8 : decode cX2_faultsAt 8 = .ok (.invokestatic 106, 3) := by decide +kernel
theorem dX2_faultsAt_11 : decode cX2_faultsAt 11 = .ok (.aload_n 3, 1) := by decide +kernel
theorem dX2_faultsAt_12 : decode cX2_faultsAt 12 = .ok (.iload_n 2, 1) := by decide +kernel
theorem dX2_faultsAt_13 : decode cX2_faultsAt 13 = .ok (.invokevirtual 125, 3) := by decide +kernel
theorem dX2_faultsAt_16 : decode cX2_faultsAt 16 = .ok (.ireturn, 1) := by decide +kernel
theorem dX2_faults_0 : decode cX2_faults 0 = .ok (.aload_n 0, 1) := by decide +kernel
theorem dX2_faults_1 : decode cX2_faults 1 = .ok (.iload_n 1, 1) := by decide +kernel
theorem dX2_faults_2 : decode cX2_faults 2 = .ok (.invokevirtual 102, 3) := by decide +kernel
theorem dX2_faults_5 : decode cX2_faults 5 = .ok (.invokevirtual 129, 3) := by decide +kernel
theorem dX2_faults_8 : decode cX2_faults 8 = .ok (.ireturn, 1) := by decide +kernel
theorem dX2_leastFaults_0 : decode cX2_leastFaults 0 = .ok (.aload_n 0, 1) := by decide +kernel
theorem dX2_leastFaults_1 : decode cX2_leastFaults 1 = .ok (.iload_n 1, 1) := by decide +kernel
theorem dX2_leastFaults_2 : decode cX2_leastFaults 2 = .ok (.invokevirtual 102, 3) := by decide +kernel
theorem dX2_leastFaults_5 : decode cX2_leastFaults 5 = .ok (.astore 4, 2) := by decide +kernel
theorem dX2_leastFaults_7 : decode cX2_leastFaults 7 = .ok (.aload 4, 2) := by decide +kernel
theorem dX2_leastFaults_9 : decode cX2_leastFaults 9 = .ok (.iload_n 2, 1) := by decide +kernel
theorem dX2_leastFaults_10 : decode cX2_leastFaults 10 = .ok (.invokestatic 106, 3) := by decide +kernel
theorem dX2_leastFaults_13 : decode cX2_leastFaults 13 = .ok (.iload_n 2, 1) := by decide +kernel
theorem dX2_leastFaults_14 : decode cX2_leastFaults 14 = .ok (.ifCond .eq 12, 3) := by decide +kernel
theorem dX2_leastFaults_17 : decode cX2_leastFaults 17 = .ok (.aload 4, 2) := by decide +kernel
theorem dX2_leastFaults_19 : decode cX2_leastFaults 19 = .ok (.iload_n 2, 1) := by decide +kernel
theorem dX2_leastFaults_20 : decode cX2_leastFaults 20 = .ok (.invokevirtual 133, 3) := by decide +kernel
theorem dX2_leastFaults_23 : decode cX2_leastFaults 23 = .ok (.ifCond .eq 13, 3) := by decide +kernel
theorem dX2_leastFaults_26 : decode cX2_leastFaults 26 = .ok (.new 137, 3) := by decide +kernel
theorem dX2_leastFaults_29 : decode cX2_leastFaults 29 = .ok (.dup, 1) := by decide +kernel
theorem dX2_leastFaults_30 : decode cX2_leastFaults 30 = .ok (.ldc 139, 2) := by decide +kernel
theorem dX2_leastFaults_32 : decode cX2_leastFaults 32 = .ok (.invokespecial 141, 3) := by decide +kernel
theorem dX2_leastFaults_35 : decode cX2_leastFaults 35 = .ok (.athrow, 1) := by decide +kernel
theorem dX2_leastFaults_36 : decode cX2_leastFaults 36 = .ok (.iload_n 3, 1) := by decide +kernel
theorem dX2_leastFaults_37 : decode cX2_leastFaults 37 = .ok (.invokestatic 27, 3) := by decide +kernel
theorem dX2_leastFaults_40 : decode cX2_leastFaults 40 = .ok (.aload 4, 2) := by decide +kernel
theorem dX2_leastFaults_42 : decode cX2_leastFaults 42 = .ok (.iload_n 2, 1) := by decide +kernel
theorem dX2_leastFaults_43 : decode cX2_leastFaults 43 = .ok (.iload_n 3, 1) := by decide +kernel
theorem dX2_leastFaults_44 : decode cX2_leastFaults 44 = .ok (.invokevirtual 142, 3) := by decide +kernel
theorem dX2_leastFaults_47 : decode cX2_leastFaults 47 = .ok (.ireturn, 1) := by decide +kernel
theorem dX2_shift_0 : decode cX2_shift 0 = .ok (.aload_n 0, 1) := by decide +kernel
theorem dX2_shift_1 : decode cX2_shift 1 = .ok (.iload_n 1, 1) := by decide +kernel
theorem dX2_shift_2 : decode cX2_shift 2 = .ok (.invokevirtual 102, 3) := by decide +kernel
theorem dX2_shift_5 : decode cX2_shift 5 = .ok (.astore_n 3, 1) := by decide +kernel
theorem dX2_shift_6 : decode cX2_shift 6 = .ok (.iload_n 2, 1) := by decide +kernel
theorem dX2_shift_7 : decode cX2_shift 7 = .ok (.invokestatic 58, 3) := by decide +kernel
theorem dX2_shift_10 : decode cX2_shift 10 = .ok (.aload_n 0, 1) := by decide +kernel
theorem dX2_shift_11 : decode cX2_shift 11 = .ok (.aload_n 3, 1) := by decide +kernel
theorem dX2_shift_12 : decode cX2_shift 12 = .ok (.iload_n 2, 1) := by decide +kernel
theorem dX2_shift_13 : decode cX2_shift 13 = .ok (.invokevirtual 145, 3) := by decide +kernel
theorem dX2_shift_16 : decode cX2_shift 16 = .ok (.istore 4, 2) := by decide +kernel
theorem dX2_shift_18 : decode cX2_shift 18 = .ok (.iload 4, 2) := by decide +kernel
theorem dX2_shift_20 : decode cX2_shift 20 = .ok (.bipush 13, 2) := by decide +kernel
theorem dX2_shift_22 : decode cX2_shift 22 = .ok (.if_icmp .ne 13, 3) := by decide +kernel
theorem dX2_shift_25 : decode cX2_shift 25 = .ok (.new 46, 3) := by decide +kernel
theorem dX2_shift_28 : decode cX2_shift 28 = .ok (.dup, 1) := by decide +kernel
theorem dX2_shift_29 : decode cX2_shift 29 = .ok (.ldc 149, 2) := by decide +kernel
theorem dX2_shift_31 : decode cX2_shift 31 = .ok (.invokespecial 50, 3) := by decide +kernel
theorem dX2_shift_34 : decode cX2_shift 34 = .ok (.athrow, 1) := by decide +kernel
theorem dX2_shift_35 : decode cX2_shift 35 = .ok (.iload 4, 2) := by decide +kernel
theorem dX2_shift_37 : decode cX2_shift 37 = .ok (.ireturn, 1) := by decide +kernel
theorem dX2_dates_0 : decode cX2_dates 0 = .ok (.aload_n 0, 1) := by decide +kernel
theorem dX2_dates_1 : decode cX2_dates 1 = .ok (.iload_n 1, 1) := by decide +kernel
theorem dX2_dates_2 : decode cX2_dates 2 = .ok (.invokevirtual 102, 3) := by decide +kernel
theorem dX2_dates_5 : decode cX2_dates 5 = .ok (.astore_n 2, 1) := by decide +kernel
theorem dX2_dates_6 : decode cX2_dates 6 = .ok (.iconst 0, 1) := by decide +kernel
theorem dX2_dates_7 : decode cX2_dates 7 = .ok (.istore_n 3, 1) := by decide +kernel
theorem dX2_dates_8 : decode cX2_dates 8 = .ok (.iconst 0, 1) := by decide +kernel
theorem dX2_dates_9 : decode cX2_dates 9 = .ok (.istore 4, 2) := by decide +kernel
theorem dX2_dates_11 : decode cX2_dates 11 = .ok (.iload 4, 2) := by decide +kernel
theorem dX2_dates_13 : decode cX2_dates 13 = .ok (.bipush 31, 2) := by decide +kernel
theorem dX2_dates_15 : decode cX2_dates 15 = .ok (.if_icmp .ge 24, 3) := by decide +kernel
theorem dX2_dates_18 : decode cX2_dates 18 = .ok (.aload_n 0, 1) := by decide +kernel
theorem dX2_dates_19 : decode cX2_dates 19 = .ok (.aload_n 2, 1) := by decide +kernel
theorem dX2_dates_20 : decode cX2_dates 20 = .ok (.iload 4, 2) := by decide +kernel
theorem dX2_dates_22 : decode cX2_dates 22 = .ok (.invokevirtual 145, 3) := by decide +kernel
theorem dX2_dates_25 : decode cX2_dates 25 = .ok (.bipush 13, 2) := by decide +kernel
theorem dX2_dates_27 : decode cX2_dates 27 = .ok (.if_icmp .eq 6, 3) := by decide +kernel
theorem dX2_dates_30 : decode cX2_dates 30 = .ok (.iinc 3 1, 3) := by decide +kernel
theorem dX2_dates_33 : decode cX2_dates 33 = .ok (.iinc 4 1, 3) := by decide +kernel
theorem dX2_dates_36 : decode cX2_dates 36 = .ok (.goto (-25), 3) := by decide +kernel
theorem dX2_dates_39 : decode cX2_dates 39 = .ok (.iload_n 3, 1) := by decide +kernel
theorem dX2_dates_40 : decode cX2_dates 40 = .ok (.ireturn, 1) := by decide +kernel
theorem dX2_missed_0 : decode cX2_missed 0 = .ok (.iload_n 1, 1) := by decide +kernel
theorem dX2_missed_1 : decode cX2_missed 1 = .ok (.invokestatic 58, 3) := by decide +kernel
theorem dX2_missed_4 : decode cX2_missed 4 = .ok (.aload_n 0, 1) := by decide +kernel
theorem dX2_missed_5 : decode cX2_missed 5 = .ok (.getfield 12, 3) := by decide +kernel
theorem dX2_missed_8 : decode cX2_missed 8 = .ok (.iload_n 1, 1) := by decide +kernel
theorem dX2_missed_9 : decode cX2_missed 9 = .ok (.invokevirtual 151, 3) := by decide +kernel
theorem dX2_missed_12 : decode cX2_missed 12 = .ok (.ireturn, 1) := by decide +kernel
theorem dX2_programme_0 : decode cX2_programme 0 = .ok (.iload_n 1, 1) := by decide +kernel
theorem dX2_programme_1 : decode cX2_programme 1 = .ok (.invokestatic 58, 3) := by decide +kernel
theorem dX2_programme_4 : decode cX2_programme 4 = .ok (.iload_n 2, 1) := by decide +kernel
theorem dX2_programme_5 : decode cX2_programme 5 = .ok (.invokestatic 154, 3) := by decide +kernel
theorem dX2_programme_8 : decode cX2_programme 8 = .ok (.aload_n 0, 1) := by decide +kernel
theorem dX2_programme_9 : decode cX2_programme 9 = .ok (.iload_n 1, 1) := by decide +kernel
theorem dX2_programme_10 : decode cX2_programme 10 = .ok (.iload_n 2, 1) := by decide +kernel
theorem dX2_programme_11 : decode cX2_programme 11 = .ok (.invokevirtual 157, 3) := by decide +kernel
theorem dX2_programme_14 : decode cX2_programme 14 = .ok (.ireturn, 1) := by decide +kernel
theorem dX2_duration_0 : decode cX2_duration 0 = .ok (.iload_n 1, 1) := by decide +kernel
theorem dX2_duration_1 : decode cX2_duration 1 = .ok (.invokestatic 58, 3) := by decide +kernel
theorem dX2_duration_4 : decode cX2_duration 4 = .ok (.iload_n 2, 1) := by decide +kernel
theorem dX2_duration_5 : decode cX2_duration 5 = .ok (.invokestatic 154, 3) := by decide +kernel
theorem dX2_duration_8 : decode cX2_duration 8 = .ok (.aload_n 0, 1) := by decide +kernel
theorem dX2_duration_9 : decode cX2_duration 9 = .ok (.aload_n 0, 1) := by decide +kernel
theorem dX2_duration_10 : decode cX2_duration 10 = .ok (.iload_n 1, 1) := by decide +kernel
theorem dX2_duration_11 : decode cX2_duration 11 = .ok (.iload_n 2, 1) := by decide +kernel
theorem dX2_duration_12 : decode cX2_duration 12 = .ok (.invokevirtual 157, 3) := by decide +kernel
theorem dX2_duration_15 : decode cX2_duration 15 = .ok (.invokevirtual 160, 3) := by decide +kernel
theorem dX2_duration_18 : decode cX2_duration 18 = .ok (.ireturn, 1) := by decide +kernel
theorem dX2_rehearse_0 : decode cX2_rehearse 0 = .ok (.aload_n 0, 1) := by decide +kernel
theorem dX2_rehearse_1 : decode cX2_rehearse 1 = .ok (.iload_n 1, 1) := by decide +kernel
theorem dX2_rehearse_2 : decode cX2_rehearse 2 = .ok (.invokevirtual 102, 3) := by decide +kernel
theorem dX2_rehearse_5 : decode cX2_rehearse 5 = .ok (.astore_n 3, 1) := by decide +kernel
theorem dX2_rehearse_6 : decode cX2_rehearse 6 = .ok (.iload_n 2, 1) := by decide +kernel
theorem dX2_rehearse_7 : decode cX2_rehearse 7 = .ok (.iconst 1, 1) := by decide +kernel
theorem dX2_rehearse_8 : decode cX2_rehearse 8 = .ok (.if_icmp .lt 9, 3) := by decide +kernel
theorem dX2_rehearse_11 : decode cX2_rehearse 11 = .ok (.iload_n 2, 1) := by decide +kernel
theorem dX2_rehearse_12 : decode cX2_rehearse 12 = .ok (.bipush 30, 2) := by decide +kernel
theorem dX2_rehearse_14 : decode cX2_rehearse 14 = .ok (.if_icmp .le 13, 3) := by decide +kernel
theorem dX2_rehearse_17 : decode cX2_rehearse 17 = .ok (.new 35, 3) := by decide +kernel
theorem dX2_rehearse_20 : decode cX2_rehearse 20 = .ok (.dup, 1) := by decide +kernel
theorem dX2_rehearse_21 : decode cX2_rehearse 21 = .ok (.ldc 163, 2) := by decide +kernel
theorem dX2_rehearse_23 : decode cX2_rehearse 23 = .ok (.invokespecial 39, 3) := by decide +kernel
theorem dX2_rehearse_26 : decode cX2_rehearse 26 = .ok (.athrow, 1) := by decide +kernel
theorem dX2_rehearse_27 : decode cX2_rehearse 27 = .ok (.iconst 0, 1) := by decide +kernel
theorem dX2_rehearse_28 : decode cX2_rehearse 28 = .ok (.istore 4, 2) := by decide +kernel
theorem dX2_rehearse_30 : decode cX2_rehearse 30 = .ok (.iload 4, 2) := by decide +kernel
theorem dX2_rehearse_32 : decode cX2_rehearse 32 = .ok (.iload_n 2, 1) := by decide +kernel
theorem dX2_rehearse_33 : decode cX2_rehearse 33 = .ok (.if_icmp .ge 13, 3) := by decide +kernel
theorem dX2_rehearse_36 : decode cX2_rehearse 36 = .ok (.aload_n 3, 1) := by decide +kernel
theorem dX2_rehearse_37 : decode cX2_rehearse 37 = .ok (.invokevirtual 165, 3) := by decide +kernel
theorem dX2_rehearse_40 : decode cX2_rehearse 40 = .ok (.iinc 4 1, 3) := by decide +kernel
theorem dX2_rehearse_43 : decode cX2_rehearse 43 = .ok (.goto (-13), 3) := by decide +kernel
theorem dX2_rehearse_46 : decode cX2_rehearse 46 = .ok (.aload_n 3, 1) := by decide +kernel
theorem dX2_rehearse_47 : decode cX2_rehearse 47 = .ok (.invokevirtual 168, 3) := by decide +kernel
