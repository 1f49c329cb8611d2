theorem dX3_faultsOf_26 : decode cX3_faultsOf 26 = .ok (.iconst 1, 1) := by decide +kernel
theorem dX3_faultsOf_27 : decode cX3_faultsOf 27 = .ok (.isub, 1) := by decide +kernel
theorem dX3_faultsOf_28 : decode cX3_faultsOf 28 = .ok (.iload 4, 2) := by decide +kernel
theorem dX3_faultsOf_30 : decode cX3_faultsOf 30 = .ok (.invokevirtual 78, 3) := by decide +kernel
theorem dX3_faultsOf_33 : decode cX3_faultsOf 33 = .ok (.isub, 1) := by decide +kernel
theorem dX3_faultsOf_34 : decode cX3_faultsOf 34 = .ok (.istore 5, 2) := by decide +kernel
theorem dX3_faultsOf_36 : decode cX3_faultsOf 36 = .ok (.iload_n 3, 1) := by decide +kernel
theorem dX3_faultsOf_37 : decode cX3_faultsOf 37 = .ok (.iload 5, 2) := by decide +kernel
theorem dX3_faultsOf_39 : decode cX3_faultsOf 39 = .ok (.bipush (-7), 2) := by decide +kernel
theorem dX3_faultsOf_41 : decode cX3_faultsOf 41 = .ok (.bipush 7, 2) := by decide +kernel
theorem dX3_faultsOf_43 : decode cX3_faultsOf 43 = .ok (.invokestatic 38, 3) := by decide +kernel
theorem dX3_faultsOf_46 : decode cX3_faultsOf 46 = .ok (.ifCond .eq 7, 3) := by decide +kernel
theorem dX3_faultsOf_49 : decode cX3_faultsOf 49 = .ok (.iconst 0, 1) := by decide +kernel
theorem dX3_faultsOf_50 : decode cX3_faultsOf 50 = .ok (.goto 4, 3) := by decide +kernel
theorem dX3_faultsOf_53 : decode cX3_faultsOf 53 = .ok (.iconst 1, 1) := by decide +kernel
theorem dX3_faultsOf_54 : decode cX3_faultsOf 54 = .ok (.iadd, 1) := by decide +kernel
theorem dX3_faultsOf_55 : decode cX3_faultsOf 55 = .ok (.istore_n 3, 1) := by decide +kernel
theorem dX3_faultsOf_56 : decode cX3_faultsOf 56 = .ok (.iload 4, 2) := by decide +kernel
theorem dX3_faultsOf_58 : decode cX3_faultsOf 58 = .ok (.iconst 1, 1) := by decide +kernel
theorem dX3_faultsOf_59 : decode cX3_faultsOf 59 = .ok (.iadd, 1) := by decide +kernel
theorem dX3_faultsOf_60 : decode cX3_faultsOf 60 = .ok (.istore 6, 2) := by decide +kernel
theorem dX3_faultsOf_62 : decode cX3_faultsOf 62 = .ok (.iload 6, 2) := by decide +kernel
theorem dX3_faultsOf_64 : decode cX3_faultsOf 64 = .ok (.iconst 4, 1) := by decide +kernel
theorem dX3_faultsOf_65 : decode cX3_faultsOf 65 = .ok (.if_icmp .ge 30, 3) := by decide +kernel
theorem dX3_faultsOf_68 : decode cX3_faultsOf 68 = .ok (.iload_n 3, 1) := by decide +kernel
theorem dX3_faultsOf_69 : decode cX3_faultsOf 69 = .ok (.aload_n 0, 1) := by decide +kernel
theorem dX3_faultsOf_70 : decode cX3_faultsOf 70 = .ok (.iload_n 1, 1) := by decide +kernel
theorem dX3_faultsOf_71 : decode cX3_faultsOf 71 = .ok (.iload_n 2, 1) := by decide +kernel
theorem dX3_faultsOf_72 : decode cX3_faultsOf 72 = .ok (.iload 4, 2) := by decide +kernel
theorem dX3_faultsOf_74 : decode cX3_faultsOf 74 = .ok (.iload 6, 2) := by decide +kernel
theorem dX3_faultsOf_76 : decode cX3_faultsOf 76 = .ok (.invokevirtual 91, 3) := by decide +kernel
theorem dX3_faultsOf_79 : decode cX3_faultsOf 79 = .ok (.ifCond .eq 7, 3) := by decide +kernel
theorem dX3_faultsOf_82 : decode cX3_faultsOf 82 = .ok (.iconst 3, 1) := by decide +kernel
theorem dX3_faultsOf_83 : decode cX3_faultsOf 83 = .ok (.goto 4, 3) := by decide +kernel
theorem dX3_faultsOf_86 : decode cX3_faultsOf 86 = .ok (.iconst 0, 1) := by decide +kernel
theorem dX3_faultsOf_87 : decode cX3_faultsOf 87 = .ok (.iadd, 1) := by decide +kernel
theorem dX3_faultsOf_88 : decode cX3_faultsOf 88 = .ok (.istore_n 3, 1) := by decide +kernel
theorem dX3_faultsOf_89 : decode cX3_faultsOf 89 = .ok (.iinc 6 1, 3) := by decide +kernel
theorem dX3_faultsOf_92 : decode cX3_faultsOf 92 = .ok (.goto (-30), 3) := by decide +kernel
theorem dX3_faultsOf_95 : decode cX3_faultsOf 95 = .ok (.iinc 4 1, 3) := by decide +kernel
theorem dX3_faultsOf_98 : decode cX3_faultsOf 98 = .ok (.goto (-93), 3) := by decide +kernel
theorem dX3_faultsOf_101 : decode cX3_faultsOf 101 = .ok (.iload_n 3, 1) := by decide +kernel
theorem dX3_faultsOf_102 : decode cX3_faultsOf 102 = .ok (.ireturn, 1) := by decide +kernel
theorem dX3_faultsAt_0 : decode cX3_faultsAt 0 = .ok (.aload_n 0, 1) := by decide +kernel
theorem dX3_faultsAt_1 : decode cX3_faultsAt 1 = .ok (.aload_n 0, 1) := by decide +kernel
theorem dX3_faultsAt_2 : decode cX3_faultsAt 2 = .ok (.iload_n 1, 1) := by decide +kernel
theorem dX3_faultsAt_3 : decode cX3_faultsAt 3 = .ok (.iload_n 2, 1) := by decide +kernel
theorem dX3_faultsAt_4 : decode cX3_faultsAt 4 = .ok (.invokevirtual 82, 3) := by decide +kernel
theorem dX3_faultsAt_7 : decode cX3_faultsAt 7 = .ok (.ifCond .eq 7, 3) := by decide +kernel
theorem dX3_faultsAt_10 : decode cX3_faultsAt 10 = .ok (.iconst 0, 1) := by decide +kernel
theorem dX3_faultsAt_11 : decode cX3_faultsAt 11 = .ok (.goto 4, 3) := by decide +kernel
theorem dX3_faultsAt_14 : decode cX3_faultsAt 14 = .ok (.iconst 1, 1) := by decide +kernel
theorem dX3_faultsAt_15 : decode cX3_faultsAt 15 = .ok (.invokevirtual 58, 3) := by decide +kernel
theorem dX3_faultsAt_18 : decode cX3_faultsAt 18 = .ok (.ifCond .eq 7, 3) := by decide +kernel
theorem dX3_faultsAt_21 : decode cX3_faultsAt 21 = .ok (.iconst 0, 1) := by decide +kernel
theorem dX3_faultsAt_22 : decode cX3_faultsAt 22 = .ok (.goto 9, 3) := by decide +kernel
theorem dX3_faultsAt_25 : decode cX3_faultsAt 25 = .ok (.aload_n 0, 1) := by decide +kernel
theorem dX3_faultsAt_26 : decode cX3_faultsAt 26 = .ok (.iload_n 1, 1) := by decide +kernel
theorem dX3_faultsAt_27 : decode cX3_faultsAt 27 = .ok (.iload_n 2, 1) := by decide +kernel
theorem dX3_faultsAt_28 : decode cX3_faultsAt 28 = .ok (.invokevirtual 95, 3) := by decide +kernel
theorem dX3_faultsAt_31 : decode cX3_faultsAt 31 = .ok (.ireturn, 1) := by decide +kernel
theorem dX3_allFaults_0 : decode cX3_allFaults 0 = .ok (.iconst 0, 1) := by decide +kernel
theorem dX3_allFaults_1 : decode cX3_allFaults 1 = .ok (.istore_n 2, 1) := by decide +kernel
theorem dX3_allFaults_2 : decode cX3_allFaults 2 = .ok (.iconst 1, 1) := by decide +kernel
theorem dX3_allFaults_3 : decode cX3_allFaults 3 = .ok (.istore_n 3, 1) := by decide +kernel
theorem dX3_allFaults_4 : decode cX3_allFaults 4 = .ok (.iload_n 3, 1) := by decide +kernel
theorem dX3_allFaults_5 : decode cX3_allFaults 5 = .ok (.aload_n 0, 1) := by decide +kernel
theorem dX3_allFaults_6 : decode cX3_allFaults 6 = .ok (.getfield 25, 3) := by decide +kernel
theorem dX3_allFaults_9 : decode cX3_allFaults 9 = .ok (.iload_n 1, 1) := by decide +kernel
theorem dX3_allFaults_10 : decode cX3_allFaults 10 = .ok (.iaload, 1) := by decide +kernel
theorem dX3_allFaults_11 : decode cX3_allFaults 11 = .ok (.if_icmp .ge 18, 3) := by decide +kernel
theorem dX3_allFaults_14 : decode cX3_allFaults 14 = .ok (.iload_n 2, 1) := by decide +kernel
theorem dX3_allFaults_15 : decode cX3_allFaults 15 = .ok (.aload_n 0, 1) := by decide +kernel
theorem dX3_allFaults_16 : decode cX3_allFaults 16 = .ok (.iload_n 1, 1) := by decide +kernel
theorem dX3_allFaults_17 : decode cX3_allFaults 17 = .ok (.iload_n 3, 1) := by decide +kernel
theorem dX3_allFaults_18 : decode cX3_allFaults 18 = .ok (.invokevirtual 95, 3) := by decide +kernel
theorem dX3_allFaults_21 : decode cX3_allFaults 21 = .ok (.iadd, 1) := by decide +kernel
theorem dX3_allFaults_22 : decode cX3_allFaults 22 = .ok (.istore_n 2, 1) := by decide +kernel
theorem dX3_allFaults_23 : decode cX3_allFaults 23 = .ok (.iinc 3 1, 3) := by decide +kernel
theorem dX3_allFaults_26 : decode cX3_allFaults 26 = .ok (.goto (-22), 3) := by decide +kernel
theorem dX3_allFaults_29 : decode cX3_allFaults 29 = .ok (.iload_n 2, 1) := by decide +kernel
theorem dX3_allFaults_30 : decode cX3_allFaults 30 = .ok (.ireturn, 1) := by decide +kernel
theorem dX3_faults_0 : decode cX3_faults 0 = .ok (.aload_n 0, 1) := by decide +kernel
theorem dX3_faults_1 : decode cX3_faults 1 = .ok (.aload_n 0, 1) := by decide +kernel
theorem dX3_faults_2 : decode cX3_faults 2 = .ok (.iload_n 1, 1) := by decide +kernel
theorem dX3_faults_3 : decode cX3_faults 3 = .ok (.invokevirtual 48, 3) := by decide +kernel
theorem dX3_faults_6 : decode cX3_faults 6 = .ok (.ifCond .eq 7, 3) := by decide +kernel
theorem dX3_faults_9 : decode cX3_faults 9 = .ok (.iconst 0, 1) := by decide +kernel
theorem dX3_faults_10 : decode cX3_faults 10 = .ok (.goto 4, 3) := by decide +kernel
theorem dX3_faults_13 : decode cX3_faults 13 = .ok (.iconst 1, 1) := by decide +kernel
theorem dX3_faults_14 : decode cX3_faults 14 = .ok (.invokevirtual 58, 3) := by decide +kernel
theorem dX3_faults_17 : decode cX3_faults 17 = .ok (.ifCond .eq 7, 3) := by decide +kernel
theorem dX3_faults_20 : decode cX3_faults 20 = .ok (.iconst 0, 1) := by decide +kernel
theorem dX3_faults_21 : decode cX3_faults 21 = .ok (.goto 8, 3) := by decide +kernel
theorem dX3_faults_24 : decode cX3_faults 24 = .ok (.aload_n 0, 1) := by decide +kernel
theorem dX3_faults_25 : decode cX3_faults 25 = .ok (.iload_n 1, 1) := by decide +kernel
theorem dX3_faults_26 : decode cX3_faults 26 = .ok (.invokevirtual 98, 3) := by decide +kernel
theorem dX3_faults_29 : decode cX3_faults 29 = .ok (.ireturn, 1) := by decide +kernel
theorem dX3_leastFaults_0 : decode cX3_leastFaults 0 = .ok (.aload_n 0, 1) := by decide +kernel
theorem dX3_leastFaults_1 : decode cX3_leastFaults 1 = .ok (.iload_n 1, 1) := by decide +kernel
theorem dX3_leastFaults_2 : decode cX3_leastFaults 2 = .ok (.iload_n 2, 1) := by decide +kernel
theorem dX3_leastFaults_3 : decode cX3_leastFaults 3 = .ok (.invokevirtual 82, 3) := by decide +kernel
theorem dX3_leastFaults_6 : decode cX3_leastFaults 6 = .ok (.ifCond .eq 23, 3) := by decide +kernel
theorem dX3_leastFaults_9 : decode cX3_leastFaults 9 = .ok (.iload_n 2, 1) := by decide +kernel
theorem dX3_leastFaults_10 : decode cX3_leastFaults 10 = .ok (.ifCond .le 19, 3) := by decide +kernel
theorem dX3_leastFaults_13 : decode cX3_leastFaults 13 = .ok (.iload_n 2, 1) := by decide +kernel
theorem dX3_leastFaults_14 : decode cX3_leastFaults 14 = .ok (.aload_n 0, 1) := by decide +kernel
theorem dX3_leastFaults_15 : decode cX3_leastFaults 15 = .ok (.getfield 25, 3) := by decide +kernel
theorem dX3_leastFaults_18 : decode cX3_leastFaults 18 = .ok (.iload_n 1, 1) := by decide +kernel
theorem dX3_leastFaults_19 : decode cX3_leastFaults 19 = .ok (.iaload, 1) := by decide +kernel
theorem dX3_leastFaults_20 : decode cX3_leastFaults 20 = .ok (.iconst 1, 1) := by decide +kernel
theorem dX3_leastFaults_21 : decode cX3_leastFaults 21 = .ok (.isub, 1) := by decide +kernel
theorem dX3_leastFaults_22 : decode cX3_leastFaults 22 = .ok (.if_icmp .ge 7, 3) := by decide +kernel
theorem dX3_leastFaults_25 : decode cX3_leastFaults 25 = .ok (.iconst 1, 1) := by decide +kernel
theorem dX3_leastFaults_26 : decode cX3_leastFaults 26 = .ok (.goto 4, 3) := by decide +kernel
theorem dX3_leastFaults_29 : decode cX3_leastFaults 29 = .ok (.iconst 0, 1) := by decide +kernel
theorem dX3_leastFaults_30 : decode cX3_leastFaults 30 = .ok (.istore 4, 2) := by decide +kernel
theorem dX3_leastFaults_32 : decode cX3_leastFaults 32 = .ok (.aload_n 0, 1) := by decide +kernel
theorem dX3_leastFaults_33 : decode cX3_leastFaults 33 = .ok (.iload 4, 2) := by decide +kernel
theorem dX3_leastFaults_35 : decode cX3_leastFaults 35 = .ok (.ifCond .ne 7, 3) := by decide +kernel
theorem dX3_leastFaults_38 : decode cX3_leastFaults 38 = .ok (.iconst 1, 1) := by decide +kernel
theorem dX3_leastFaults_39 : decode cX3_leastFaults 39 = .ok (.goto 15, 3) := by decide +kernel
theorem dX3_leastFaults_42 : decode cX3_leastFaults 42 = .ok (.iload_n 3, 1) := by decide +kernel
theorem dX3_leastFaults_43 : decode cX3_leastFaults 43 = .ok (.invokestatic 52, 3) := by decide +kernel
theorem dX3_leastFaults_46 : decode cX3_leastFaults 46 = .ok (.ifCond .eq 7, 3) := by decide +kernel
theorem dX3_leastFaults_49 : decode cX3_leastFaults 49 = .ok (.iconst 0, 1) := by decide +kernel
theorem dX3_leastFaults_50 : decode cX3_leastFaults 50 = .ok (.goto 4, 3) := by decide +kernel
theorem dX3_leastFaults_53 : decode cX3_leastFaults 53 = .ok (.iconst 2, 1) := by decide +kernel
theorem dX3_leastFaults_54 : decode cX3_leastFaults 54 = .ok (.invokevirtual 58, 3) := by decide +kernel
theorem dX3_leastFaults_57 : decode cX3_leastFaults 57 = .ok (.ifCond .eq 5, 3) := by decide +kernel
theorem dX3_leastFaults_60 : decode cX3_leastFaults 60 = .ok (.iconst 0, 1) := by decide +kernel
theorem dX3_leastFaults_61 : decode cX3_leastFaults 61 = .ok (.ireturn, 1) := by decide +kernel
theorem dX3_leastFaults_62 : decode cX3_leastFaults 62 = .ok (.aload_n 0, 1) := by decide +kernel
theorem dX3_leastFaults_63 : decode cX3_leastFaults 63 = .ok (.iload_n 1, 1) := by decide +kernel
theorem dX3_leastFaults_64 : decode cX3_leastFaults 64 = .ok (.iload_n 2, 1) := by decide +kernel
theorem dX3_leastFaults_65 : decode cX3_leastFaults 65 = .ok (.iload_n 3, 1) := by decide +kernel
theorem dX3_leastFaults_66 : decode cX3_leastFaults 66 = .ok (.invokevirtual 78, 3) := by decide +kernel
theorem dX3_leastFaults_69 : decode cX3_leastFaults 69 = .ok (.istore 5, 2) := by decide +kernel
theorem dX3_leastFaults_71 : decode cX3_leastFaults 71 = .ok (.aload_n 0, 1) := by decide +kernel
theorem dX3_leastFaults_72 : decode cX3_leastFaults 72 = .ok (.iload_n 1, 1) := by decide +kernel
theorem dX3_leastFaults_73 : decode cX3_leastFaults 73 = .ok (.invokevirtual 98, 3) := by decide +kernel
theorem dX3_leastFaults_76 : decode cX3_leastFaults 76 = .ok (.istore 6, 2) := by decide +kernel
theorem dX3_leastFaults_78 : decode cX3_leastFaults 78 = .ok (.aload_n 0, 1) := by decide +kernel
theorem dX3_leastFaults_79 : decode cX3_leastFaults 79 = .ok (.iload_n 1, 1) := by decide +kernel
theorem dX3_leastFaults_80 : decode cX3_leastFaults 80 = .ok (.iload_n 2, 1) := by decide +kernel
theorem dX3_leastFaults_81 : decode cX3_leastFaults 81 = .ok (.iload_n 3, 1) := by decide +kernel
theorem dX3_leastFaults_82 : decode cX3_leastFaults 82 = .ok (.invokevirtual 88, 3) := by decide +kernel
theorem dX3_leastFaults_85 : decode cX3_leastFaults 85 = .ok (.istore 7, 2) := by decide +kernel
theorem dX3_leastFaults_87 : decode cX3_leastFaults 87 = .ok (.aload_n 0, 1) := by decide +kernel
theorem dX3_leastFaults_88 : decode cX3_leastFaults 88 = .ok (.iload_n 1, 1) := by decide +kernel
theorem dX3_leastFaults_89 : decode cX3_leastFaults 89 = .ok (.iload_n 2, 1) := by decide +kernel
theorem dX3_leastFaults_90 : decode cX3_leastFaults 90 = .ok (.iload_n 3, 1) := by decide +kernel
theorem dX3_leastFaults_91 : decode cX3_leastFaults 91 = .ok (.invokevirtual 85, 3) := by decide +kernel
theorem dX3_leastFaults_94 : decode cX3_leastFaults 94 = .ok (.istore 8, 2) := by decide +kernel
theorem dX3_leastFaults_96 : decode cX3_leastFaults 96 = .ok (.iload 8, 2) := by decide +kernel
theorem dX3_leastFaults_98 : decode cX3_leastFaults 98 = .ok (.iload 7, 2) := by decide +kernel
theorem dX3_leastFaults_100 : decode cX3_leastFaults 100 = .ok (.if_icmp .gt 49, 3) := by decide +kernel
theorem dX3_leastFaults_103 : decode cX3_leastFaults 103 = .ok (.aload_n 0, 1) := by decide +kernel
theorem dX3_leastFaults_104 : decode cX3_leastFaults 104 = .ok (.getfield 22, 3) := by decide +kernel
theorem dX3_leastFaults_107 : decode cX3_leastFaults 107 = .ok (.bipush 64, 2) := by decide +kernel
theorem dX3_leastFaults_109 : decode cX3_leastFaults 109 = .ok (.iload_n 1, 1) := by decide +kernel
theorem dX3_leastFaults_110 : decode cX3_leastFaults 110 = .ok (.imul, 1) := by decide +kernel
theorem dX3_leastFaults_111 : decode cX3_leastFaults 111 = .ok (.iconst 4, 1) := by decide +kernel
theorem dX3_leastFaults_112 : decode cX3_leastFaults 112 = .ok (.iload_n 2, 1) := by decide +kernel
theorem dX3_leastFaults_113 : decode cX3_leastFaults 113 = .ok (.imul, 1) := by decide +kernel
theorem dX3_leastFaults_114 : decode cX3_leastFaults 114 = .ok (.iadd, 1) := by decide +kernel
theorem dX3_leastFaults_115 : decode cX3_leastFaults 115 = .ok (.iload_n 3, 1) := by decide +kernel
theorem dX3_leastFaults_116 : decode cX3_leastFaults 116 = .ok (.iadd, 1) := by decide +kernel
theorem dX3_leastFaults_117 : decode cX3_leastFaults 117 = .ok (.iload 8, 2) := by decide +kernel
theorem dX3_leastFaults_119 : decode cX3_leastFaults 119 = .ok (.iastore, 1) := by decide +kernel
theorem dX3_leastFaults_120 : decode cX3_leastFaults 120 = .ok (.aload_n 0, 1) := by decide +kernel
theorem dX3_leastFaults_121 : decode cX3_leastFaults 121 = .ok (.iload_n 1, 1) := by decide +kernel
theorem dX3_leastFaults_122 : decode cX3_leastFaults 122 = .ok (.invokevirtual 98, 3) := by decide +kernel
theorem dX3_leastFaults_125 : decode cX3_leastFaults 125 = .ok (.istore 9, 2) := by decide +kernel
theorem dX3_leastFaults_127 : decode cX3_leastFaults 127 = .ok (.iload 9, 2) := by decide +kernel
theorem dX3_leastFaults_129 : decode cX3_leastFaults 129 = .ok (.iload 6, 2) := by decide +kernel
theorem dX3_leastFaults_131 : decode cX3_leastFaults 131 = .ok (.if_icmp .ge 8, 3) := by decide +kernel
theorem dX3_leastFaults_134 : decode cX3_leastFaults 134 = .ok (.iload 9, 2) := by decide +kernel
theorem dX3_leastFaults_136 : decode cX3_leastFaults 136 = .ok (.goto 5, 3) := by decide +kernel
theorem dX3_leastFaults_139 : decode cX3_leastFaults 139 = .ok (.iload 6, 2) := by decide +kernel
theorem dX3_leastFaults_141 : decode cX3_leastFaults 141 = .ok (.istore 6, 2) := by decide +kernel
theorem dX3_leastFaults_143 : decode cX3_leastFaults 143 = .ok (.iinc 8 1, 3) := by decide +kernel
theorem dX3_leastFaults_146 : decode cX3_leastFaults 146 = .ok (.goto (-50), 3) := by decide +kernel
theorem dX3_leastFaults_149 : decode cX3_leastFaults 149 = .ok (.aload_n 0, 1) := by decide +kernel
theorem dX3_leastFaults_150 : decode cX3_leastFaults 150 = .ok (.getfield 22, 3) := by decide +kernel
theorem dX3_leastFaults_153 : decode cX3_leastFaults 153 = .ok (.bipush 64, 2) := by decide +kernel
theorem dX3_leastFaults_155 : decode cX3_leastFaults 155 = .ok (.iload_n 1, 1) := by decide +kernel
theorem dX3_leastFaults_156 : decode cX3_leastFaults 156 = .ok (.imul, 1) := by decide +kernel
theorem dX3_leastFaults_157 : decode cX3_leastFaults 157 = .ok (.iconst 4, 1) := by decide +kernel
theorem dX3_leastFaults_158 : decode cX3_leastFaults 158 = .ok (.iload_n 2, 1) := by decide +kernel
theorem dX3_leastFaults_159 : decode cX3_leastFaults 159 = .ok (.imul, 1) := by decide +kernel
theorem dX3_leastFaults_160 : decode cX3_leastFaults 160 = .ok (.iadd, 1) := by decide +kernel
theorem dX3_leastFaults_161 : decode cX3_leastFaults 161 = .ok (.iload_n 3, 1) := by decide +kernel
theorem dX3_leastFaults_162 : decode cX3_leastFaults 162 = .ok (.iadd, 1) := by decide +kernel
theorem dX3_leastFaults_163 : decode cX3_leastFaults 163 = .ok (.iload 5, 2) := by decide +kernel
theorem dX3_leastFaults_165 : decode cX3_leastFaults 165 = .ok (.iastore, 1) := by decide +kernel
theorem dX3_leastFaults_166 : decode cX3_leastFaults 166 = .ok (.iload 6, 2) := by decide +kernel
theorem dX3_leastFaults_168 : decode cX3_leastFaults 168 = .ok (.ireturn, 1) := by decide +kernel
theorem dX3_fits_0 : decode cX3_fits 0 = .ok (.iconst 1, 1) := by decide +kernel
theorem dX3_fits_1 : decode cX3_fits 1 = .ok (.istore 4, 2) := by decide +kernel
theorem dX3_fits_3 : decode cX3_fits 3 = .ok (.iconst 0, 1) := by decide +kernel
theorem dX3_fits_4 : decode cX3_fits 4 = .ok (.istore 5, 2) := by decide +kernel
theorem dX3_fits_6 : decode cX3_fits 6 = .ok (.iload 5, 2) := by decide +kernel
theorem dX3_fits_8 : decode cX3_fits 8 = .ok (.iconst 4, 1) := by decide +kernel
theorem dX3_fits_9 : decode cX3_fits 9 = .ok (.if_icmp .ge 80, 3) := by decide +kernel
theorem dX3_fits_12 : decode cX3_fits 12 = .ok (.aload_n 0, 1) := by decide +kernel
theorem dX3_fits_13 : decode cX3_fits 13 = .ok (.iload 5, 2) := by decide +kernel
theorem dX3_fits_15 : decode cX3_fits 15 = .ok (.iload_n 2, 1) := by decide +kernel
theorem dX3_fits_16 : decode cX3_fits 16 = .ok (.invokevirtual 71, 3) := by decide +kernel
theorem dX3_fits_19 : decode cX3_fits 19 = .ok (.istore 6, 2) := by decide +kernel
theorem dX3_fits_21 : decode cX3_fits 21 = .ok (.aload_n 0, 1) := by decide +kernel
theorem dX3_fits_22 : decode cX3_fits 22 = .ok (.iload 5, 2) := by decide +kernel
theorem dX3_fits_24 : decode cX3_fits 24 = .ok (.iload_n 2, 1) := by decide +kernel
theorem dX3_fits_25 : decode cX3_fits 25 = .ok (.invokevirtual 75, 3) := by decide +kernel
theorem dX3_fits_28 : decode cX3_fits 28 = .ok (.istore 7, 2) := by decide +kernel
theorem dX3_fits_30 : decode cX3_fits 30 = .ok (.iconst 0, 1) := by decide +kernel
theorem dX3_fits_31 : decode cX3_fits 31 = .ok (.istore 8, 2) := by decide +kernel
theorem dX3_fits_33 : decode cX3_fits 33 = .ok (.iload 8, 2) := by decide +kernel
theorem dX3_fits_35 : decode cX3_fits 35 = .ok (.aload_n 0, 1) := by decide +kernel
theorem dX3_fits_36 : decode cX3_fits 36 = .ok (.getfield 25, 3) := by decide +kernel
theorem dX3_fits_39 : decode cX3_fits 39 = .ok (.iload_n 1, 1) := by decide +kernel
theorem dX3_fits_40 : decode cX3_fits 40 = .ok (.iaload, 1) := by decide +kernel
theorem dX3_fits_41 : decode cX3_fits 41 = .ok (.if_icmp .ge 42, 3) := by decide +kernel
theorem dX3_fits_44 : decode cX3_fits 44 = .ok (.iload 4, 2) := by decide +kernel
theorem dX3_fits_46 : decode cX3_fits 46 = .ok (.ifCond .eq 28, 3) := by decide +kernel
theorem dX3_fits_49 : decode cX3_fits 49 = .ok (.aload_n 0, 1) := by decide +kernel
theorem dX3_fits_50 : decode cX3_fits 50 = .ok (.iload_n 1, 1) := by decide +kernel
theorem dX3_fits_51 : decode cX3_fits 51 = .ok (.iload 8, 2) := by decide +kernel
theorem dX3_fits_53 : decode cX3_fits 53 = .ok (.iload 5, 2) := by decide +kernel
theorem dX3_fits_55 : decode cX3_fits 55 = .ok (.invokevirtual 78, 3) := by decide +kernel
theorem dX3_fits_58 : decode cX3_fits 58 = .ok (.iload_n 3, 1) := by decide +kernel
theorem dX3_fits_59 : decode cX3_fits 59 = .ok (.iadd, 1) := by decide +kernel
theorem dX3_fits_60 : decode cX3_fits 60 = .ok (.iload 6, 2) := by decide +kernel
theorem dX3_fits_62 : decode cX3_fits 62 = .ok (.iload 7, 2) := by decide +kernel
theorem dX3_fits_64 : decode cX3_fits 64 = .ok (.invokestatic 38, 3) := by decide +kernel
theorem dX3_fits_67 : decode cX3_fits 67 = .ok (.ifCond .eq 7, 3) := by decide +kernel
theorem dX3_fits_70 : decode cX3_fits 70 = .ok (.iconst 1, 1) := by decide +kernel
theorem dX3_fits_71 : decode cX3_fits 71 = .ok (.goto 4, 3) := by decide +kernel
theorem dX3_fits_74 : decode cX3_fits 74 = .ok (.iconst 0, 1) := by decide +kernel
theorem dX3_fits_75 : decode cX3_fits 75 = .ok (.istore 4, 2) := by decide +kernel
theorem dX3_fits_77 : decode cX3_fits 77 = .ok (.iinc 8 1, 3) := by decide +kernel
theorem dX3_fits_80 : decode cX3_fits 80 = .ok (.goto (-47), 3) := by decide +kernel
theorem dX3_fits_83 : decode cX3_fits 83 = .ok (.iinc 5 1, 3) := by decide +kernel
theorem dX3_fits_86 : decode cX3_fits 86 = .ok (.goto (-80), 3) := by decide +kernel
theorem dX3_fits_89 : decode cX3_fits 89 = .ok (.iload 4, 2) := by decide +kernel
theorem dX3_fits_91 : decode cX3_fits 91 = .ok (.ireturn, 1) := by decide +kernel
theorem dX3_shiftOf_0 : decode cX3_shiftOf 0 = .ok (.iconst 0, 1) := by decide +kernel
theorem dX3_shiftOf_1 : decode cX3_shiftOf 1 = .ok (.istore_n 3, 1) := by decide +kernel
theorem dX3_shiftOf_2 : decode cX3_shiftOf 2 = .ok (.iload_n 3, 1) := by decide +kernel
theorem dX3_shiftOf_3 : decode cX3_shiftOf 3 = .ok (.bipush 12, 2) := by decide +kernel
theorem dX3_shiftOf_5 : decode cX3_shiftOf 5 = .ok (.if_icmp .gt 35, 3) := by decide +kernel
theorem dX3_shiftOf_8 : decode cX3_shiftOf 8 = .ok (.aload_n 0, 1) := by decide +kernel
theorem dX3_shiftOf_9 : decode cX3_shiftOf 9 = .ok (.iload_n 1, 1) := by decide +kernel
theorem dX3_shiftOf_10 : decode cX3_shiftOf 10 = .ok (.iload_n 2, 1) := by decide +kernel
theorem dX3_shiftOf_11 : decode cX3_shiftOf 11 = .ok (.iload_n 3, 1) := by decide +kernel
theorem dX3_shiftOf_12 : decode cX3_shiftOf 12 = .ok (.ineg, 1) := by decide +kernel
theorem dX3_shiftOf_13 : decode cX3_shiftOf 13 = .ok (.invokevirtual 102, 3) := by decide +kernel
theorem dX3_shiftOf_16 : decode cX3_shiftOf 16 = .ok (.ifCond .eq 6, 3) := by decide +kernel
theorem dX3_shiftOf_19 : decode cX3_shiftOf 19 = .ok (.iload_n 3, 1) := by decide +kernel
theorem dX3_shiftOf_20 : decode cX3_shiftOf 20 = .ok (.ineg, 1) := by decide +kernel
theorem dX3_shiftOf_21 : decode cX3_shiftOf 21 = .ok (.ireturn, 1) := by decide +kernel
theorem dX3_shiftOf_22 : decode cX3_shiftOf 22 = .ok (.aload_n 0, 1) := by decide +kernel
theorem dX3_shiftOf_23 : decode cX3_shiftOf 23 = .ok (.iload_n 1, 1) := by decide +kernel
theorem dX3_shiftOf_24 : decode cX3_shiftOf 24 = .ok (.iload_n 2, 1) := by decide +kernel
theorem dX3_shiftOf_25 : decode cX3_shiftOf 25 = .ok (.iload_n 3, 1) := by decide +kernel
theorem dX3_shiftOf_26 : decode cX3_shiftOf 26 = .ok (.invokevirtual 102, 3) := by decide +kernel
theorem dX3_shiftOf_29 : decode cX3_shiftOf 29 = .ok (.ifCond .eq 5, 3) := by decide +kernel
theorem dX3_shiftOf_32 : decode cX3_shiftOf 32 = .ok (.iload_n 3, 1) := by decide +kernel
theorem dX3_shiftOf_33 : decode cX3_shiftOf 33 = .ok (.ireturn, 1) := by decide +kernel
theorem dX3_shiftOf_34 : decode cX3_shiftOf 34 = .ok (.iinc 3 1, 3) := by decide +kernel
theorem dX3_shiftOf_37 : decode cX3_shiftOf 37 = .ok (.goto (-35), 3) := by decide +kernel
theorem dX3_shiftOf_40 : decode cX3_shiftOf 40 = .ok (.bipush 99, 2) := by decide +kernel
theorem dX3_shiftOf_42 : decode cX3_shiftOf 42 = .ok (.ireturn, 1) := by decide +kernel
theorem dX3_shift_0 : decode cX3_shift 0 = .ok (.aload_n 0, 1) := by decide +kernel
theorem dX3_shift_1 : decode cX3_shift 1 = .ok (.iload_n 1, 1) := by decide +kernel
theorem dX3_shift_2 : decode cX3_shift 2 = .ok (.invokevirtual 48, 3) := by decide +kernel
theorem dX3_shift_5 : decode cX3_shift 5 = .ok (.ifCond .eq 14, 3) := by decide +kernel
theorem dX3_shift_8 : decode cX3_shift 8 = .ok (.iload_n 2, 1) := by decide +kernel
theorem dX3_shift_9 : decode cX3_shift 9 = .ok (.invokestatic 64, 3) := by decide +kernel
theorem dX3_shift_12 : decode cX3_shift 12 = .ok (.ifCond .eq 7, 3) := by decide +kernel
theorem dX3_shift_15 : decode cX3_shift 15 = .ok (.iconst 1, 1) := by decide +kernel
theorem dX3_shift_16 : decode cX3_shift 16 = .ok (.goto 4, 3) := by decide +kernel
theorem dX3_shift_19 : decode cX3_shift 19 = .ok (.iconst 0, 1) := by decide +kernel
theorem dX3_shift_20 : decode cX3_shift 20 = .ok (.istore_n 3, 1) := by decide +kernel
theorem dX3_shift_21 : decode cX3_shift 21 = .ok (.iload_n 3, 1) := by decide +kernel
theorem dX3_shift_22 : decode cX3_shift 22 = .ok (.ifCond .eq 12, 3) := by decide +kernel
theorem dX3_shift_25 : decode cX3_shift 25 = .ok (.aload_n 0, 1) := by decide +kernel
theorem dX3_shift_26 : decode cX3_shift 26 = .ok (.iload_n 1, 1) := by decide +kernel
theorem dX3_shift_27 : decode cX3_shift 27 = .ok (.iload_n 2, 1) := by decide +kernel
theorem dX3_shift_28 : decode cX3_shift 28 = .ok (.invokevirtual 105, 3) := by decide +kernel
theorem dX3_shift_31 : decode cX3_shift 31 = .ok (.goto 4, 3) := by decide +kernel
theorem dX3_shift_34 : decode cX3_shift 34 = .ok (.iconst 0, 1) := by decide +kernel
theorem dX3_shift_35 : decode cX3_shift 35 = .ok (.istore 4, 2) := by decide +kernel
theorem dX3_shift_37 : decode cX3_shift 37 = .ok (.aload_n 0, 1) := by decide +kernel
theorem dX3_shift_38 : decode cX3_shift 38 = .ok (.aload_n 0, 1) := by decide +kernel
theorem dX3_shift_39 : decode cX3_shift 39 = .ok (.iload_n 1, 1) := by decide +kernel
theorem dX3_shift_40 : decode cX3_shift 40 = .ok (.invokevirtual 48, 3) := by decide +kernel
theorem dX3_shift_43 : decode cX3_shift 43 = .ok (.ifCond .ne 7, 3) := by decide +kernel
theorem dX3_shift_46 : decode cX3_shift 46 = .ok (.iconst 1, 1) := by decide +kernel
theorem dX3_shift_47 : decode cX3_shift 47 = .ok (.goto 23, 3) := by decide +kernel
theorem dX3_shift_50 : decode cX3_shift 50 = .ok (.iload_n 3, 1) := by decide +kernel
theorem dX3_shift_51 : decode cX3_shift 51 = .ok (.ifCond .ne 7, 3) := by decide +kernel
theorem dX3_shift_54 : decode cX3_shift 54 = .ok (.iconst 2, 1) := by decide +kernel
theorem dX3_shift_55 : decode cX3_shift 55 = .ok (.goto 15, 3) := by decide +kernel
theorem dX3_shift_58 : decode cX3_shift 58 = .ok (.iload 4, 2) := by decide +kernel
theorem dX3_shift_60 : decode cX3_shift 60 = .ok (.bipush 99, 2) := by decide +kernel
theorem dX3_shift_62 : decode cX3_shift 62 = .ok (.if_icmp .ne 7, 3) := by decide +kernel
theorem dX3_shift_65 : decode cX3_shift 65 = .ok (.iconst 3, 1) := by decide +kernel
theorem dX3_shift_66 : decode cX3_shift 66 = .ok (.goto 4, 3) := by decide +kernel
theorem dX3_shift_69 : decode cX3_shift 69 = .ok (.iconst 0, 1) := by decide +kernel
theorem dX3_shift_70 : decode cX3_shift 70 = .ok (.invokevirtual 58, 3) := by decide +kernel
theorem dX3_shift_73 : decode cX3_shift 73 = .ok (.ifCond .eq 7, 3) := by decide +kernel
theorem dX3_shift_76 : decode cX3_shift 76 = .ok (.iconst 0, 1) := by decide +kernel
theorem dX3_shift_77 : decode cX3_shift 77 = .ok (.goto 5, 3) := by decide +kernel
theorem dX3_shift_80 : decode cX3_shift 80 = .ok (.iload 4, 2) := by decide +kernel
theorem dX3_shift_82 : decode cX3_shift 82 = .ok (.ireturn, 1) := by decide +kernel
theorem dX3_dates_0 : decode cX3_dates 0 = .ok (.aload_n 0, 1) := by decide +kernel
theorem dX3_dates_1 : decode cX3_dates 1 = .ok (.aload_n 0, 1) := by decide +kernel
theorem dX3_dates_2 : decode cX3_dates 2 = .ok (.iload_n 1, 1) := by decide +kernel
theorem dX3_dates_3 : decode cX3_dates 3 = .ok (.invokevirtual 48, 3) := by decide +kernel
theorem dX3_dates_6 : decode cX3_dates 6 = .ok (.ifCond .eq 7, 3) := by decide +kernel
theorem dX3_dates_9 : decode cX3_dates 9 = .ok (.iconst 0, 1) := by decide +kernel
theorem dX3_dates_10 : decode cX3_dates 10 = .ok (.goto 4, 3) := by decide +kernel
theorem dX3_dates_13 : decode cX3_dates 13 = .ok (.iconst 1, 1) := by decide +kernel
theorem dX3_dates_14 : decode cX3_dates 14 = .ok (.invokevirtual 58, 3) := by decide +kernel
theorem dX3_dates_17 : decode cX3_dates 17 = .ok (.ifCond .eq 5, 3) := by decide +kernel
theorem dX3_dates_20 : decode cX3_dates 20 = .ok (.iconst 0, 1) := by decide +kernel
theorem dX3_dates_21 : decode cX3_dates 21 = .ok (.ireturn, 1) := by decide +kernel
theorem dX3_dates_22 : decode cX3_dates 22 = .ok (.iconst 0, 1) := by decide +kernel
theorem dX3_dates_23 : decode cX3_dates 23 = .ok (.istore_n 2, 1) := by decide +kernel
theorem dX3_dates_24 : decode cX3_dates 24 = .ok (.iconst 0, 1) := by decide +kernel
theorem dX3_dates_25 : decode cX3_dates 25 = .ok (.istore_n 3, 1) := by decide +kernel
theorem dX3_dates_26 : decode cX3_dates 26 = .ok (.iload_n 3, 1) := by decide +kernel
theorem dX3_dates_27 : decode cX3_dates 27 = .ok (.bipush 31, 2) := by decide +kernel
theorem dX3_dates_29 : decode cX3_dates 29 = .ok (.if_icmp .ge 28, 3) := by decide +kernel
theorem dX3_dates_32 : decode cX3_dates 32 = .ok (.iload_n 2, 1) := by decide +kernel
theorem dX3_dates_33 : decode cX3_dates 33 = .ok (.aload_n 0, 1) := by decide +kernel
theorem dX3_dates_34 : decode cX3_dates 34 = .ok (.iload_n 1, 1) := by decide +kernel
theorem dX3_dates_35 : decode cX3_dates 35 = .ok (.iload_n 3, 1) := by decide +kernel
theorem dX3_dates_36 : decode cX3_dates 36 = .ok (.invokevirtual 105, 3) := by decide +kernel
theorem dX3_dates_39 : decode cX3_dates 39 = .ok (.bipush 99, 2) := by decide +kernel
theorem dX3_dates_41 : decode cX3_dates 41 = .ok (.if_icmp .ne 7, 3) := by decide +kernel
theorem dX3_dates_44 : decode cX3_dates 44 = .ok (.iconst 0, 1) := by decide +kernel
theorem dX3_dates_45 : decode cX3_dates 45 = .ok (.goto 4, 3) := by decide +kernel
theorem dX3_dates_48 : decode cX3_dates 48 = .ok (.iconst 1, 1) := by decide +kernel
theorem dX3_dates_49 : decode cX3_dates 49 = .ok (.iadd, 1) := by decide +kernel
theorem dX3_dates_50 : decode cX3_dates 50 = .ok (.istore_n 2, 1) := by decide +kernel
theorem dX3_dates_51 : decode cX3_dates 51 = .ok (.iinc 3 1, 3) := by decide +kernel
theorem dX3_dates_54 : decode cX3_dates 54 = .ok (.goto (-28), 3) := by decide +kernel
theorem dX3_dates_57 : decode cX3_dates 57 = .ok (.iload_n 2, 1) := by decide +kernel
theorem dX3_dates_58 : decode cX3_dates 58 = .ok (.ireturn, 1) := by decide +kernel
theorem dX3_missed_0 : decode cX3_missed 0 = .ok (.aload_n 0, 1) := by decide +kernel
theorem dX3_missed_1 : decode cX3_missed 1 = .ok (.iload_n 1, 1) := by decide +kernel
theorem dX3_missed_2 : decode cX3_missed 2 = .ok (.invokestatic 64, 3) := by decide +kernel
theorem dX3_missed_5 : decode cX3_missed 5 = .ok (.ifCond .eq 7, 3) := by decide +kernel
theorem dX3_missed_8 : decode cX3_missed 8 = .ok (.iconst 0, 1) := by decide +kernel
theorem dX3_missed_9 : decode cX3_missed 9 = .ok (.goto 4, 3) := by decide +kernel
theorem dX3_missed_12 : decode cX3_missed 12 = .ok (.iconst 1, 1) := by decide +kernel
theorem dX3_missed_13 : decode cX3_missed 13 = .ok (.invokevirtual 58, 3) := by decide +kernel
theorem dX3_missed_16 : decode cX3_missed 16 = .ok (.ifCond .eq 5, 3) := by decide +kernel
theorem dX3_missed_19 : decode cX3_missed 19 = .ok (.iconst 0, 1) := by decide +kernel
theorem dX3_missed_20 : decode cX3_missed 20 = .ok (.ireturn, 1) := by decide +kernel
theorem dX3_missed_21 : decode cX3_missed 21 = .ok (.iconst 0, 1) := by decide +kernel
theorem dX3_missed_22 : decode cX3_missed 22 = .ok (.istore_n 2, 1) := by decide +kernel
theorem dX3_missed_23 : decode cX3_missed 23 = .ok (.iconst 0, 1) := by decide +kernel
theorem dX3_missed_24 : decode cX3_missed 24 = .ok (.istore_n 3, 1) := by decide +kernel
theorem dX3_missed_25 : decode cX3_missed 25 = .ok (.iload_n 3, 1) := by decide +kernel
theorem dX3_missed_26 : decode cX3_missed 26 = .ok (.aload_n 0, 1) := by decide +kernel
theorem dX3_missed_27 : decode cX3_missed 27 = .ok (.getfield 42, 3) := by decide +kernel
theorem dX3_missed_30 : decode cX3_missed 30 = .ok (.if_icmp .ge 42, 3) := by decide +kernel
theorem dX3_missed_33 : decode cX3_missed 33 = .ok (.iload_n 2, 1) := by decide +kernel
theorem dX3_missed_34 : decode cX3_missed 34 = .ok (.aload_n 0, 1) := by decide +kernel
theorem dX3_missed_35 : decode cX3_missed 35 = .ok (.iload_n 3, 1) := by decide +kernel
theorem dX3_missed_36 : decode cX3_missed 36 = .ok (.iload_n 1, 1) := by decide +kernel
theorem dX3_missed_37 : decode cX3_missed 37 = .ok (.invokevirtual 67, 3) := by decide +kernel
theorem dX3_missed_40 : decode cX3_missed 40 = .ok (.ifCond .ne 23, 3) := by decide +kernel
theorem dX3_missed_43 : decode cX3_missed 43 = .ok (.aload_n 0, 1) := by decide +kernel
theorem dX3_missed_44 : decode cX3_missed 44 = .ok (.aload_n 0, 1) := by decide +kernel
theorem dX3_missed_45 : decode cX3_missed 45 = .ok (.getfield 7, 3) := by decide +kernel
theorem dX3_missed_48 : decode cX3_missed 48 = .ok (.iload_n 3, 1) := by decide +kernel
theorem dX3_missed_49 : decode cX3_missed 49 = .ok (.iaload, 1) := by decide +kernel
theorem dX3_missed_50 : decode cX3_missed 50 = .ok (.iload_n 1, 1) := by decide +kernel
theorem dX3_missed_51 : decode cX3_missed 51 = .ok (.invokevirtual 71, 3) := by decide +kernel
theorem dX3_missed_54 : decode cX3_missed 54 = .ok (.bipush 61, 2) := by decide +kernel
theorem dX3_missed_56 : decode cX3_missed 56 = .ok (.if_icmp .ne 7, 3) := by decide +kernel
theorem dX3_missed_59 : decode cX3_missed 59 = .ok (.iconst 1, 1) := by decide +kernel
theorem dX3_missed_60 : decode cX3_missed 60 = .ok (.goto 4, 3) := by decide +kernel
theorem dX3_missed_63 : decode cX3_missed 63 = .ok (.iconst 0, 1) := by decide +kernel
theorem dX3_missed_64 : decode cX3_missed 64 = .ok (.iadd, 1) := by decide +kernel
theorem dX3_missed_65 : decode cX3_missed 65 = .ok (.istore_n 2, 1) := by decide +kernel
theorem dX3_missed_66 : decode cX3_missed 66 = .ok (.iinc 3 1, 3) := by decide +kernel
theorem dX3_missed_69 : decode cX3_missed 69 = .ok (.goto (-44), 3) := by decide +kernel
theorem dX3_missed_72 : decode cX3_missed 72 = .ok (.iload_n 2, 1) := by decide +kernel
theorem dX3_missed_73 : decode cX3_missed 73 = .ok (.ireturn, 1) := by decide +kernel
theorem dX3_lengthOf_0 : decode cX3_lengthOf 0 = .ok (.iconst 0, 1) := by decide +kernel
theorem dX3_lengthOf_1 : decode cX3_lengthOf 1 = .ok (.istore_n 2, 1) := by decide +kernel
theorem dX3_lengthOf_2 : decode cX3_lengthOf 2 = .ok (.iconst 0, 1) := by decide +kernel
theorem dX3_lengthOf_3 : decode cX3_lengthOf 3 = .ok (.istore_n 3, 1) := by decide +kernel
theorem dX3_lengthOf_4 : decode cX3_lengthOf 4 = .ok (.iload_n 3, 1) := by decide +kernel
theorem dX3_lengthOf_5 : decode cX3_lengthOf 5 = .ok (.aload_n 0, 1) := by decide +kernel
theorem dX3_lengthOf_6 : decode cX3_lengthOf 6 = .ok (.getfield 45, 3) := by decide +kernel
theorem dX3_lengthOf_9 : decode cX3_lengthOf 9 = .ok (.if_icmp .ge 24, 3) := by decide +kernel
theorem dX3_lengthOf_12 : decode cX3_lengthOf 12 = .ok (.iload_n 2, 1) := by decide +kernel
theorem dX3_lengthOf_13 : decode cX3_lengthOf 13 = .ok (.iload_n 1, 1) := by decide +kernel
theorem dX3_lengthOf_14 : decode cX3_lengthOf 14 = .ok (.iload_n 3, 1) := by decide +kernel
theorem dX3_lengthOf_15 : decode cX3_lengthOf 15 = .ok (.ishr, 1) := by decide +kernel
theorem dX3_lengthOf_16 : decode cX3_lengthOf 16 = .ok (.iconst 1, 1) := by decide +kernel
theorem dX3_lengthOf_17 : decode cX3_lengthOf 17 = .ok (.iand, 1) := by decide +kernel
theorem dX3_lengthOf_18 : decode cX3_lengthOf 18 = .ok (.aload_n 0, 1) := by decide +kernel
theorem dX3_lengthOf_19 : decode cX3_lengthOf 19 = .ok (.getfield 28, 3) := by decide +kernel
theorem dX3_lengthOf_22 : decode cX3_lengthOf 22 = .ok (.iload_n 3, 1) := by decide +kernel
theorem dX3_lengthOf_23 : decode cX3_lengthOf 23 = .ok (.iaload, 1) := by decide +kernel
theorem dX3_lengthOf_24 : decode cX3_lengthOf 24 = .ok (.imul, 1) := by decide +kernel
theorem dX3_lengthOf_25 : decode cX3_lengthOf 25 = .ok (.iadd, 1) := by decide +kernel
theorem dX3_lengthOf_26 : decode cX3_lengthOf 26 = .ok (.istore_n 2, 1) := by decide +kernel
theorem dX3_lengthOf_27 : decode cX3_lengthOf 27 = .ok (.iinc 3 1, 3) := by decide +kernel
theorem dX3_lengthOf_30 : decode cX3_lengthOf 30 = .ok (.goto (-26), 3) := by decide +kernel
theorem dX3_lengthOf_33 : decode cX3_lengthOf 33 = .ok (.iload_n 2, 1) := by decide +kernel
theorem dX3_lengthOf_34 : decode cX3_lengthOf 34 = .ok (.ireturn, 1) := by decide +kernel
theorem dX3_bits_0 : decode cX3_bits 0 = .ok (.iconst 0, 1) := by decide +kernel
theorem dX3_bits_1 : decode cX3_bits 1 = .ok (.istore_n 1, 1) := by decide +kernel
theorem dX3_bits_2 : decode cX3_bits 2 = .ok (.iload_n 0, 1) := by decide +kernel
theorem dX3_bits_3 : decode cX3_bits 3 = .ok (.istore_n 2, 1) := by decide +kernel
theorem dX3_bits_4 : decode cX3_bits 4 = .ok (.iload_n 2, 1) := by decide +kernel
theorem dX3_bits_5 : decode cX3_bits 5 = .ok (.ifCond .eq 15, 3) := by decide +kernel
theorem dX3_bits_8 : decode cX3_bits 8 = .ok (.iinc 1 1, 3) := by decide +kernel
theorem dX3_bits_11 : decode cX3_bits 11 = .ok (.iload_n 2, 1) := by decide +kernel
theorem dX3_bits_12 : decode cX3_bits 12 = .ok (.iload_n 2, 1) := by decide +kernel
theorem dX3_bits_13 : decode cX3_bits 13 = .ok (.iconst 1, 1) := by decide +kernel
theorem dX3_bits_14 : decode cX3_bits 14 = .ok (.isub, 1) := by decide +kernel
theorem dX3_bits_15 : decode cX3_bits 15 = .ok (.iand, 1) := by decide +kernel
theorem dX3_bits_16 : decode cX3_bits 16 = .ok (.istore_n 2, 1) := by decide +kernel
theorem dX3_bits_17 : decode cX3_bits 17 = .ok (.goto (-13), 3) := by decide +kernel
theorem dX3_bits_20 : decode cX3_bits 20 = .ok (.iload_n 1, 1) := by decide +kernel
theorem dX3_bits_21 : decode cX3_bits 21 = .ok (.ireturn, 1) := by decide +kernel
theorem dX3_isBetter_0 : decode cX3_isBetter 0 = .ok (.aload_n 0, 1) := by decide +kernel
theorem dX3_isBetter_1 : decode cX3_isBetter 1 = .ok (.iload_n 1, 1) := by decide +kernel
theorem dX3_isBetter_2 : decode cX3_isBetter 2 = .ok (.invokevirtual 108, 3) := by decide +kernel
theorem dX3_isBetter_5 : decode cX3_isBetter 5 = .ok (.aload_n 0, 1) := by decide +kernel
theorem dX3_isBetter_6 : decode cX3_isBetter 6 = .ok (.iload_n 2, 1) := by decide +kernel
theorem dX3_isBetter_7 : decode cX3_isBetter 7 = .ok (.invokevirtual 108, 3) := by decide +kernel
theorem dX3_isBetter_10 : decode cX3_isBetter 10 = .ok (.isub, 1) := by decide +kernel
theorem dX3_isBetter_11 : decode cX3_isBetter 11 = .ok (.istore_n 3, 1) := by decide +kernel
theorem dX3_isBetter_12 : decode cX3_isBetter 12 = .ok (.iload_n 2, 1) := by decide +kernel
theorem dX3_isBetter_13 : decode cX3_isBetter 13 = .ok (.invokestatic 111, 3) := by decide +kernel
theorem dX3_isBetter_16 : decode cX3_isBetter 16 = .ok (.iload_n 1, 1) := by decide +kernel
theorem dX3_isBetter_17 : decode cX3_isBetter 17 = .ok (.invokestatic 111, 3) := by decide +kernel
theorem dX3_isBetter_20 : decode cX3_isBetter 20 = .ok (.isub, 1) := by decide +kernel
theorem dX3_isBetter_21 : decode cX3_isBetter 21 = .ok (.istore 4, 2) := by decide +kernel
theorem dX3_isBetter_23 : decode cX3_isBetter 23 = .ok (.iload_n 1, 1) := by decide +kernel
theorem dX3_isBetter_24 : decode cX3_isBetter 24 = .ok (.iload_n 2, 1) := by decide +kernel
theorem dX3_isBetter_25 : decode cX3_isBetter 25 = .ok (.ixor, 1) := by decide +kernel
theorem dX3_isBetter_26 : decode cX3_isBetter 26 = .ok (.istore 5, 2) := by decide +kernel
theorem dX3_isBetter_28 : decode cX3_isBetter 28 = .ok (.iload 5, 2) := by decide +kernel
theorem dX3_isBetter_30 : decode cX3_isBetter 30 = .ok (.iload 5, 2) := by decide +kernel
theorem dX3_isBetter_32 : decode cX3_isBetter 32 = .ok (.ineg, 1) := by decide +kernel
theorem dX3_isBetter_33 : decode cX3_isBetter 33 = .ok (.iand, 1) := by decide +kernel
theorem dX3_isBetter_34 : decode cX3_isBetter 34 = .ok (.iload_n 1, 1) := by decide +kernel
theorem dX3_isBetter_35 : decode cX3_isBetter 35 = .ok (.iand, 1) := by decide +kernel
theorem dX3_isBetter_36 : decode cX3_isBetter 36 = .ok (.ifCond .eq 7, 3) := by decide +kernel
theorem dX3_isBetter_39 : decode cX3_isBetter 39 = .ok (.iconst 1, 1) := by decide +kernel
theorem dX3_isBetter_40 : decode cX3_isBetter 40 = .ok (.goto 4, 3) := by decide +kernel
theorem dX3_isBetter_43 : decode cX3_isBetter 43 = .ok (.iconst 0, 1) := by decide +kernel
theorem dX3_isBetter_44 : decode cX3_isBetter 44 = .ok (.istore 6, 2) := by decide +kernel
theorem dX3_isBetter_46 : decode cX3_isBetter 46 = .ok (.iload_n 3, 1) := by decide +kernel
theorem dX3_isBetter_47 : decode cX3_isBetter 47 = .ok (.ifCond .gt 22, 3) := by decide +kernel
theorem dX3_isBetter_50 : decode cX3_isBetter 50 = .ok (.iload_n 3, 1) := by decide +kernel
theorem dX3_isBetter_51 : decode cX3_isBetter 51 = .ok (.ifCond .ne 22, 3) := by decide +kernel
theorem dX3_isBetter_54 : decode cX3_isBetter 54 = .ok (.iload 4, 2) := by decide +kernel
theorem dX3_isBetter_56 : decode cX3_isBetter 56 = .ok (.ifCond .gt 13, 3) := by decide +kernel
theorem dX3_isBetter_59 : decode cX3_isBetter 59 = .ok (.iload 4, 2) := by decide +kernel
theorem dX3_isBetter_61 : decode cX3_isBetter 61 = .ok (.ifCond .ne 12, 3) := by decide +kernel
theorem dX3_isBetter_64 : decode cX3_isBetter 64 = .ok (.iload 6, 2) := by decide +kernel
theorem dX3_isBetter_66 : decode cX3_isBetter 66 = .ok (.ifCond .eq 7, 3) := by decide +kernel
theorem dX3_isBetter_69 : decode cX3_isBetter 69 = .ok (.iconst 1, 1) := by decide +kernel
theorem dX3_isBetter_70 : decode cX3_isBetter 70 = .ok (.goto 4, 3) := by decide +kernel
theorem dX3_isBetter_73 : decode cX3_isBetter 73 = .ok (.iconst 0, 1) := by decide +kernel
theorem dX3_isBetter_74 : decode cX3_isBetter 74 = .ok (.ireturn, 1) := by decide +kernel
theorem dX3_planned_0 : decode cX3_planned 0 = .ok (.iconst 0, 1) := by decide +kernel
theorem dX3_planned_1 : decode cX3_planned 1 = .ok (.istore_n 3, 1) := by decide +kernel
theorem dX3_planned_2 : decode cX3_planned 2 = .ok (.iconst 0, 1) := by decide +kernel
theorem dX3_planned_3 : decode cX3_planned 3 = .ok (.istore 4, 2) := by decide +kernel
theorem dX3_planned_5 : decode cX3_planned 5 = .ok (.iload 4, 2) := by decide +kernel
theorem dX3_planned_7 : decode cX3_planned 7 = .ok (.aload_n 0, 1) := by decide +kernel
theorem dX3_planned_8 : decode cX3_planned 8 = .ok (.getfield 45, 3) := by decide +kernel
theorem dX3_planned_11 : decode cX3_planned 11 = .ok (.if_icmp .ge 32, 3) := by decide +kernel
theorem dX3_planned_14 : decode cX3_planned 14 = .ok (.iload_n 3, 1) := by decide +kernel
theorem dX3_planned_15 : decode cX3_planned 15 = .ok (.aload_n 0, 1) := by decide +kernel
theorem dX3_planned_16 : decode cX3_planned 16 = .ok (.iload 4, 2) := by decide +kernel
theorem dX3_planned_18 : decode cX3_planned 18 = .ok (.iload_n 1, 1) := by decide +kernel
theorem dX3_planned_19 : decode cX3_planned 19 = .ok (.invokevirtual 105, 3) := by decide +kernel
theorem dX3_planned_22 : decode cX3_planned 22 = .ok (.bipush 99, 2) := by decide +kernel
theorem dX3_planned_24 : decode cX3_planned 24 = .ok (.if_icmp .ne 7, 3) := by decide +kernel
theorem dX3_planned_27 : decode cX3_planned 27 = .ok (.iconst 0, 1) := by decide +kernel
theorem dX3_planned_28 : decode cX3_planned 28 = .ok (.goto 7, 3) := by decide +kernel
theorem dX3_planned_31 : decode cX3_planned 31 = .ok (.iconst 1, 1) := by decide +kernel
theorem dX3_planned_32 : decode cX3_planned 32 = .ok (.iload 4, 2) := by decide +kernel
theorem dX3_planned_34 : decode cX3_planned 34 = .ok (.ishl, 1) := by decide +kernel
theorem dX3_planned_35 : decode cX3_planned 35 = .ok (.ior, 1) := by decide +kernel
theorem dX3_planned_36 : decode cX3_planned 36 = .ok (.istore_n 3, 1) := by decide +kernel
theorem dX3_planned_37 : decode cX3_planned 37 = .ok (.iinc 4 1, 3) := by decide +kernel
theorem dX3_planned_40 : decode cX3_planned 40 = .ok (.goto (-35), 3) := by decide +kernel
theorem dX3_planned_43 : decode cX3_planned 43 = .ok (.iconst 0, 1) := by decide +kernel
theorem dX3_planned_44 : decode cX3_planned 44 = .ok (.istore 4, 2) := by decide +kernel
theorem dX3_planned_46 : decode cX3_planned 46 = .ok (.iconst 1, 1) := by decide +kernel
theorem dX3_planned_47 : decode cX3_planned 47 = .ok (.istore 5, 2) := by decide +kernel
theorem dX3_planned_49 : decode cX3_planned 49 = .ok (.iload 5, 2) := by decide +kernel
theorem dX3_planned_51 : decode cX3_planned 51 = .ok (.iconst 1, 1) := by decide +kernel
theorem dX3_planned_52 : decode cX3_planned 52 = .ok (.aload_n 0, 1) := by decide +kernel
theorem dX3_planned_53 : decode cX3_planned 53 = .ok (.getfield 45, 3) := by decide +kernel
theorem dX3_planned_56 : decode cX3_planned 56 = .ok (.ishl, 1) := by decide +kernel
theorem dX3_planned_57 : decode cX3_planned 57 = .ok (.if_icmp .ge 60, 3) := by decide +kernel
theorem dX3_planned_60 : decode cX3_planned 60 = .ok (.iload 5, 2) := by decide +kernel
theorem dX3_planned_62 : decode cX3_planned 62 = .ok (.iload_n 3, 1) := by decide +kernel
theorem dX3_planned_63 : decode cX3_planned 63 = .ok (.iconst (-1), 1) := by decide +kernel
theorem dX3_planned_64 : decode cX3_planned 64 = .ok (.ixor, 1) := by decide +kernel
theorem dX3_planned_65 : decode cX3_planned 65 = .ok (.iand, 1) := by decide +kernel
theorem dX3_planned_66 : decode cX3_planned 66 = .ok (.ifCond .ne 17, 3) := by decide +kernel
theorem dX3_planned_69 : decode cX3_planned 69 = .ok (.aload_n 0, 1) := by decide +kernel
theorem dX3_planned_70 : decode cX3_planned 70 = .ok (.iload 5, 2) := by decide +kernel
theorem dX3_planned_72 : decode cX3_planned 72 = .ok (.invokevirtual 108, 3) := by decide +kernel
theorem dX3_planned_75 : decode cX3_planned 75 = .ok (.iload_n 2, 1) := by decide +kernel
theorem dX3_planned_76 : decode cX3_planned 76 = .ok (.if_icmp .gt 7, 3) := by decide +kernel
theorem dX3_planned_79 : decode cX3_planned 79 = .ok (.iconst 1, 1) := by decide +kernel
theorem dX3_planned_80 : decode cX3_planned 80 = .ok (.goto 4, 3) := by decide +kernel
theorem dX3_planned_83 : decode cX3_planned 83 = .ok (.iconst 0, 1) := by decide +kernel
theorem dX3_planned_84 : decode cX3_planned 84 = .ok (.istore 6, 2) := by decide +kernel
theorem dX3_planned_86 : decode cX3_planned 86 = .ok (.iload 6, 2) := by decide +kernel
theorem dX3_planned_88 : decode cX3_planned 88 = .ok (.ifCond .eq 19, 3) := by decide +kernel
theorem dX3_planned_91 : decode cX3_planned 91 = .ok (.aload_n 0, 1) := by decide +kernel
theorem dX3_planned_92 : decode cX3_planned 92 = .ok (.iload 5, 2) := by decide +kernel
theorem dX3_planned_94 : decode cX3_planned 94 = .ok (.iload 4, 2) := by decide +kernel
theorem dX3_planned_96 : decode cX3_planned 96 = .ok (.invokevirtual 114, 3) := by decide +kernel
theorem dX3_planned_99 : decode cX3_planned 99 = .ok (.ifCond .eq 8, 3) := by decide +kernel
theorem dX3_planned_102 : decode cX3_planned 102 = .ok (.iload 5, 2) := by decide +kernel
theorem dX3_planned_104 : decode cX3_planned 104 = .ok (.goto 5, 3) := by decide +kernel
theorem dX3_planned_107 : decode cX3_planned 107 = .ok (.iload 4, 2) := by decide +kernel
theorem dX3_planned_109 : decode cX3_planned 109 = .ok (.istore 4, 2) := by decide +kernel
theorem dX3_planned_111 : decode cX3_planned 111 = .ok (.iinc 5 1, 3) := by decide +kernel
theorem dX3_planned_114 : decode cX3_planned 114 = .ok (.goto (-65), 3) := by decide +kernel
theorem dX3_planned_117 : decode cX3_planned 117 = .ok (.iload 4, 2) := by decide +kernel
theorem dX3_planned_119 : decode cX3_planned 119 = .ok (.ireturn, 1) := by decide +kernel
theorem dX3_noDate_0 : decode cX3_noDate 0 = .ok (.aload_n 0, 1) := by decide +kernel
theorem dX3_noDate_1 : decode cX3_noDate 1 = .ok (.iload_n 1, 1) := by decide +kernel
theorem dX3_noDate_2 : decode cX3_noDate 2 = .ok (.invokestatic 64, 3) := by decide +kernel
theorem dX3_noDate_5 : decode cX3_noDate 5 = .ok (.ifCond .eq 18, 3) := by decide +kernel
theorem dX3_noDate_8 : decode cX3_noDate 8 = .ok (.iload_n 2, 1) := by decide +kernel
theorem dX3_noDate_9 : decode cX3_noDate 9 = .ok (.iconst 0, 1) := by decide +kernel
theorem dX3_noDate_10 : decode cX3_noDate 10 = .ok (.sipush 20000, 3) := by decide +kernel
theorem dX3_noDate_13 : decode cX3_noDate 13 = .ok (.invokestatic 38, 3) := by decide +kernel
theorem dX3_noDate_16 : decode cX3_noDate 16 = .ok (.ifCond .eq 7, 3) := by decide +kernel
theorem dX3_noDate_19 : decode cX3_noDate 19 = .ok (.iconst 0, 1) := by decide +kernel
theorem dX3_noDate_20 : decode cX3_noDate 20 = .ok (.goto 4, 3) := by decide +kernel
theorem dX3_noDate_23 : decode cX3_noDate 23 = .ok (.iconst 1, 1) := by decide +kernel
theorem dX3_noDate_24 : decode cX3_noDate 24 = .ok (.invokevirtual 58, 3) := by decide +kernel
theorem dX3_noDate_27 : decode cX3_noDate 27 = .ok (.ireturn, 1) := by decide +kernel
theorem dX3_programme_0 : decode cX3_programme 0 = .ok (.aload_n 0, 1) := by decide +kernel
theorem dX3_programme_1 : decode cX3_programme 1 = .ok (.iload_n 1, 1) := by decide +kernel
theorem dX3_programme_2 : decode cX3_programme 2 = .ok (.iload_n 2, 1) := by decide +kernel
theorem dX3_programme_3 : decode cX3_programme 3 = .ok (.invokevirtual 117, 3) := by decide +kernel
theorem dX3_programme_6 : decode cX3_programme 6 = .ok (.ifCond .eq 7, 3) := by decide +kernel
theorem dX3_programme_9 : decode cX3_programme 9 = .ok (.iconst 0, 1) := by decide +kernel
theorem dX3_programme_10 : decode cX3_programme 10 = .ok (.goto 9, 3) := by decide +kernel
theorem dX3_programme_13 : decode cX3_programme 13 = .ok (.aload_n 0, 1) := by decide +kernel
theorem dX3_programme_14 : decode cX3_programme 14 = .ok (.iload_n 1, 1) := by decide +kernel
theorem dX3_programme_15 : decode cX3_programme 15 = .ok (.iload_n 2, 1) := by decide +kernel
theorem dX3_programme_16 : decode cX3_programme 16 = .ok (.invokevirtual 120, 3) := by decide +kernel
theorem dX3_programme_19 : decode cX3_programme 19 = .ok (.ireturn, 1) := by decide +kernel
theorem dX3_duration_0 : decode cX3_duration 0 = .ok (.aload_n 0, 1) := by decide +kernel
theorem dX3_duration_1 : decode cX3_duration 1 = .ok (.iload_n 1, 1) := by decide +kernel
theorem dX3_duration_2 : decode cX3_duration 2 = .ok (.iload_n 2, 1) := by decide +kernel
theorem dX3_duration_3 : decode cX3_duration 3 = .ok (.invokevirtual 117, 3) := by decide +kernel
theorem dX3_duration_6 : decode cX3_duration 6 = .ok (.ifCond .eq 7, 3) := by decide +kernel
theorem dX3_duration_9 : decode cX3_duration 9 = .ok (.iconst 0, 1) := by decide +kernel
theorem dX3_duration_10 : decode cX3_duration 10 = .ok (.goto 13, 3) := by decide +kernel
theorem dX3_duration_13 : decode cX3_duration 13 = .ok (.aload_n 0, 1) := by decide +kernel
theorem dX3_duration_14 : decode cX3_duration 14 = .ok (.aload_n 0, 1) := by decide +kernel
theorem dX3_duration_15 : decode cX3_duration 15 = .ok (.iload_n 1, 1) := by decide +kernel
theorem dX3_duration_16 : decode cX3_duration 16 = .ok (.iload_n 2, 1) := by decide +kernel
theorem dX3_duration_17 : decode cX3_duration 17 = .ok (.invokevirtual 120, 3) := by decide +kernel
theorem dX3_duration_20 : decode cX3_duration 20 = .ok (.invokevirtual 108, 3) := by decide +kernel
theorem dX3_duration_23 : decode cX3_duration 23 = .ok (.ireturn, 1) := by decide +kernel
theorem dX3_weaknessOf_0 : decode cX3_weaknessOf 0 = .ok (.bipush 10, 2) := by decide +kernel
theorem dX3_weaknessOf_2 : decode cX3_weaknessOf 2 = .ok (.iconst 5, 1) := by decide +kernel
theorem dX3_weaknessOf_3 : decode cX3_weaknessOf 3 = .ok (.aload_n 0, 1) := by decide +kernel
theorem dX3_weaknessOf_4 : decode cX3_weaknessOf 4 = .ok (.iload_n 1, 1) := by decide +kernel
theorem dX3_weaknessOf_5 : decode cX3_weaknessOf 5 = .ok (.iload_n 2, 1) := by decide +kernel
theorem dX3_weaknessOf_6 : decode cX3_weaknessOf 6 = .ok (.invokevirtual 95, 3) := by decide +kernel
theorem dX3_weaknessOf_9 : decode cX3_weaknessOf 9 = .ok (.imul, 1) := by decide +kernel
theorem dX3_weaknessOf_10 : decode cX3_weaknessOf 10 = .ok (.iadd, 1) := by decide +kernel
theorem dX3_weaknessOf_11 : decode cX3_weaknessOf 11 = .ok (.aload_n 0, 1) := by decide +kernel
theorem dX3_weaknessOf_12 : decode cX3_weaknessOf 12 = .ok (.getfield 31, 3) := by decide +kernel
theorem dX3_weaknessOf_15 : decode cX3_weaknessOf 15 = .ok (.bipush 16, 2) := by decide +kernel
theorem dX3_weaknessOf_17 : decode cX3_weaknessOf 17 = .ok (.iload_n 1, 1) := by decide +kernel
theorem dX3_weaknessOf_18 : decode cX3_weaknessOf 18 = .ok (.imul, 1) := by decide +kernel
theorem dX3_weaknessOf_19 : decode cX3_weaknessOf 19 = .ok (.iload_n 2, 1) := by decide +kernel
theorem dX3_weaknessOf_20 : decode cX3_weaknessOf 20 = .ok (.iadd, 1) := by decide +kernel
theorem dX3_weaknessOf_21 : decode cX3_weaknessOf 21 = .ok (.iaload, 1) := by decide +kernel
theorem dX3_weaknessOf_22 : decode cX3_weaknessOf 22 = .ok (.isub, 1) := by decide +kernel
theorem dX3_weaknessOf_23 : decode cX3_weaknessOf 23 = .ok (.istore_n 3, 1) := by decide +kernel
theorem dX3_weaknessOf_24 : decode cX3_weaknessOf 24 = .ok (.iload_n 3, 1) := by decide +kernel
theorem dX3_weaknessOf_25 : decode cX3_weaknessOf 25 = .ok (.ifCond .le 7, 3) := by decide +kernel
theorem dX3_weaknessOf_28 : decode cX3_weaknessOf 28 = .ok (.iload_n 3, 1) := by decide +kernel
theorem dX3_weaknessOf_29 : decode cX3_weaknessOf 29 = .ok (.goto 4, 3) := by decide +kernel
theorem dX3_weaknessOf_32 : decode cX3_weaknessOf 32 = .ok (.iconst 0, 1) := by decide +kernel
theorem dX3_weaknessOf_33 : decode cX3_weaknessOf 33 = .ok (.ireturn, 1) := by decide +kernel
theorem dX3_weakestOf_0 : decode cX3_weakestOf 0 = .ok (.iconst 0, 1) := by decide +kernel
theorem dX3_weakestOf_1 : decode cX3_weakestOf 1 = .ok (.istore_n 2, 1) := by decide +kernel
theorem dX3_weakestOf_2 : decode cX3_weakestOf 2 = .ok (.iconst 1, 1) := by decide +kernel
theorem dX3_weakestOf_3 : decode cX3_weakestOf 3 = .ok (.istore_n 3, 1) := by decide +kernel
theorem dX3_weakestOf_4 : decode cX3_weakestOf 4 = .ok (.iload_n 3, 1) := by decide +kernel
theorem dX3_weakestOf_5 : decode cX3_weakestOf 5 = .ok (.aload_n 0, 1) := by decide +kernel
theorem dX3_weakestOf_6 : decode cX3_weakestOf 6 = .ok (.getfield 25, 3) := by decide +kernel
theorem dX3_weakestOf_9 : decode cX3_weakestOf 9 = .ok (.iload_n 1, 1) := by decide +kernel
theorem dX3_weakestOf_10 : decode cX3_weakestOf 10 = .ok (.iaload, 1) := by decide +kernel
theorem dX3_weakestOf_11 : decode cX3_weakestOf 11 = .ok (.if_icmp .ge 30, 3) := by decide +kernel
theorem dX3_weakestOf_14 : decode cX3_weakestOf 14 = .ok (.aload_n 0, 1) := by decide +kernel
theorem dX3_weakestOf_15 : decode cX3_weakestOf 15 = .ok (.iload_n 1, 1) := by decide +kernel
theorem dX3_weakestOf_16 : decode cX3_weakestOf 16 = .ok (.iload_n 3, 1) := by decide +kernel
theorem dX3_weakestOf_17 : decode cX3_weakestOf 17 = .ok (.invokevirtual 123, 3) := by decide +kernel
theorem dX3_weakestOf_20 : decode cX3_weakestOf 20 = .ok (.aload_n 0, 1) := by decide +kernel
theorem dX3_weakestOf_21 : decode cX3_weakestOf 21 = .ok (.iload_n 1, 1) := by decide +kernel
theorem dX3_weakestOf_22 : decode cX3_weakestOf 22 = .ok (.iload_n 2, 1) := by decide +kernel
theorem dX3_weakestOf_23 : decode cX3_weakestOf 23 = .ok (.invokevirtual 123, 3) := by decide +kernel
theorem dX3_weakestOf_26 : decode cX3_weakestOf 26 = .ok (.if_icmp .le 7, 3) := by decide +kernel
theorem dX3_weakestOf_29 : decode cX3_weakestOf 29 = .ok (.iload_n 3, 1) := by decide +kernel
theorem dX3_weakestOf_30 : decode cX3_weakestOf 30 = .ok (.goto 4, 3) := by decide +kernel
theorem dX3_weakestOf_33 : decode cX3_weakestOf 33 = .ok (.iload_n 2, 1) := by decide +kernel
theorem dX3_weakestOf_34 : decode cX3_weakestOf 34 = .ok (.istore_n 2, 1) := by decide +kernel
theorem dX3_weakestOf_35 : decode cX3_weakestOf 35 = .ok (.iinc 3 1, 3) := by decide +kernel
theorem dX3_weakestOf_38 : decode cX3_weakestOf 38 = .ok (.goto (-34), 3) := by decide +kernel
theorem dX3_weakestOf_41 : decode cX3_weakestOf 41 = .ok (.iload_n 2, 1) := by decide +kernel
theorem dX3_weakestOf_42 : decode cX3_weakestOf 42 = .ok (.ireturn, 1) := by decide +kernel
theorem dX3_rehearse_0 : decode cX3_rehearse 0 = .ok (.aload_n 0, 1) := by decide +kernel
theorem dX3_rehearse_1 : decode cX3_rehearse 1 = .ok (.aload_n 0, 1) := by decide +kernel
theorem dX3_rehearse_2 : decode cX3_rehearse 2 = .ok (.iload_n 1, 1) := by decide +kernel
theorem dX3_rehearse_3 : decode cX3_rehearse 3 = .ok (.invokevirtual 48, 3) := by decide +kernel
theorem dX3_rehearse_6 : decode cX3_rehearse 6 = .ok (.ifCond .ne 7, 3) := by decide +kernel
theorem dX3_rehearse_9 : decode cX3_rehearse 9 = .ok (.iconst 1, 1) := by decide +kernel
theorem dX3_rehearse_10 : decode cX3_rehearse 10 = .ok (.goto 18, 3) := by decide +kernel
theorem dX3_rehearse_13 : decode cX3_rehearse 13 = .ok (.iload_n 2, 1) := by decide +kernel
theorem dX3_rehearse_14 : decode cX3_rehearse 14 = .ok (.iconst 1, 1) := by decide +kernel
theorem dX3_rehearse_15 : decode cX3_rehearse 15 = .ok (.bipush 30, 2) := by decide +kernel
theorem dX3_rehearse_17 : decode cX3_rehearse 17 = .ok (.invokestatic 38, 3) := by decide +kernel
theorem dX3_rehearse_20 : decode cX3_rehearse 20 = .ok (.ifCond .eq 7, 3) := by decide +kernel
theorem dX3_rehearse_23 : decode cX3_rehearse 23 = .ok (.iconst 0, 1) := by decide +kernel
theorem dX3_rehearse_24 : decode cX3_rehearse 24 = .ok (.goto 4, 3) := by decide +kernel
theorem dX3_rehearse_27 : decode cX3_rehearse 27 = .ok (.iconst 2, 1) := by decide +kernel
theorem dX3_rehearse_28 : decode cX3_rehearse 28 = .ok (.invokevirtual 58, 3) := by decide +kernel
theorem dX3_rehearse_31 : decode cX3_rehearse 31 = .ok (.ifCond .eq 5, 3) := by decide +kernel
theorem dX3_rehearse_34 : decode cX3_rehearse 34 = .ok (.iconst 0, 1) := by decide +kernel
theorem dX3_rehearse_35 : decode cX3_rehearse 35 = .ok (.ireturn, 1) := by decide +kernel
theorem dX3_rehearse_36 : decode cX3_rehearse 36 = .ok (.iconst 0, 1) := by decide +kernel
theorem dX3_rehearse_37 : decode cX3_rehearse 37 = .ok (.istore_n 3, 1) := by decide +kernel
theorem dX3_rehearse_38 : decode cX3_rehearse 38 = .ok (.iload_n 3, 1) := by decide +kernel
theorem dX3_rehearse_39 : decode cX3_rehearse 39 = .ok (.iload_n 2, 1) := by decide +kernel
theorem dX3_rehearse_40 : decode cX3_rehearse 40 = .ok (.if_icmp .ge 28, 3) := by decide +kernel
theorem dX3_rehearse_43 : decode cX3_rehearse 43 = .ok (.aload_n 0, 1) := by decide +kernel
theorem dX3_rehearse_44 : decode cX3_rehearse 44 = .ok (.getfield 31, 3) := by decide +kernel
theorem dX3_rehearse_47 : decode cX3_rehearse 47 = .ok (.bipush 16, 2) := by decide +kernel
theorem dX3_rehearse_49 : decode cX3_rehearse 49 = .ok (.iload_n 1, 1) := by decide +kernel
theorem dX3_rehearse_50 : decode cX3_rehearse 50 = .ok (.imul, 1) := by decide +kernel
theorem dX3_rehearse_51 : decode cX3_rehearse 51 = .ok (.aload_n 0, 1) := by decide +kernel
theorem dX3_rehearse_52 : decode cX3_rehearse 52 = .ok (.iload_n 1, 1) := by decide +kernel
theorem dX3_rehearse_53 : decode cX3_rehearse 53 = .ok (.invokevirtual 126, 3) := by decide +kernel
theorem dX3_rehearse_56 : decode cX3_rehearse 56 = .ok (.iadd, 1) := by decide +kernel
theorem dX3_rehearse_57 : decode cX3_rehearse 57 = .ok (.dup2, 1) := by decide +kernel
theorem dX3_rehearse_58 : decode cX3_rehearse 58 = .ok (.iaload, 1) := by decide +kernel
theorem dX3_rehearse_59 : decode cX3_rehearse 59 = .ok (.iconst 4, 1) := by decide +kernel
theorem dX3_rehearse_60 : decode cX3_rehearse 60 = .ok (.iadd, 1) := by decide +kernel
theorem dX3_rehearse_61 : decode cX3_rehearse 61 = .ok (.iastore, 1) := by decide +kernel
theorem dX3_rehearse_62 : decode cX3_rehearse 62 = .ok (.iinc 3 1, 3) := by decide +kernel
theorem dX3_rehearse_65 : decode cX3_rehearse 65 = .ok (.goto (-27), 3) := by decide +kernel
theorem dX3_rehearse_68 : decode cX3_rehearse 68 = .ok (.iconst 0, 1) := by decide +kernel
theorem dX3_rehearse_69 : decode cX3_rehearse 69 = .ok (.istore_n 3, 1) := by decide +kernel
theorem dX3_rehearse_70 : decode cX3_rehearse 70 = .ok (.iconst 0, 1) := by decide +kernel
theorem dX3_rehearse_71 : decode cX3_rehearse 71 = .ok (.istore 4, 2) := by decide +kernel
theorem dX3_rehearse_73 : decode cX3_rehearse 73 = .ok (.iload 4, 2) := by decide +kernel
theorem dX3_rehearse_75 : decode cX3_rehearse 75 = .ok (.aload_n 0, 1) := by decide +kernel
theorem dX3_rehearse_76 : decode cX3_rehearse 76 = .ok (.getfield 25, 3) := by decide +kernel
theorem dX3_rehearse_79 : decode cX3_rehearse 79 = .ok (.iload_n 1, 1) := by decide +kernel
theorem dX3_rehearse_80 : decode cX3_rehearse 80 = .ok (.iaload, 1) := by decide +kernel
theorem dX3_rehearse_81 : decode cX3_rehearse 81 = .ok (.if_icmp .ge 19, 3) := by decide +kernel
theorem dX3_rehearse_84 : decode cX3_rehearse 84 = .ok (.iload_n 3, 1) := by decide +kernel
theorem dX3_rehearse_85 : decode cX3_rehearse 85 = .ok (.aload_n 0, 1) := by decide +kernel
theorem dX3_rehearse_86 : decode cX3_rehearse 86 = .ok (.iload_n 1, 1) := by decide +kernel
theorem dX3_rehearse_87 : decode cX3_rehearse 87 = .ok (.iload 4, 2) := by decide +kernel
theorem dX3_rehearse_89 : decode cX3_rehearse 89 = .ok (.invokevirtual 123, 3) := by decide +kernel
theorem dX3_rehearse_92 : decode cX3_rehearse 92 = .ok (.iadd, 1) := by decide +kernel
theorem dX3_rehearse_93 : decode cX3_rehearse 93 = .ok (.istore_n 3, 1) := by decide +kernel
theorem dX3_rehearse_94 : decode cX3_rehearse 94 = .ok (.iinc 4 1, 3) := by decide +kernel
theorem dX3_rehearse_97 : decode cX3_rehearse 97 = .ok (.goto (-24), 3) := by decide +kernel
theorem dX3_rehearse_100 : decode cX3_rehearse 100 = .ok (.iload_n 3, 1) := by decide +kernel
theorem dX3_rehearse_101 : decode cX3_rehearse 101 = .ok (.ireturn, 1) := by decide +kernel
theorem dX3_weakness_0 : decode cX3_weakness 0 = .ok (.aload_n 0, 1) := by decide +kernel
theorem dX3_weakness_1 : decode cX3_weakness 1 = .ok (.aload_n 0, 1) := by decide +kernel
theorem dX3_weakness_2 : decode cX3_weakness 2 = .ok (.iload_n 1, 1) := by decide +kernel
theorem dX3_weakness_3 : decode cX3_weakness 3 = .ok (.iload_n 2, 1) := by decide +kernel
theorem dX3_weakness_4 : decode cX3_weakness 4 = .ok (.invokevirtual 82, 3) := by decide +kernel
theorem dX3_weakness_7 : decode cX3_weakness 7 = .ok (.ifCond .eq 7, 3) := by decide +kernel
theorem dX3_weakness_10 : decode cX3_weakness 10 = .ok (.iconst 0, 1) := by decide +kernel
theorem dX3_weakness_11 : decode cX3_weakness 11 = .ok (.goto 4, 3) := by decide +kernel
theorem dX3_weakness_14 : decode cX3_weakness 14 = .ok (.iconst 1, 1) := by decide +kernel
theorem dX3_weakness_15 : decode cX3_weakness 15 = .ok (.invokevirtual 58, 3) := by decide +kernel
theorem dX3_weakness_18 : decode cX3_weakness 18 = .ok (.ifCond .eq 7, 3) := by decide +kernel
theorem dX3_weakness_21 : decode cX3_weakness 21 = .ok (.iconst 0, 1) := by decide +kernel
theorem dX3_weakness_22 : decode cX3_weakness 22 = .ok (.goto 9, 3) := by decide +kernel
theorem dX3_weakness_25 : decode cX3_weakness 25 = .ok (.aload_n 0, 1) := by decide +kernel
theorem dX3_weakness_26 : decode cX3_weakness 26 = .ok (.iload_n 1, 1) := by decide +kernel
theorem dX3_weakness_27 : decode cX3_weakness 27 = .ok (.iload_n 2, 1) := by decide +kernel
theorem dX3_weakness_28 : decode cX3_weakness 28 = .ok (.invokevirtual 123, 3) := by decide +kernel
theorem dX3_weakness_31 : decode cX3_weakness 31 = .ok (.ireturn, 1) := by decide +kernel
theorem dX3_weakest_0 : decode cX3_weakest 0 = .ok (.aload_n 0, 1) := by decide +kernel
theorem dX3_weakest_1 : decode cX3_weakest 1 = .ok (.aload_n 0, 1) := by decide +kernel
theorem dX3_weakest_2 : decode cX3_weakest 2 = .ok (.iload_n 1, 1) := by decide +kernel
theorem dX3_weakest_3 : decode cX3_weakest 3 = .ok (.invokevirtual 48, 3) := by decide +kernel
theorem dX3_weakest_6 : decode cX3_weakest 6 = .ok (.ifCond .eq 7, 3) := by decide +kernel
theorem dX3_weakest_9 : decode cX3_weakest 9 = .ok (.iconst 0, 1) := by decide +kernel
theorem dX3_weakest_10 : decode cX3_weakest 10 = .ok (.goto 4, 3) := by decide +kernel
theorem dX3_weakest_13 : decode cX3_weakest 13 = .ok (.iconst 1, 1) := by decide +kernel
theorem dX3_weakest_14 : decode cX3_weakest 14 = .ok (.invokevirtual 58, 3) := by decide +kernel
theorem dX3_weakest_17 : decode cX3_weakest 17 = .ok (.ifCond .eq 7, 3) := by decide +kernel
theorem dX3_weakest_20 : decode cX3_weakest 20 = .ok (.iconst 0, 1) := by decide +kernel
theorem dX3_weakest_21 : decode cX3_weakest 21 = .ok (.goto 8, 3) := by decide +kernel
theorem dX3_weakest_24 : decode cX3_weakest 24 = .ok (.aload_n 0, 1) := by decide +kernel
theorem dX3_weakest_25 : decode cX3_weakest 25 = .ok (.iload_n 1, 1) := by decide +kernel
theorem dX3_weakest_26 : decode cX3_weakest 26 = .ok (.invokevirtual 126, 3) := by decide +kernel
theorem dX3_weakest_29 : decode cX3_weakest 29 = .ok (.ireturn, 1) := by decide +kernel
theorem dJ6_bitCount_0f7a4_0 : decode cJ6_bitCount_0f7a4 0 = .ok (.iload_n 0, 1) := by decide +kernel
theorem dJ6_bitCount_0f7a4_1 : decode cJ6_bitCount_0f7a4 1 = .ok (.iload_n 0, 1) := by decide +kernel
theorem dJ6_bitCount_0f7a4_2 : decode cJ6_bitCount_0f7a4 2 = .ok (.iconst 1, 1) := by decide +kernel
theorem dJ6_bitCount_0f7a4_3 : decode cJ6_bitCount_0f7a4 3 = .ok (.iushr, 1) := by decide +kernel
theorem dJ6_bitCount_0f7a4_4 : decode cJ6_bitCount_0f7a4 4 = .ok (.ldc_w 265, 3) := by decide +kernel
theorem dJ6_bitCount_0f7a4_7 : decode cJ6_bitCount_0f7a4 7 = .ok (.iand, 1) := by decide +kernel
theorem dJ6_bitCount_0f7a4_8 : decode cJ6_bitCount_0f7a4 8 = .ok (.isub, 1) := by decide +kernel
theorem dJ6_bitCount_0f7a4_9 : decode cJ6_bitCount_0f7a4 9 = .ok (.istore_n 0, 1) := by decide +kernel
theorem dJ6_bitCount_0f7a4_10 : decode cJ6_bitCount_0f7a4 10 = .ok (.iload_n 0, 1) := by decide +kernel
theorem dJ6_bitCount_0f7a4_11 : decode cJ6_bitCount_0f7a4 11 = .ok (.ldc_w 266, 3) := by decide +kernel
theorem dJ6_bitCount_0f7a4_14 : decode cJ6_bitCount_0f7a4 14 = .ok (.iand, 1) := by decide +kernel
theorem dJ6_bitCount_0f7a4_15 : decode cJ6_bitCount_0f7a4 15 = .ok (.iload_n 0, 1) := by decide +kernel
theorem dJ6_bitCount_0f7a4_16 : decode cJ6_bitCount_0f7a4 16 = .ok (.iconst 2, 1) := by decide +kernel
theorem dJ6_bitCount_0f7a4_17 : decode cJ6_bitCount_0f7a4 17 = .ok (.iushr, 1) := by decide +kernel
theorem dJ6_bitCount_0f7a4_18 : decode cJ6_bitCount_0f7a4 18 = .ok (.ldc_w 266, 3) := by decide +kernel
theorem dJ6_bitCount_0f7a4_21 : decode cJ6_bitCount_0f7a4 21 = .ok (.iand, 1) := by decide +kernel
theorem dJ6_bitCount_0f7a4_22 : decode cJ6_bitCount_0f7a4 22 = .ok (.iadd, 1) := by decide +kernel
theorem dJ6_bitCount_0f7a4_23 : decode cJ6_bitCount_0f7a4 23 = .ok (.istore_n 0, 1) := by decide +kernel
theorem dJ6_bitCount_0f7a4_24 : decode cJ6_bitCount_0f7a4 24 = .ok (.iload_n 0, 1) := by decide +kernel
theorem dJ6_bitCount_0f7a4_25 : decode cJ6_bitCount_0f7a4 25 = .ok (.iload_n 0, 1) := by decide +kernel
theorem dJ6_bitCount_0f7a4_26 : decode cJ6_bitCount_0f7a4 26 = .ok (.iconst 4, 1) := by decide +kernel
theorem dJ6_bitCount_0f7a4_27 : decode cJ6_bitCount_0f7a4 27 = .ok (.iushr, 1) := by decide +kernel
theorem dJ6_bitCount_0f7a4_28 : decode cJ6_bitCount_0f7a4 28 = .ok (.iadd, 1) := by decide +kernel
theorem dJ6_bitCount_0f7a4_29 : decode cJ6_bitCount_0f7a4 29 = .ok (.ldc_w 267, 3) := by decide +kernel
theorem dJ6_bitCount_0f7a4_32 : decode cJ6_bitCount_0f7a4 32 = .ok (.iand, 1) := by decide +kernel
theorem dJ6_bitCount_0f7a4_33 : decode cJ6_bitCount_0f7a4 33 = .ok (.istore_n 0, 1) := by decide +kernel
theorem dJ6_bitCount_0f7a4_34 : decode cJ6_bitCount_0f7a4 34 = .ok (.iload_n 0, 1) := by decide +kernel
theorem dJ6_bitCount_0f7a4_35 : decode cJ6_bitCount_0f7a4 35 = .ok (.iload_n 0, 1) := by decide +kernel
theorem dJ6_bitCount_0f7a4_36 : decode cJ6_bitCount_0f7a4 36 = .ok (.bipush 8, 2) := by decide +kernel
theorem dJ6_bitCount_0f7a4_38 : decode cJ6_bitCount_0f7a4 38 = .ok (.iushr, 1) := by decide +kernel
theorem dJ6_bitCount_0f7a4_39 : decode cJ6_bitCount_0f7a4 39 = .ok (.iadd, 1) := by decide +kernel
theorem dJ6_bitCount_0f7a4_40 : decode cJ6_bitCount_0f7a4 40 = .ok (.istore_n 0, 1) := by decide +kernel
theorem dJ6_bitCount_0f7a4_41 : decode cJ6_bitCount_0f7a4 41 = .ok (.iload_n 0, 1) := by decide +kernel
theorem dJ6_bitCount_0f7a4_42 : decode cJ6_bitCount_0f7a4 42 = .ok (.iload_n 0, 1) := by decide +kernel
theorem dJ6_bitCount_0f7a4_43 : decode cJ6_bitCount_0f7a4 43 = .ok (.bipush 16, 2) := by decide +kernel
theorem dJ6_bitCount_0f7a4_45 : decode cJ6_bitCount_0f7a4 45 = .ok (.iushr, 1) := by decide +kernel
theorem dJ6_bitCount_0f7a4_46 : decode cJ6_bitCount_0f7a4 46 = .ok (.iadd, 1) := by decide +kernel
theorem dJ6_bitCount_0f7a4_47 : decode cJ6_bitCount_0f7a4 47 = .ok (.istore_n 0, 1) := by decide +kernel
theorem dJ6_bitCount_0f7a4_48 : decode cJ6_bitCount_0f7a4 48 = .ok (.iload_n 0, 1) := by decide +kernel
theorem dJ6_bitCount_0f7a4_49 : decode cJ6_bitCount_0f7a4 49 = .ok (.bipush 63, 2) := by decide +kernel
theorem dJ6_bitCount_0f7a4_51 : decode cJ6_bitCount_0f7a4 51 = .ok (.iand, 1) := by decide +kernel
theorem dJ6_bitCount_0f7a4_52 : decode cJ6_bitCount_0f7a4 52 = .ok (.ireturn, 1) := by decide +kernel
theorem dJ9_abs_0f7a4_0 : decode cJ9_abs_0f7a4 0 = .ok (.iload_n 0, 1) := by decide +kernel
theorem dJ9_abs_0f7a4_1 : decode cJ9_abs_0f7a4 1 = .ok (.ifCond .ge 8, 3) := by decide +kernel
theorem dJ9_abs_0f7a4_4 : decode cJ9_abs_0f7a4 4 = .ok (.iload_n 0, 1) := by decide +kernel
theorem dJ9_abs_0f7a4_5 : decode cJ9_abs_0f7a4 5 = .ok (.ineg, 1) := by decide +kernel
theorem dJ9_abs_0f7a4_6 : decode cJ9_abs_0f7a4 6 = .ok (.goto 4, 3) := by decide +kernel
theorem dJ9_abs_0f7a4_9 : decode cJ9_abs_0f7a4 9 = .ok (.iload_n 0, 1) := by decide +kernel
theorem dJ9_abs_0f7a4_10 : decode cJ9_abs_0f7a4 10 = .ok (.ireturn, 1) := by decide +kernel
theorem dJ9_max_7cf53_0 : decode cJ9_max_7cf53 0 = .ok (.iload_n 0, 1) := by decide +kernel
theorem dJ9_max_7cf53_1 : decode cJ9_max_7cf53 1 = .ok (.iload_n 1, 1) := by decide +kernel
theorem dJ9_max_7cf53_2 : decode cJ9_max_7cf53 2 = .ok (.if_icmp .lt 7, 3) := by decide +kernel
theorem dJ9_max_7cf53_5 : decode cJ9_max_7cf53 5 = .ok (.iload_n 0, 1) := by decide +kernel
theorem dJ9_max_7cf53_6 : decode cJ9_max_7cf53 6 = .ok (.goto 4, 3) := by decide +kernel
theorem dJ9_max_7cf53_9 : decode cJ9_max_7cf53 9 = .ok (.iload_n 1, 1) := by decide +kernel
theorem dJ9_max_7cf53_10 : decode cJ9_max_7cf53 10 = .ok (.ireturn, 1) := by decide +kernel
theorem dJ9_min_7cf53_0 : decode cJ9_min_7cf53 0 = .ok (.iload_n 0, 1) := by decide +kernel
theorem dJ9_min_7cf53_1 : decode cJ9_min_7cf53 1 = .ok (.iload_n 1, 1) := by decide +kernel
theorem dJ9_min_7cf53_2 : decode cJ9_min_7cf53 2 = .ok (.if_icmp .gt 7, 3) := by decide +kernel
theorem dJ9_min_7cf53_5 : decode cJ9_min_7cf53 5 = .ok (.iload_n 0, 1) := by decide +kernel
theorem dJ9_min_7cf53_6 : decode cJ9_min_7cf53 6 = .ok (.goto 4, 3) := by decide +kernel
theorem dJ9_min_7cf53_9 : decode cJ9_min_7cf53 9 = .ok (.iload_n 1, 1) := by decide +kernel
theorem dJ9_min_7cf53_10 : decode cJ9_min_7cf53 10 = .ok (.ireturn, 1) := by decide +kernel
theorem dL_addSinger_0 : decode cL_addSinger 0 = .ok (.aload 4, 2) := by decide +kernel
theorem dL_addSinger_2 : decode cL_addSinger 2 = .ok (.iconst 0, 1) := by decide +kernel
theorem dL_addSinger_3 : decode cL_addSinger 3 = .ok (.aload_n 0, 1) := by decide +kernel
theorem dL_addSinger_4 : decode cL_addSinger 4 = .ok (.iload_n 1, 1) := by decide +kernel
theorem dL_addSinger_5 : decode cL_addSinger 5 = .ok (.iload_n 2, 1) := by decide +kernel
theorem dL_addSinger_6 : decode cL_addSinger 6 = .ok (.iload_n 3, 1) := by decide +kernel
theorem dL_addSinger_7 : decode cL_addSinger 7 = .ok (.invokevirtual 7, 3) := by decide +kernel
theorem dL_addSinger_10 : decode cL_addSinger 10 = .ok (.i2l, 1) := by decide +kernel
theorem dL_addSinger_11 : decode cL_addSinger 11 = .ok (.lastore, 1) := by decide +kernel
theorem dL_addSinger_12 : decode cL_addSinger 12 = .ok (.goto 11, 3) := by decide +kernel
theorem dL_addSinger_15 : decode cL_addSinger 15 = .ok (.astore 5, 2) := by decide +kernel
theorem dL_addSinger_17 : decode cL_addSinger 17 = .ok (.iconst 1, 1) := by decide +kernel
theorem dL_addSinger_18 : decode cL_addSinger 18 = .ok (.ireturn, 1) := by decide +kernel
theorem dL_addSinger_19 : decode cL_addSinger 19 = .ok (.astore 5, 2) := by decide +kernel
theorem dL_addSinger_21 : decode cL_addSinger 21 = .ok (.iconst 2, 1) := by decide +kernel
theorem dL_addSinger_22 : decode cL_addSinger 22 = .ok (.ireturn, 1) := by decide +kernel
theorem dL_addSinger_23 : decode cL_addSinger 23 = .ok (.iconst 0, 1) := by decide +kernel
theorem dL_addSinger_24 : decode cL_addSinger 24 = .ok (.ireturn, 1) := by decide +kernel
theorem dL_tell_0 : decode cL_tell 0 = .ok (.aload 4, 2) := by decide +kernel
theorem dL_tell_2 : decode cL_tell 2 = .ok (.iconst 0, 1) := by decide +kernel
theorem dL_tell_3 : decode cL_tell 3 = .ok (.aload_n 0, 1) := by decide +kernel
theorem dL_tell_4 : decode cL_tell 4 = .ok (.iload_n 1, 1) := by decide +kernel
theorem dL_tell_5 : decode cL_tell 5 = .ok (.iload_n 2, 1) := by decide +kernel
theorem dL_tell_6 : decode cL_tell 6 = .ok (.iload_n 3, 1) := by decide +kernel
theorem dL_tell_7 : decode cL_tell 7 = .ok (.invokevirtual 17, 3) := by decide +kernel
theorem dL_tell_10 : decode cL_tell 10 = .ok (.ifCond .eq 7, 3) := by decide +kernel
theorem dL_tell_13 : decode cL_tell 13 = .ok (.lconst 1, 1) := by decide +kernel
theorem dL_tell_14 : decode cL_tell 14 = .ok (.goto 4, 3) := by decide +kernel
theorem dL_tell_17 : decode cL_tell 17 = .ok (.lconst 0, 1) := by decide +kernel
theorem dL_tell_18 : decode cL_tell 18 = .ok (.lastore, 1) := by decide +kernel
theorem dL_tell_19 : decode cL_tell 19 = .ok (.goto 11, 3) := by decide +kernel
theorem dL_tell_22 : decode cL_tell 22 = .ok (.astore 5, 2) := by decide +kernel
theorem dL_tell_24 : decode cL_tell 24 = .ok (.iconst 1, 1) := by decide +kernel
theorem dL_tell_25 : decode cL_tell 25 = .ok (.ireturn, 1) := by decide +kernel
theorem dL_tell_26 : decode cL_tell 26 = .ok (.astore 5, 2) := by decide +kernel
theorem dL_tell_28 : decode cL_tell 28 = .ok (.iconst 2, 1) := by decide +kernel
theorem dL_tell_29 : decode cL_tell 29 = .ok (.ireturn, 1) := by decide +kernel
theorem dL_tell_30 : decode cL_tell 30 = .ok (.iconst 0, 1) := by decide +kernel
theorem dL_tell_31 : decode cL_tell 31 = .ok (.ireturn, 1) := by decide +kernel
theorem dL_change_0 : decode cL_change 0 = .ok (.aload_n 3, 1) := by decide +kernel
theorem dL_change_1 : decode cL_change 1 = .ok (.iconst 0, 1) := by decide +kernel
theorem dL_change_2 : decode cL_change 2 = .ok (.aload_n 0, 1) := by decide +kernel
theorem dL_change_3 : decode cL_change 3 = .ok (.iload_n 1, 1) := by decide +kernel
theorem dL_change_4 : decode cL_change 4 = .ok (.iload_n 2, 1) := by decide +kernel
theorem dL_change_5 : decode cL_change 5 = .ok (.invokevirtual 23, 3) := by decide +kernel
theorem dL_change_8 : decode cL_change 8 = .ok (.i2l, 1) := by decide +kernel
theorem dL_change_9 : decode cL_change 9 = .ok (.lastore, 1) := by decide +kernel
theorem dL_change_10 : decode cL_change 10 = .ok (.goto 11, 3) := by decide +kernel
theorem dL_change_13 : decode cL_change 13 = .ok (.astore 4, 2) := by decide +kernel
theorem dL_change_15 : decode cL_change 15 = .ok (.iconst 1, 1) := by decide +kernel
theorem dL_change_16 : decode cL_change 16 = .ok (.ireturn, 1) := by decide +kernel
theorem dL_change_17 : decode cL_change 17 = .ok (.astore 4, 2) := by decide +kernel
theorem dL_change_19 : decode cL_change 19 = .ok (.iconst 2, 1) := by decide +kernel
theorem dL_change_20 : decode cL_change 20 = .ok (.ireturn, 1) := by decide +kernel
theorem dL_change_21 : decode cL_change 21 = .ok (.iconst 0, 1) := by decide +kernel
theorem dL_change_22 : decode cL_change 22 = .ok (.ireturn, 1) := by decide +kernel
theorem dL_range_0 : decode cL_range 0 = .ok (.aload_n 3, 1) := by decide +kernel
theorem dL_range_1 : decode cL_range 1 = .ok (.iconst 0, 1) := by decide +kernel
theorem dL_range_2 : decode cL_range 2 = .ok (.aload_n 0, 1) := by decide +kernel
theorem dL_range_3 : decode cL_range 3 = .ok (.iload_n 1, 1) := by decide +kernel
theorem dL_range_4 : decode cL_range 4 = .ok (.iload_n 2, 1) := by decide +kernel
theorem dL_range_5 : decode cL_range 5 = .ok (.invokevirtual 27, 3) := by decide +kernel
theorem dL_range_8 : decode cL_range 8 = .ok (.i2l, 1) := by decide +kernel
theorem dL_range_9 : decode cL_range 9 = .ok (.lastore, 1) := by decide +kernel
theorem dL_range_10 : decode cL_range 10 = .ok (.goto 7, 3) := by decide +kernel
theorem dL_range_13 : decode cL_range 13 = .ok (.astore 4, 2) := by decide +kernel
theorem dL_range_15 : decode cL_range 15 = .ok (.iconst 1, 1) := by decide +kernel
theorem dL_range_16 : decode cL_range 16 = .ok (.ireturn, 1) := by decide +kernel
theorem dL_range_17 : decode cL_range 17 = .ok (.iconst 0, 1) := by decide +kernel
theorem dL_range_18 : decode cL_range 18 = .ok (.ireturn, 1) := by decide +kernel
theorem dL_chord_0 : decode cL_chord 0 = .ok (.aload 5, 2) := by decide +kernel
theorem dL_chord_2 : decode cL_chord 2 = .ok (.iconst 0, 1) := by decide +kernel
theorem dL_chord_3 : decode cL_chord 3 = .ok (.aload_n 0, 1) := by decide +kernel
theorem dL_chord_4 : decode cL_chord 4 = .ok (.iload_n 1, 1) := by decide +kernel
theorem dL_chord_5 : decode cL_chord 5 = .ok (.iload_n 2, 1) := by decide +kernel
theorem dL_chord_6 : decode cL_chord 6 = .ok (.iload_n 3, 1) := by decide +kernel
theorem dL_chord_7 : decode cL_chord 7 = .ok (.iload 4, 2) := by decide +kernel
theorem dL_chord_9 : decode cL_chord 9 = .ok (.invokevirtual 30, 3) := by decide +kernel
theorem dL_chord_12 : decode cL_chord 12 = .ok (.i2l, 1) := by decide +kernel
theorem dL_chord_13 : decode cL_chord 13 = .ok (.lastore, 1) := by decide +kernel
theorem dL_chord_14 : decode cL_chord 14 = .ok (.goto 11, 3) := by decide +kernel
theorem dL_chord_17 : decode cL_chord 17 = .ok (.astore 6, 2) := by decide +kernel
theorem dL_chord_19 : decode cL_chord 19 = .ok (.iconst 1, 1) := by decide +kernel
theorem dL_chord_20 : decode cL_chord 20 = .ok (.ireturn, 1) := by decide +kernel
theorem dL_chord_21 : decode cL_chord 21 = .ok (.astore 6, 2) := by decide +kernel
theorem dL_chord_23 : decode cL_chord 23 = .ok (.iconst 2, 1) := by decide +kernel
theorem dL_chord_24 : decode cL_chord 24 = .ok (.ireturn, 1) := by decide +kernel
theorem dL_chord_25 : decode cL_chord 25 = .ok (.iconst 0, 1) := by decide +kernel
theorem dL_chord_26 : decode cL_chord 26 = .ok (.ireturn, 1) := by decide +kernel
theorem dL_addPiece_0 : decode cL_addPiece 0 = .ok (.aload_n 2, 1) := by decide +kernel
theorem dL_addPiece_1 : decode cL_addPiece 1 = .ok (.iconst 0, 1) := by decide +kernel
theorem dL_addPiece_2 : decode cL_addPiece 2 = .ok (.aload_n 0, 1) := by decide +kernel
theorem dL_addPiece_3 : decode cL_addPiece 3 = .ok (.iload_n 1, 1) := by decide +kernel
theorem dL_addPiece_4 : decode cL_addPiece 4 = .ok (.invokevirtual 34, 3) := by decide +kernel
theorem dL_addPiece_7 : decode cL_addPiece 7 = .ok (.i2l, 1) := by decide +kernel
theorem dL_addPiece_8 : decode cL_addPiece 8 = .ok (.lastore, 1) := by decide +kernel
theorem dL_addPiece_9 : decode cL_addPiece 9 = .ok (.goto 9, 3) := by decide +kernel
theorem dL_addPiece_12 : decode cL_addPiece 12 = .ok (.astore_n 3, 1) := by decide +kernel
theorem dL_addPiece_13 : decode cL_addPiece 13 = .ok (.iconst 1, 1) := by decide +kernel
theorem dL_addPiece_14 : decode cL_addPiece 14 = .ok (.ireturn, 1) := by decide +kernel
theorem dL_addPiece_15 : decode cL_addPiece 15 = .ok (.astore_n 3, 1) := by decide +kernel
theorem dL_addPiece_16 : decode cL_addPiece 16 = .ok (.iconst 2, 1) := by decide +kernel
theorem dL_addPiece_17 : decode cL_addPiece 17 = .ok (.ireturn, 1) := by decide +kernel
theorem dL_addPiece_18 : decode cL_addPiece 18 = .ok (.iconst 0, 1) := by decide +kernel
theorem dL_addPiece_19 : decode cL_addPiece 19 = .ok (.ireturn, 1) := by decide +kernel
theorem dL_setTone_0 : decode cL_setTone 0 = .ok (.aload 5, 2) := by decide +kernel
theorem dL_setTone_2 : decode cL_setTone 2 = .ok (.iconst 0, 1) := by decide +kernel
theorem dL_setTone_3 : decode cL_setTone 3 = .ok (.aload_n 0, 1) := by decide +kernel
theorem dL_setTone_4 : decode cL_setTone 4 = .ok (.iload_n 1, 1) := by decide +kernel
theorem dL_setTone_5 : decode cL_setTone 5 = .ok (.iload_n 2, 1) := by decide +kernel
theorem dL_setTone_6 : decode cL_setTone 6 = .ok (.iload_n 3, 1) := by decide +kernel
theorem dL_setTone_7 : decode cL_setTone 7 = .ok (.iload 4, 2) := by decide +kernel
theorem dL_setTone_9 : decode cL_setTone 9 = .ok (.invokevirtual 38, 3) := by decide +kernel
theorem dL_setTone_12 : decode cL_setTone 12 = .ok (.i2l, 1) := by decide +kernel
theorem dL_setTone_13 : decode cL_setTone 13 = .ok (.lastore, 1) := by decide +kernel
theorem dL_setTone_14 : decode cL_setTone 14 = .ok (.goto 15, 3) := by decide +kernel
theorem dL_setTone_17 : decode cL_setTone 17 = .ok (.astore 6, 2) := by decide +kernel
theorem dL_setTone_19 : decode cL_setTone 19 = .ok (.iconst 1, 1) := by decide +kernel
theorem dL_setTone_20 : decode cL_setTone 20 = .ok (.ireturn, 1) := by decide +kernel
theorem dL_setTone_21 : decode cL_setTone 21 = .ok (.astore 6, 2) := by decide +kernel
theorem dL_setTone_23 : decode cL_setTone 23 = .ok (.iconst 2, 1) := by decide +kernel
theorem dL_setTone_24 : decode cL_setTone 24 = .ok (.ireturn, 1) := by decide +kernel
theorem dL_setTone_25 : decode cL_setTone 25 = .ok (.astore 6, 2) := by decide +kernel
theorem dL_setTone_27 : decode cL_setTone 27 = .ok (.iconst 3, 1) := by decide +kernel
theorem dL_setTone_28 : decode cL_setTone 28 = .ok (.ireturn, 1) := by decide +kernel
theorem dL_setTone_29 : decode cL_setTone 29 = .ok (.iconst 0, 1) := by decide +kernel
theorem dL_setTone_30 : decode cL_setTone 30 = .ok (.ireturn, 1) := by decide +kernel
theorem dL_faultsAt_0 : decode cL_faultsAt 0 = .ok (.aload_n 3, 1) := by decide +kernel
theorem dL_faultsAt_1 : decode cL_faultsAt 1 = .ok (.iconst 0, 1) := by decide +kernel
theorem dL_faultsAt_2 : decode cL_faultsAt 2 = .ok (.aload_n 0, 1) := by decide +kernel
theorem dL_faultsAt_3 : decode cL_faultsAt 3 = .ok (.iload_n 1, 1) := by decide +kernel
theorem dL_faultsAt_4 : decode cL_faultsAt 4 = .ok (.iload_n 2, 1) := by decide +kernel
theorem dL_faultsAt_5 : decode cL_faultsAt 5 = .ok (.invokevirtual 41, 3) := by decide +kernel
theorem dL_faultsAt_8 : decode cL_faultsAt 8 = .ok (.i2l, 1) := by decide +kernel
theorem dL_faultsAt_9 : decode cL_faultsAt 9 = .ok (.lastore, 1) := by decide +kernel
theorem dL_faultsAt_10 : decode cL_faultsAt 10 = .ok (.goto 7, 3) := by decide +kernel
theorem dL_faultsAt_13 : decode cL_faultsAt 13 = .ok (.astore 4, 2) := by decide +kernel
theorem dL_faultsAt_15 : decode cL_faultsAt 15 = .ok (.iconst 1, 1) := by decide +kernel
theorem dL_faultsAt_16 : decode cL_faultsAt 16 = .ok (.ireturn, 1) := by decide +kernel
theorem dL_faultsAt_17 : decode cL_faultsAt 17 = .ok (.iconst 0, 1) := by decide +kernel
theorem dL_faultsAt_18 : decode cL_faultsAt 18 = .ok (.ireturn, 1) := by decide +kernel
theorem dL_faults_0 : decode cL_faults 0 = .ok (.aload_n 2, 1) := by decide +kernel
theorem dL_faults_1 : decode cL_faults 1 = .ok (.iconst 0, 1) := by decide +kernel
theorem dL_faults_2 : decode cL_faults 2 = .ok (.aload_n 0, 1) := by decide +kernel
theorem dL_faults_3 : decode cL_faults 3 = .ok (.iload_n 1, 1) := by decide +kernel
theorem dL_faults_4 : decode cL_faults 4 = .ok (.invokevirtual 44, 3) := by decide +kernel
theorem dL_faults_7 : decode cL_faults 7 = .ok (.i2l, 1) := by decide +kernel
theorem dL_faults_8 : decode cL_faults 8 = .ok (.lastore, 1) := by decide +kernel
theorem dL_faults_9 : decode cL_faults 9 = .ok (.goto 6, 3) := by decide +kernel
theorem dL_faults_12 : decode cL_faults 12 = .ok (.astore_n 3, 1) := by decide +kernel
theorem dL_faults_13 : decode cL_faults 13 = .ok (.iconst 1, 1) := by decide +kernel
theorem dL_faults_14 : decode cL_faults 14 = .ok (.ireturn, 1) := by decide +kernel
theorem dL_faults_15 : decode cL_faults 15 = .ok (.iconst 0, 1) := by decide +kernel
theorem dL_faults_16 : decode cL_faults 16 = .ok (.ireturn, 1) := by decide +kernel
theorem dL_leastFaults_0 : decode cL_leastFaults 0 = .ok (.aload 4, 2) := by decide +kernel
theorem dL_leastFaults_2 : decode cL_leastFaults 2 = .ok (.iconst 0, 1) := by decide +kernel
theorem dL_leastFaults_3 : decode cL_leastFaults 3 = .ok (.aload_n 0, 1) := by decide +kernel
theorem dL_leastFaults_4 : decode cL_leastFaults 4 = .ok (.iload_n 1, 1) := by decide +kernel
theorem dL_leastFaults_5 : decode cL_leastFaults 5 = .ok (.iload_n 2, 1) := by decide +kernel
theorem dL_leastFaults_6 : decode cL_leastFaults 6 = .ok (.iload_n 3, 1) := by decide +kernel
theorem dL_leastFaults_7 : decode cL_leastFaults 7 = .ok (.invokevirtual 47, 3) := by decide +kernel
theorem dL_leastFaults_10 : decode cL_leastFaults 10 = .ok (.i2l, 1) := by decide +kernel
theorem dL_leastFaults_11 : decode cL_leastFaults 11 = .ok (.lastore, 1) := by decide +kernel
theorem dL_leastFaults_12 : decode cL_leastFaults 12 = .ok (.goto 11, 3) := by decide +kernel
theorem dL_leastFaults_15 : decode cL_leastFaults 15 = .ok (.astore 5, 2) := by decide +kernel
theorem dL_leastFaults_17 : decode cL_leastFaults 17 = .ok (.iconst 1, 1) := by decide +kernel
theorem dL_leastFaults_18 : decode cL_leastFaults 18 = .ok (.ireturn, 1) := by decide +kernel
theorem dL_leastFaults_19 : decode cL_leastFaults 19 = .ok (.astore 5, 2) := by decide +kernel
theorem dL_leastFaults_21 : decode cL_leastFaults 21 = .ok (.iconst 2, 1) := by decide +kernel
theorem dL_leastFaults_22 : decode cL_leastFaults 22 = .ok (.ireturn, 1) := by decide +kernel
theorem dL_leastFaults_23 : decode cL_leastFaults 23 = .ok (.iconst 0, 1) := by decide +kernel
theorem dL_leastFaults_24 : decode cL_leastFaults 24 = .ok (.ireturn, 1) := by decide +kernel
theorem dL_shift_0 : decode cL_shift 0 = .ok (.aload_n 3, 1) := by decide +kernel
theorem dL_shift_1 : decode cL_shift 1 = .ok (.iconst 0, 1) := by decide +kernel
theorem dL_shift_2 : decode cL_shift 2 = .ok (.aload_n 0, 1) := by decide +kernel
theorem dL_shift_3 : decode cL_shift 3 = .ok (.iload_n 1, 1) := by decide +kernel
theorem dL_shift_4 : decode cL_shift 4 = .ok (.iload_n 2, 1) := by decide +kernel
theorem dL_shift_5 : decode cL_shift 5 = .ok (.invokevirtual 50, 3) := by decide +kernel
theorem dL_shift_8 : decode cL_shift 8 = .ok (.i2l, 1) := by decide +kernel
theorem dL_shift_9 : decode cL_shift 9 = .ok (.lastore, 1) := by decide +kernel
theorem dL_shift_10 : decode cL_shift 10 = .ok (.goto 15, 3) := by decide +kernel
theorem dL_shift_13 : decode cL_shift 13 = .ok (.astore 4, 2) := by decide +kernel
theorem dL_shift_15 : decode cL_shift 15 = .ok (.iconst 1, 1) := by decide +kernel
theorem dL_shift_16 : decode cL_shift 16 = .ok (.ireturn, 1) := by decide +kernel
theorem dL_shift_17 : decode cL_shift 17 = .ok (.astore 4, 2) := by decide +kernel
theorem dL_shift_19 : decode cL_shift 19 = .ok (.iconst 2, 1) := by decide +kernel
theorem dL_shift_20 : decode cL_shift 20 = .ok (.ireturn, 1) := by decide +kernel
theorem dL_shift_21 : decode cL_shift 21 = .ok (.astore 4, 2) := by decide +kernel
theorem dL_shift_23 : decode cL_shift 23 = .ok (.iconst 3, 1) := by decide +kernel
theorem dL_shift_24 : decode cL_shift 24 = .ok (.ireturn, 1) := by decide +kernel
theorem dL_shift_25 : decode cL_shift 25 = .ok (.iconst 0, 1) := by decide +kernel
theorem dL_shift_26 : decode cL_shift 26 = .ok (.ireturn, 1) := by decide +kernel
theorem dL_dates_0 : decode cL_dates 0 = .ok (.aload_n 2, 1) := by decide +kernel
theorem dL_dates_1 : decode cL_dates 1 = .ok (.iconst 0, 1) := by decide +kernel
theorem dL_dates_2 : decode cL_dates 2 = .ok (.aload_n 0, 1) := by decide +kernel
theorem dL_dates_3 : decode cL_dates 3 = .ok (.iload_n 1, 1) := by decide +kernel
theorem dL_dates_4 : decode cL_dates 4 = .ok (.invokevirtual 53, 3) := by decide +kernel
theorem dL_dates_7 : decode cL_dates 7 = .ok (.i2l, 1) := by decide +kernel
theorem dL_dates_8 : decode cL_dates 8 = .ok (.lastore, 1) := by decide +kernel
theorem dL_dates_9 : decode cL_dates 9 = .ok (.goto 6, 3) := by decide +kernel
theorem dL_dates_12 : decode cL_dates 12 = .ok (.astore_n 3, 1) := by decide +kernel
theorem dL_dates_13 : decode cL_dates 13 = .ok (.iconst 1, 1) := by decide +kernel
theorem dL_dates_14 : decode cL_dates 14 = .ok (.ireturn, 1) := by decide +kernel
theorem dL_dates_15 : decode cL_dates 15 = .ok (.iconst 0, 1) := by decide +kernel
theorem dL_dates_16 : decode cL_dates 16 = .ok (.ireturn, 1) := by decide +kernel
theorem dL_missed_0 : decode cL_missed 0 = .ok (.aload_n 2, 1) := by decide +kernel
theorem dL_missed_1 : decode cL_missed 1 = .ok (.iconst 0, 1) := by decide +kernel
theorem dL_missed_2 : decode cL_missed 2 = .ok (.aload_n 0, 1) := by decide +kernel
theorem dL_missed_3 : decode cL_missed 3 = .ok (.iload_n 1, 1) := by decide +kernel
