theorem dX6_placeOf_77 : decode cX6_placeOf 77 = .ok (.ireturn, 1) := by decide +kernel
theorem dX6_placeOf_78 : decode cX6_placeOf 78 = .ok (.iconst 5, 1) := by decide +kernel
theorem dX6_placeOf_79 : decode cX6_placeOf 79 = .ok (.ireturn, 1) := by decide +kernel
theorem dX6_placeOf_80 : decode cX6_placeOf 80 = .ok (.bipush 6, 2) := by decide +kernel
theorem dX6_placeOf_82 : decode cX6_placeOf 82 = .ok (.ireturn, 1) := by decide +kernel
theorem dX6_placeOf_83 : decode cX6_placeOf 83 = .ok (.iconst (-1), 1) := by decide +kernel
theorem dX6_placeOf_84 : decode cX6_placeOf 84 = .ok (.ireturn, 1) := by decide +kernel
theorem dX6_readsMove_0 : decode cX6_readsMove 0 = .ok (.aload_n 0, 1) := by decide +kernel
theorem dX6_readsMove_1 : decode cX6_readsMove 1 = .ok (.invokevirtual 180, 3) := by decide +kernel
theorem dX6_readsMove_4 : decode cX6_readsMove 4 = .ok (.invokestatic 184, 3) := by decide +kernel
theorem dX6_readsMove_7 : decode cX6_readsMove 7 = .ok (.istore_n 1, 1) := by decide +kernel
theorem dX6_readsMove_8 : decode cX6_readsMove 8 = .ok (.iconst 0, 1) := by decide +kernel
theorem dX6_readsMove_9 : decode cX6_readsMove 9 = .ok (.istore_n 2, 1) := by decide +kernel
theorem dX6_readsMove_10 : decode cX6_readsMove 10 = .ok (.aload_n 0, 1) := by decide +kernel
theorem dX6_readsMove_11 : decode cX6_readsMove 11 = .ok (.iload_n 1, 1) := by decide +kernel
theorem dX6_readsMove_12 : decode cX6_readsMove 12 = .ok (.iconst (-1), 1) := by decide +kernel
theorem dX6_readsMove_13 : decode cX6_readsMove 13 = .ok (.if_icmp .eq 7, 3) := by decide +kernel
theorem dX6_readsMove_16 : decode cX6_readsMove 16 = .ok (.iconst 1, 1) := by decide +kernel
theorem dX6_readsMove_17 : decode cX6_readsMove 17 = .ok (.goto 4, 3) := by decide +kernel
theorem dX6_readsMove_20 : decode cX6_readsMove 20 = .ok (.iconst 0, 1) := by decide +kernel
theorem dX6_readsMove_21 : decode cX6_readsMove 21 = .ok (.putfield 176, 3) := by decide +kernel
theorem dX6_readsMove_24 : decode cX6_readsMove 24 = .ok (.aload_n 0, 1) := by decide +kernel
theorem dX6_readsMove_25 : decode cX6_readsMove 25 = .ok (.dup, 1) := by decide +kernel
theorem dX6_readsMove_26 : decode cX6_readsMove 26 = .ok (.getfield 173, 3) := by decide +kernel
theorem dX6_readsMove_29 : decode cX6_readsMove 29 = .ok (.aload_n 0, 1) := by decide +kernel
theorem dX6_readsMove_30 : decode cX6_readsMove 30 = .ok (.getfield 176, 3) := by decide +kernel
theorem dX6_readsMove_33 : decode cX6_readsMove 33 = .ok (.ifCond .eq 7, 3) := by decide +kernel
theorem dX6_readsMove_36 : decode cX6_readsMove 36 = .ok (.iconst 1, 1) := by decide +kernel
theorem dX6_readsMove_37 : decode cX6_readsMove 37 = .ok (.goto 4, 3) := by decide +kernel
theorem dX6_readsMove_40 : decode cX6_readsMove 40 = .ok (.iconst 0, 1) := by decide +kernel
theorem dX6_readsMove_41 : decode cX6_readsMove 41 = .ok (.iadd, 1) := by decide +kernel
theorem dX6_readsMove_42 : decode cX6_readsMove 42 = .ok (.putfield 173, 3) := by decide +kernel
theorem dX6_readsMove_45 : decode cX6_readsMove 45 = .ok (.iload_n 1, 1) := by decide +kernel
theorem dX6_readsMove_46 : decode cX6_readsMove 46 = .ok (.iconst 2, 1) := by decide +kernel
theorem dX6_readsMove_47 : decode cX6_readsMove 47 = .ok (.if_icmp .ne 17, 3) := by decide +kernel
theorem dX6_readsMove_50 : decode cX6_readsMove 50 = .ok (.aload_n 0, 1) := by decide +kernel
theorem dX6_readsMove_51 : decode cX6_readsMove 51 = .ok (.bipush 49, 2) := by decide +kernel
theorem dX6_readsMove_53 : decode cX6_readsMove 53 = .ok (.bipush 51, 2) := by decide +kernel
theorem dX6_readsMove_55 : decode cX6_readsMove 55 = .ok (.invokevirtual 187, 3) := by decide +kernel
theorem dX6_readsMove_58 : decode cX6_readsMove 58 = .ok (.iconst 1, 1) := by decide +kernel
theorem dX6_readsMove_59 : decode cX6_readsMove 59 = .ok (.iadd, 1) := by decide +kernel
theorem dX6_readsMove_60 : decode cX6_readsMove 60 = .ok (.istore_n 2, 1) := by decide +kernel
theorem dX6_readsMove_61 : decode cX6_readsMove 61 = .ok (.goto 33, 3) := by decide +kernel
theorem dX6_readsMove_64 : decode cX6_readsMove 64 = .ok (.iload_n 1, 1) := by decide +kernel
theorem dX6_readsMove_65 : decode cX6_readsMove 65 = .ok (.iconst 3, 1) := by decide +kernel
theorem dX6_readsMove_66 : decode cX6_readsMove 66 = .ok (.if_icmp .ne 28, 3) := by decide +kernel
theorem dX6_readsMove_69 : decode cX6_readsMove 69 = .ok (.bipush 10, 2) := by decide +kernel
theorem dX6_readsMove_71 : decode cX6_readsMove 71 = .ok (.aload_n 0, 1) := by decide +kernel
theorem dX6_readsMove_72 : decode cX6_readsMove 72 = .ok (.bipush 48, 2) := by decide +kernel
theorem dX6_readsMove_74 : decode cX6_readsMove 74 = .ok (.bipush 50, 2) := by decide +kernel
theorem dX6_readsMove_76 : decode cX6_readsMove 76 = .ok (.invokevirtual 187, 3) := by decide +kernel
theorem dX6_readsMove_79 : decode cX6_readsMove 79 = .ok (.imul, 1) := by decide +kernel
theorem dX6_readsMove_80 : decode cX6_readsMove 80 = .ok (.istore_n 2, 1) := by decide +kernel
theorem dX6_readsMove_81 : decode cX6_readsMove 81 = .ok (.iload_n 2, 1) := by decide +kernel
theorem dX6_readsMove_82 : decode cX6_readsMove 82 = .ok (.aload_n 0, 1) := by decide +kernel
theorem dX6_readsMove_83 : decode cX6_readsMove 83 = .ok (.bipush 49, 2) := by decide +kernel
theorem dX6_readsMove_85 : decode cX6_readsMove 85 = .ok (.bipush 51, 2) := by decide +kernel
theorem dX6_readsMove_87 : decode cX6_readsMove 87 = .ok (.invokevirtual 187, 3) := by decide +kernel
theorem dX6_readsMove_90 : decode cX6_readsMove 90 = .ok (.iconst 1, 1) := by decide +kernel
theorem dX6_readsMove_91 : decode cX6_readsMove 91 = .ok (.iadd, 1) := by decide +kernel
theorem dX6_readsMove_92 : decode cX6_readsMove 92 = .ok (.iadd, 1) := by decide +kernel
theorem dX6_readsMove_93 : decode cX6_readsMove 93 = .ok (.istore_n 2, 1) := by decide +kernel
theorem dX6_readsMove_94 : decode cX6_readsMove 94 = .ok (.aload_n 0, 1) := by decide +kernel
theorem dX6_readsMove_95 : decode cX6_readsMove 95 = .ok (.getfield 39, 3) := by decide +kernel
theorem dX6_readsMove_98 : decode cX6_readsMove 98 = .ok (.iconst 2, 1) := by decide +kernel
theorem dX6_readsMove_99 : decode cX6_readsMove 99 = .ok (.aload_n 0, 1) := by decide +kernel
theorem dX6_readsMove_100 : decode cX6_readsMove 100 = .ok (.getfield 190, 3) := by decide +kernel
theorem dX6_readsMove_103 : decode cX6_readsMove 103 = .ok (.imul, 1) := by decide +kernel
theorem dX6_readsMove_104 : decode cX6_readsMove 104 = .ok (.iload_n 1, 1) := by decide +kernel
theorem dX6_readsMove_105 : decode cX6_readsMove 105 = .ok (.iastore, 1) := by decide +kernel
theorem dX6_readsMove_106 : decode cX6_readsMove 106 = .ok (.aload_n 0, 1) := by decide +kernel
theorem dX6_readsMove_107 : decode cX6_readsMove 107 = .ok (.getfield 39, 3) := by decide +kernel
theorem dX6_readsMove_110 : decode cX6_readsMove 110 = .ok (.iconst 2, 1) := by decide +kernel
theorem dX6_readsMove_111 : decode cX6_readsMove 111 = .ok (.aload_n 0, 1) := by decide +kernel
theorem dX6_readsMove_112 : decode cX6_readsMove 112 = .ok (.getfield 190, 3) := by decide +kernel
theorem dX6_readsMove_115 : decode cX6_readsMove 115 = .ok (.imul, 1) := by decide +kernel
theorem dX6_readsMove_116 : decode cX6_readsMove 116 = .ok (.iconst 1, 1) := by decide +kernel
theorem dX6_readsMove_117 : decode cX6_readsMove 117 = .ok (.iadd, 1) := by decide +kernel
theorem dX6_readsMove_118 : decode cX6_readsMove 118 = .ok (.iload_n 2, 1) := by decide +kernel
theorem dX6_readsMove_119 : decode cX6_readsMove 119 = .ok (.iastore, 1) := by decide +kernel
theorem dX6_readsMove_120 : decode cX6_readsMove 120 = .ok (.aload_n 0, 1) := by decide +kernel
theorem dX6_readsMove_121 : decode cX6_readsMove 121 = .ok (.dup, 1) := by decide +kernel
theorem dX6_readsMove_122 : decode cX6_readsMove 122 = .ok (.getfield 190, 3) := by decide +kernel
theorem dX6_readsMove_125 : decode cX6_readsMove 125 = .ok (.aload_n 0, 1) := by decide +kernel
theorem dX6_readsMove_126 : decode cX6_readsMove 126 = .ok (.getfield 176, 3) := by decide +kernel
theorem dX6_readsMove_129 : decode cX6_readsMove 129 = .ok (.ifCond .eq 7, 3) := by decide +kernel
theorem dX6_readsMove_132 : decode cX6_readsMove 132 = .ok (.iconst 1, 1) := by decide +kernel
theorem dX6_readsMove_133 : decode cX6_readsMove 133 = .ok (.goto 4, 3) := by decide +kernel
theorem dX6_readsMove_136 : decode cX6_readsMove 136 = .ok (.iconst 0, 1) := by decide +kernel
theorem dX6_readsMove_137 : decode cX6_readsMove 137 = .ok (.iadd, 1) := by decide +kernel
theorem dX6_readsMove_138 : decode cX6_readsMove 138 = .ok (.putfield 190, 3) := by decide +kernel
theorem dX6_readsMove_141 : decode cX6_readsMove 141 = .ok (.return_, 1) := by decide +kernel
theorem dX6_reads_0 : decode cX6_reads 0 = .ok (.aload_n 0, 1) := by decide +kernel
theorem dX6_reads_1 : decode cX6_reads 1 = .ok (.iconst 0, 1) := by decide +kernel
theorem dX6_reads_2 : decode cX6_reads 2 = .ok (.putfield 173, 3) := by decide +kernel
theorem dX6_reads_5 : decode cX6_reads 5 = .ok (.aload_n 0, 1) := by decide +kernel
theorem dX6_reads_6 : decode cX6_reads 6 = .ok (.iconst 1, 1) := by decide +kernel
theorem dX6_reads_7 : decode cX6_reads 7 = .ok (.putfield 176, 3) := by decide +kernel
theorem dX6_reads_10 : decode cX6_reads 10 = .ok (.aload_n 0, 1) := by decide +kernel
theorem dX6_reads_11 : decode cX6_reads 11 = .ok (.iconst 0, 1) := by decide +kernel
theorem dX6_reads_12 : decode cX6_reads 12 = .ok (.putfield 190, 3) := by decide +kernel
theorem dX6_reads_15 : decode cX6_reads 15 = .ok (.aload_n 0, 1) := by decide +kernel
theorem dX6_reads_16 : decode cX6_reads 16 = .ok (.bipush 83, 2) := by decide +kernel
theorem dX6_reads_18 : decode cX6_reads 18 = .ok (.bipush 83, 2) := by decide +kernel
theorem dX6_reads_20 : decode cX6_reads 20 = .ok (.invokevirtual 187, 3) := by decide +kernel
theorem dX6_reads_23 : decode cX6_reads 23 = .ok (.pop, 1) := by decide +kernel
theorem dX6_reads_24 : decode cX6_reads 24 = .ok (.aload_n 0, 1) := by decide +kernel
theorem dX6_reads_25 : decode cX6_reads 25 = .ok (.aload_n 0, 1) := by decide +kernel
theorem dX6_reads_26 : decode cX6_reads 26 = .ok (.bipush 50, 2) := by decide +kernel
theorem dX6_reads_28 : decode cX6_reads 28 = .ok (.bipush 52, 2) := by decide +kernel
theorem dX6_reads_30 : decode cX6_reads 30 = .ok (.invokevirtual 187, 3) := by decide +kernel
theorem dX6_reads_33 : decode cX6_reads 33 = .ok (.iconst 2, 1) := by decide +kernel
theorem dX6_reads_34 : decode cX6_reads 34 = .ok (.iadd, 1) := by decide +kernel
theorem dX6_reads_35 : decode cX6_reads 35 = .ok (.putfield 193, 3) := by decide +kernel
theorem dX6_reads_38 : decode cX6_reads 38 = .ok (.aload_n 0, 1) := by decide +kernel
theorem dX6_reads_39 : decode cX6_reads 39 = .ok (.bipush 10, 2) := by decide +kernel
theorem dX6_reads_41 : decode cX6_reads 41 = .ok (.aload_n 0, 1) := by decide +kernel
theorem dX6_reads_42 : decode cX6_reads 42 = .ok (.bipush 48, 2) := by decide +kernel
theorem dX6_reads_44 : decode cX6_reads 44 = .ok (.bipush 57, 2) := by decide +kernel
theorem dX6_reads_46 : decode cX6_reads 46 = .ok (.invokevirtual 187, 3) := by decide +kernel
theorem dX6_reads_49 : decode cX6_reads 49 = .ok (.imul, 1) := by decide +kernel
theorem dX6_reads_50 : decode cX6_reads 50 = .ok (.putfield 196, 3) := by decide +kernel
theorem dX6_reads_53 : decode cX6_reads 53 = .ok (.aload_n 0, 1) := by decide +kernel
theorem dX6_reads_54 : decode cX6_reads 54 = .ok (.dup, 1) := by decide +kernel
theorem dX6_reads_55 : decode cX6_reads 55 = .ok (.getfield 196, 3) := by decide +kernel
theorem dX6_reads_58 : decode cX6_reads 58 = .ok (.aload_n 0, 1) := by decide +kernel
theorem dX6_reads_59 : decode cX6_reads 59 = .ok (.bipush 48, 2) := by decide +kernel
theorem dX6_reads_61 : decode cX6_reads 61 = .ok (.bipush 57, 2) := by decide +kernel
theorem dX6_reads_63 : decode cX6_reads 63 = .ok (.invokevirtual 187, 3) := by decide +kernel
theorem dX6_reads_66 : decode cX6_reads 66 = .ok (.iadd, 1) := by decide +kernel
theorem dX6_reads_67 : decode cX6_reads 67 = .ok (.putfield 196, 3) := by decide +kernel
theorem dX6_reads_70 : decode cX6_reads 70 = .ok (.aload_n 0, 1) := by decide +kernel
theorem dX6_reads_71 : decode cX6_reads 71 = .ok (.getfield 176, 3) := by decide +kernel
theorem dX6_reads_74 : decode cX6_reads 74 = .ok (.ifCond .eq 21, 3) := by decide +kernel
theorem dX6_reads_77 : decode cX6_reads 77 = .ok (.aload_n 0, 1) := by decide +kernel
theorem dX6_reads_78 : decode cX6_reads 78 = .ok (.getfield 173, 3) := by decide +kernel
theorem dX6_reads_81 : decode cX6_reads 81 = .ok (.aload_n 0, 1) := by decide +kernel
theorem dX6_reads_82 : decode cX6_reads 82 = .ok (.getfield 170, 3) := by decide +kernel
theorem dX6_reads_85 : decode cX6_reads 85 = .ok (.if_icmp .ge 10, 3) := by decide +kernel
theorem dX6_reads_88 : decode cX6_reads 88 = .ok (.aload_n 0, 1) := by decide +kernel
theorem dX6_reads_89 : decode cX6_reads 89 = .ok (.invokevirtual 199, 3) := by decide +kernel
theorem dX6_reads_92 : decode cX6_reads 92 = .ok (.goto (-22), 3) := by decide +kernel
theorem dX6_reads_95 : decode cX6_reads 95 = .ok (.aload_n 0, 1) := by decide +kernel
theorem dX6_reads_96 : decode cX6_reads 96 = .ok (.getfield 176, 3) := by decide +kernel
theorem dX6_reads_99 : decode cX6_reads 99 = .ok (.ifCond .eq 7, 3) := by decide +kernel
theorem dX6_reads_102 : decode cX6_reads 102 = .ok (.iconst (-1), 1) := by decide +kernel
theorem dX6_reads_103 : decode cX6_reads 103 = .ok (.goto 7, 3) := by decide +kernel
theorem dX6_reads_106 : decode cX6_reads 106 = .ok (.aload_n 0, 1) := by decide +kernel
theorem dX6_reads_107 : decode cX6_reads 107 = .ok (.getfield 173, 3) := by decide +kernel
theorem dX6_reads_110 : decode cX6_reads 110 = .ok (.ireturn, 1) := by decide +kernel
theorem dX6_errorPosition_0 : decode cX6_errorPosition 0 = .ok (.aload_n 0, 1) := by decide +kernel
theorem dX6_errorPosition_1 : decode cX6_errorPosition 1 = .ok (.iconst 0, 1) := by decide +kernel
theorem dX6_errorPosition_2 : decode cX6_errorPosition 2 = .ok (.putfield 42, 3) := by decide +kernel
theorem dX6_errorPosition_5 : decode cX6_errorPosition 5 = .ok (.aload_n 0, 1) := by decide +kernel
theorem dX6_errorPosition_6 : decode cX6_errorPosition 6 = .ok (.invokevirtual 202, 3) := by decide +kernel
theorem dX6_errorPosition_9 : decode cX6_errorPosition 9 = .ok (.ireturn, 1) := by decide +kernel
theorem dX6_leavesOut_0 : decode cX6_leavesOut 0 = .ok (.iload_n 1, 1) := by decide +kernel
theorem dX6_leavesOut_1 : decode cX6_leavesOut 1 = .ok (.bipush 6, 2) := by decide +kernel
theorem dX6_leavesOut_3 : decode cX6_leavesOut 3 = .ok (.if_icmp .ne 18, 3) := by decide +kernel
theorem dX6_leavesOut_6 : decode cX6_leavesOut 6 = .ok (.aload_n 0, 1) := by decide +kernel
theorem dX6_leavesOut_7 : decode cX6_leavesOut 7 = .ok (.invokevirtual 106, 3) := by decide +kernel
theorem dX6_leavesOut_10 : decode cX6_leavesOut 10 = .ok (.ifCond .ne 5, 3) := by decide +kernel
theorem dX6_leavesOut_13 : decode cX6_leavesOut 13 = .ok (.iconst 1, 1) := by decide +kernel
theorem dX6_leavesOut_14 : decode cX6_leavesOut 14 = .ok (.ireturn, 1) := by decide +kernel
theorem dX6_leavesOut_15 : decode cX6_leavesOut 15 = .ok (.aload_n 0, 1) := by decide +kernel
theorem dX6_leavesOut_16 : decode cX6_leavesOut 16 = .ok (.invokevirtual 164, 3) := by decide +kernel
theorem dX6_leavesOut_19 : decode cX6_leavesOut 19 = .ok (.iconst 0, 1) := by decide +kernel
theorem dX6_leavesOut_20 : decode cX6_leavesOut 20 = .ok (.ireturn, 1) := by decide +kernel
theorem dX6_leavesOut_21 : decode cX6_leavesOut 21 = .ok (.aload_n 0, 1) := by decide +kernel
theorem dX6_leavesOut_22 : decode cX6_leavesOut 22 = .ok (.iload_n 1, 1) := by decide +kernel
theorem dX6_leavesOut_23 : decode cX6_leavesOut 23 = .ok (.iload_n 2, 1) := by decide +kernel
theorem dX6_leavesOut_24 : decode cX6_leavesOut 24 = .ok (.invokevirtual 127, 3) := by decide +kernel
theorem dX6_leavesOut_27 : decode cX6_leavesOut 27 = .ok (.ifCond .ne 5, 3) := by decide +kernel
theorem dX6_leavesOut_30 : decode cX6_leavesOut 30 = .ok (.iconst 1, 1) := by decide +kernel
theorem dX6_leavesOut_31 : decode cX6_leavesOut 31 = .ok (.ireturn, 1) := by decide +kernel
theorem dX6_leavesOut_32 : decode cX6_leavesOut 32 = .ok (.aload_n 0, 1) := by decide +kernel
theorem dX6_leavesOut_33 : decode cX6_leavesOut 33 = .ok (.iload_n 1, 1) := by decide +kernel
theorem dX6_leavesOut_34 : decode cX6_leavesOut 34 = .ok (.iload_n 2, 1) := by decide +kernel
theorem dX6_leavesOut_35 : decode cX6_leavesOut 35 = .ok (.invokevirtual 137, 3) := by decide +kernel
theorem dX6_leavesOut_38 : decode cX6_leavesOut 38 = .ok (.pop, 1) := by decide +kernel
theorem dX6_leavesOut_39 : decode cX6_leavesOut 39 = .ok (.aload_n 0, 1) := by decide +kernel
theorem dX6_leavesOut_40 : decode cX6_leavesOut 40 = .ok (.invokevirtual 158, 3) := by decide +kernel
theorem dX6_leavesOut_43 : decode cX6_leavesOut 43 = .ok (.iconst 0, 1) := by decide +kernel
theorem dX6_leavesOut_44 : decode cX6_leavesOut 44 = .ok (.ireturn, 1) := by decide +kernel
theorem dX6_load_0 : decode cX6_load 0 = .ok (.aload_n 0, 1) := by decide +kernel
theorem dX6_load_1 : decode cX6_load 1 = .ok (.iconst 0, 1) := by decide +kernel
theorem dX6_load_2 : decode cX6_load 2 = .ok (.putfield 42, 3) := by decide +kernel
theorem dX6_load_5 : decode cX6_load 5 = .ok (.aload_n 0, 1) := by decide +kernel
theorem dX6_load_6 : decode cX6_load 6 = .ok (.invokevirtual 202, 3) := by decide +kernel
theorem dX6_load_9 : decode cX6_load 9 = .ok (.iconst (-1), 1) := by decide +kernel
theorem dX6_load_10 : decode cX6_load 10 = .ok (.if_icmp .eq 9, 3) := by decide +kernel
theorem dX6_load_13 : decode cX6_load 13 = .ok (.aload_n 0, 1) := by decide +kernel
theorem dX6_load_14 : decode cX6_load 14 = .ok (.iconst 1, 1) := by decide +kernel
theorem dX6_load_15 : decode cX6_load 15 = .ok (.invokevirtual 167, 3) := by decide +kernel
theorem dX6_load_18 : decode cX6_load 18 = .ok (.ireturn, 1) := by decide +kernel
theorem dX6_load_19 : decode cX6_load 19 = .ok (.aload_n 0, 1) := by decide +kernel
theorem dX6_load_20 : decode cX6_load 20 = .ok (.invokevirtual 46, 3) := by decide +kernel
theorem dX6_load_23 : decode cX6_load 23 = .ok (.aload_n 0, 1) := by decide +kernel
theorem dX6_load_24 : decode cX6_load 24 = .ok (.iconst 0, 1) := by decide +kernel
theorem dX6_load_25 : decode cX6_load 25 = .ok (.putfield 57, 3) := by decide +kernel
theorem dX6_load_28 : decode cX6_load 28 = .ok (.aload_n 0, 1) := by decide +kernel
theorem dX6_load_29 : decode cX6_load 29 = .ok (.getfield 26, 3) := by decide +kernel
theorem dX6_load_32 : decode cX6_load 32 = .ok (.iconst 0, 1) := by decide +kernel
theorem dX6_load_33 : decode cX6_load 33 = .ok (.iconst 0, 1) := by decide +kernel
theorem dX6_load_34 : decode cX6_load 34 = .ok (.bastore, 1) := by decide +kernel
theorem dX6_load_35 : decode cX6_load 35 = .ok (.aload_n 0, 1) := by decide +kernel
theorem dX6_load_36 : decode cX6_load 36 = .ok (.getfield 26, 3) := by decide +kernel
theorem dX6_load_39 : decode cX6_load 39 = .ok (.iconst 1, 1) := by decide +kernel
theorem dX6_load_40 : decode cX6_load 40 = .ok (.iconst 0, 1) := by decide +kernel
theorem dX6_load_41 : decode cX6_load 41 = .ok (.bastore, 1) := by decide +kernel
theorem dX6_load_42 : decode cX6_load 42 = .ok (.aload_n 0, 1) := by decide +kernel
theorem dX6_load_43 : decode cX6_load 43 = .ok (.aload_n 0, 1) := by decide +kernel
theorem dX6_load_44 : decode cX6_load 44 = .ok (.getfield 193, 3) := by decide +kernel
theorem dX6_load_47 : decode cX6_load 47 = .ok (.aload_n 0, 1) := by decide +kernel
theorem dX6_load_48 : decode cX6_load 48 = .ok (.getfield 196, 3) := by decide +kernel
theorem dX6_load_51 : decode cX6_load 51 = .ok (.i2l, 1) := by decide +kernel
theorem dX6_load_52 : decode cX6_load 52 = .ok (.invokevirtual 205, 3) := by decide +kernel
theorem dX6_load_55 : decode cX6_load 55 = .ok (.iconst 0, 1) := by decide +kernel
theorem dX6_load_56 : decode cX6_load 56 = .ok (.istore_n 1, 1) := by decide +kernel
theorem dX6_load_57 : decode cX6_load 57 = .ok (.iconst 0, 1) := by decide +kernel
theorem dX6_load_58 : decode cX6_load 58 = .ok (.istore_n 2, 1) := by decide +kernel
theorem dX6_load_59 : decode cX6_load 59 = .ok (.iload_n 2, 1) := by decide +kernel
theorem dX6_load_60 : decode cX6_load 60 = .ok (.aload_n 0, 1) := by decide +kernel
theorem dX6_load_61 : decode cX6_load 61 = .ok (.getfield 190, 3) := by decide +kernel
theorem dX6_load_64 : decode cX6_load 64 = .ok (.if_icmp .ge 34, 3) := by decide +kernel
theorem dX6_load_67 : decode cX6_load 67 = .ok (.iload_n 1, 1) := by decide +kernel
theorem dX6_load_68 : decode cX6_load 68 = .ok (.aload_n 0, 1) := by decide +kernel
theorem dX6_load_69 : decode cX6_load 69 = .ok (.aload_n 0, 1) := by decide +kernel
theorem dX6_load_70 : decode cX6_load 70 = .ok (.getfield 39, 3) := by decide +kernel
theorem dX6_load_73 : decode cX6_load 73 = .ok (.iconst 2, 1) := by decide +kernel
theorem dX6_load_74 : decode cX6_load 74 = .ok (.iload_n 2, 1) := by decide +kernel
theorem dX6_load_75 : decode cX6_load 75 = .ok (.imul, 1) := by decide +kernel
theorem dX6_load_76 : decode cX6_load 76 = .ok (.iaload, 1) := by decide +kernel
theorem dX6_load_77 : decode cX6_load 77 = .ok (.aload_n 0, 1) := by decide +kernel
theorem dX6_load_78 : decode cX6_load 78 = .ok (.getfield 39, 3) := by decide +kernel
theorem dX6_load_81 : decode cX6_load 81 = .ok (.iconst 2, 1) := by decide +kernel
theorem dX6_load_82 : decode cX6_load 82 = .ok (.iload_n 2, 1) := by decide +kernel
theorem dX6_load_83 : decode cX6_load 83 = .ok (.imul, 1) := by decide +kernel
theorem dX6_load_84 : decode cX6_load 84 = .ok (.iconst 1, 1) := by decide +kernel
theorem dX6_load_85 : decode cX6_load 85 = .ok (.iadd, 1) := by decide +kernel
theorem dX6_load_86 : decode cX6_load 86 = .ok (.iaload, 1) := by decide +kernel
theorem dX6_load_87 : decode cX6_load 87 = .ok (.invokevirtual 209, 3) := by decide +kernel
theorem dX6_load_90 : decode cX6_load 90 = .ok (.iadd, 1) := by decide +kernel
theorem dX6_load_91 : decode cX6_load 91 = .ok (.istore_n 1, 1) := by decide +kernel
theorem dX6_load_92 : decode cX6_load 92 = .ok (.iinc 2 1, 3) := by decide +kernel
theorem dX6_load_95 : decode cX6_load 95 = .ok (.goto (-36), 3) := by decide +kernel
theorem dX6_load_98 : decode cX6_load 98 = .ok (.iload_n 1, 1) := by decide +kernel
theorem dX6_load_99 : decode cX6_load 99 = .ok (.ireturn, 1) := by decide +kernel
theorem dX6_atPlaces_0 : decode cX6_atPlaces 0 = .ok (.iconst 0, 1) := by decide +kernel
theorem dX6_atPlaces_1 : decode cX6_atPlaces 1 = .ok (.istore_n 1, 1) := by decide +kernel
theorem dX6_atPlaces_2 : decode cX6_atPlaces 2 = .ok (.iconst 0, 1) := by decide +kernel
theorem dX6_atPlaces_3 : decode cX6_atPlaces 3 = .ok (.istore_n 2, 1) := by decide +kernel
theorem dX6_atPlaces_4 : decode cX6_atPlaces 4 = .ok (.iload_n 2, 1) := by decide +kernel
theorem dX6_atPlaces_5 : decode cX6_atPlaces 5 = .ok (.bipush 6, 2) := by decide +kernel
theorem dX6_atPlaces_7 : decode cX6_atPlaces 7 = .ok (.if_icmp .ge 17, 3) := by decide +kernel
theorem dX6_atPlaces_10 : decode cX6_atPlaces 10 = .ok (.iload_n 1, 1) := by decide +kernel
theorem dX6_atPlaces_11 : decode cX6_atPlaces 11 = .ok (.aload_n 0, 1) := by decide +kernel
theorem dX6_atPlaces_12 : decode cX6_atPlaces 12 = .ok (.iload_n 2, 1) := by decide +kernel
theorem dX6_atPlaces_13 : decode cX6_atPlaces 13 = .ok (.invokevirtual 99, 3) := by decide +kernel
theorem dX6_atPlaces_16 : decode cX6_atPlaces 16 = .ok (.iadd, 1) := by decide +kernel
theorem dX6_atPlaces_17 : decode cX6_atPlaces 17 = .ok (.istore_n 1, 1) := by decide +kernel
theorem dX6_atPlaces_18 : decode cX6_atPlaces 18 = .ok (.iinc 2 1, 3) := by decide +kernel
theorem dX6_atPlaces_21 : decode cX6_atPlaces 21 = .ok (.goto (-17), 3) := by decide +kernel
theorem dX6_atPlaces_24 : decode cX6_atPlaces 24 = .ok (.iload_n 1, 1) := by decide +kernel
theorem dX6_atPlaces_25 : decode cX6_atPlaces 25 = .ok (.ireturn, 1) := by decide +kernel
theorem dX6_tells_0 : decode cX6_tells 0 = .ok (.iload_n 1, 1) := by decide +kernel
theorem dX6_tells_1 : decode cX6_tells 1 = .ok (.tableswitch 134 1 11 #[59, 77, 84, 92, 134, 134, 134, 105, 113, 118, 126], 59) := by decide +kernel
theorem dX6_tells_60 : decode cX6_tells 60 = .ok (.aload_n 0, 1) := by decide +kernel
theorem dX6_tells_61 : decode cX6_tells 61 = .ok (.invokevirtual 106, 3) := by decide +kernel
theorem dX6_tells_64 : decode cX6_tells 64 = .ok (.ifCond .eq 12, 3) := by decide +kernel
theorem dX6_tells_67 : decode cX6_tells 67 = .ok (.aload_n 0, 1) := by decide +kernel
theorem dX6_tells_68 : decode cX6_tells 68 = .ok (.getfield 7, 3) := by decide +kernel
theorem dX6_tells_71 : decode cX6_tells 71 = .ok (.iconst 4, 1) := by decide +kernel
theorem dX6_tells_72 : decode cX6_tells 72 = .ok (.iaload, 1) := by decide +kernel
theorem dX6_tells_73 : decode cX6_tells 73 = .ok (.goto 4, 3) := by decide +kernel
theorem dX6_tells_76 : decode cX6_tells 76 = .ok (.iconst (-1), 1) := by decide +kernel
theorem dX6_tells_77 : decode cX6_tells 77 = .ok (.ireturn, 1) := by decide +kernel
theorem dX6_tells_78 : decode cX6_tells 78 = .ok (.aload_n 0, 1) := by decide +kernel
theorem dX6_tells_79 : decode cX6_tells 79 = .ok (.getfield 7, 3) := by decide +kernel
theorem dX6_tells_82 : decode cX6_tells 82 = .ok (.iconst 5, 1) := by decide +kernel
theorem dX6_tells_83 : decode cX6_tells 83 = .ok (.iaload, 1) := by decide +kernel
theorem dX6_tells_84 : decode cX6_tells 84 = .ok (.ireturn, 1) := by decide +kernel
theorem dX6_tells_85 : decode cX6_tells 85 = .ok (.aload_n 0, 1) := by decide +kernel
theorem dX6_tells_86 : decode cX6_tells 86 = .ok (.getfield 7, 3) := by decide +kernel
theorem dX6_tells_89 : decode cX6_tells 89 = .ok (.bipush 6, 2) := by decide +kernel
theorem dX6_tells_91 : decode cX6_tells 91 = .ok (.iaload, 1) := by decide +kernel
theorem dX6_tells_92 : decode cX6_tells 92 = .ok (.ireturn, 1) := by decide +kernel
theorem dX6_tells_93 : decode cX6_tells 93 = .ok (.aload_n 0, 1) := by decide +kernel
theorem dX6_tells_94 : decode cX6_tells 94 = .ok (.invokevirtual 106, 3) := by decide +kernel
theorem dX6_tells_97 : decode cX6_tells 97 = .ok (.ifCond .eq 7, 3) := by decide +kernel
theorem dX6_tells_100 : decode cX6_tells 100 = .ok (.iconst 0, 1) := by decide +kernel
theorem dX6_tells_101 : decode cX6_tells 101 = .ok (.goto 4, 3) := by decide +kernel
theorem dX6_tells_104 : decode cX6_tells 104 = .ok (.iconst 1, 1) := by decide +kernel
theorem dX6_tells_105 : decode cX6_tells 105 = .ok (.ireturn, 1) := by decide +kernel
theorem dX6_tells_106 : decode cX6_tells 106 = .ok (.aload_n 0, 1) := by decide +kernel
theorem dX6_tells_107 : decode cX6_tells 107 = .ok (.getfield 7, 3) := by decide +kernel
theorem dX6_tells_110 : decode cX6_tells 110 = .ok (.bipush 10, 2) := by decide +kernel
theorem dX6_tells_112 : decode cX6_tells 112 = .ok (.iaload, 1) := by decide +kernel
theorem dX6_tells_113 : decode cX6_tells 113 = .ok (.ireturn, 1) := by decide +kernel
theorem dX6_tells_114 : decode cX6_tells 114 = .ok (.aload_n 0, 1) := by decide +kernel
theorem dX6_tells_115 : decode cX6_tells 115 = .ok (.invokevirtual 212, 3) := by decide +kernel
theorem dX6_tells_118 : decode cX6_tells 118 = .ok (.ireturn, 1) := by decide +kernel
theorem dX6_tells_119 : decode cX6_tells 119 = .ok (.aload_n 0, 1) := by decide +kernel
theorem dX6_tells_120 : decode cX6_tells 120 = .ok (.getfield 7, 3) := by decide +kernel
theorem dX6_tells_123 : decode cX6_tells 123 = .ok (.bipush 11, 2) := by decide +kernel
theorem dX6_tells_125 : decode cX6_tells 125 = .ok (.iaload, 1) := by decide +kernel
theorem dX6_tells_126 : decode cX6_tells 126 = .ok (.ireturn, 1) := by decide +kernel
theorem dX6_tells_127 : decode cX6_tells 127 = .ok (.aload_n 0, 1) := by decide +kernel
theorem dX6_tells_128 : decode cX6_tells 128 = .ok (.getfield 7, 3) := by decide +kernel
theorem dX6_tells_131 : decode cX6_tells 131 = .ok (.bipush 12, 2) := by decide +kernel
theorem dX6_tells_133 : decode cX6_tells 133 = .ok (.iaload, 1) := by decide +kernel
theorem dX6_tells_134 : decode cX6_tells 134 = .ok (.ireturn, 1) := by decide +kernel
theorem dX6_tells_135 : decode cX6_tells 135 = .ok (.aload_n 0, 1) := by decide +kernel
theorem dX6_tells_136 : decode cX6_tells 136 = .ok (.getfield 7, 3) := by decide +kernel
theorem dX6_tells_139 : decode cX6_tells 139 = .ok (.bipush 7, 2) := by decide +kernel
theorem dX6_tells_141 : decode cX6_tells 141 = .ok (.iload_n 1, 1) := by decide +kernel
theorem dX6_tells_142 : decode cX6_tells 142 = .ok (.iadd, 1) := by decide +kernel
theorem dX6_tells_143 : decode cX6_tells 143 = .ok (.iconst 5, 1) := by decide +kernel
theorem dX6_tells_144 : decode cX6_tells 144 = .ok (.isub, 1) := by decide +kernel
theorem dX6_tells_145 : decode cX6_tells 145 = .ok (.iaload, 1) := by decide +kernel
theorem dX6_tells_146 : decode cX6_tells 146 = .ok (.ireturn, 1) := by decide +kernel
theorem dX6_about_0 : decode cX6_about 0 = .ok (.aload_n 0, 1) := by decide +kernel
theorem dX6_about_1 : decode cX6_about 1 = .ok (.iconst 0, 1) := by decide +kernel
theorem dX6_about_2 : decode cX6_about 2 = .ok (.putfield 42, 3) := by decide +kernel
theorem dX6_about_5 : decode cX6_about 5 = .ok (.iload_n 1, 1) := by decide +kernel
theorem dX6_about_6 : decode cX6_about 6 = .ok (.iconst 0, 1) := by decide +kernel
theorem dX6_about_7 : decode cX6_about 7 = .ok (.bipush 11, 2) := by decide +kernel
theorem dX6_about_9 : decode cX6_about 9 = .ok (.invokestatic 53, 3) := by decide +kernel
theorem dX6_about_12 : decode cX6_about 12 = .ok (.ifCond .ne 9, 3) := by decide +kernel
theorem dX6_about_15 : decode cX6_about 15 = .ok (.aload_n 0, 1) := by decide +kernel
theorem dX6_about_16 : decode cX6_about 16 = .ok (.iconst 1, 1) := by decide +kernel
theorem dX6_about_17 : decode cX6_about 17 = .ok (.invokevirtual 167, 3) := by decide +kernel
theorem dX6_about_20 : decode cX6_about 20 = .ok (.ireturn, 1) := by decide +kernel
theorem dX6_about_21 : decode cX6_about 21 = .ok (.iload_n 1, 1) := by decide +kernel
theorem dX6_about_22 : decode cX6_about 22 = .ok (.ifCond .eq 12, 3) := by decide +kernel
theorem dX6_about_25 : decode cX6_about 25 = .ok (.aload_n 0, 1) := by decide +kernel
theorem dX6_about_26 : decode cX6_about 26 = .ok (.getfield 7, 3) := by decide +kernel
theorem dX6_about_29 : decode cX6_about 29 = .ok (.iconst 3, 1) := by decide +kernel
theorem dX6_about_30 : decode cX6_about 30 = .ok (.iaload, 1) := by decide +kernel
theorem dX6_about_31 : decode cX6_about 31 = .ok (.ifCond .ne 12, 3) := by decide +kernel
theorem dX6_about_34 : decode cX6_about 34 = .ok (.aload_n 0, 1) := by decide +kernel
theorem dX6_about_35 : decode cX6_about 35 = .ok (.getfield 7, 3) := by decide +kernel
theorem dX6_about_38 : decode cX6_about 38 = .ok (.iconst 3, 1) := by decide +kernel
theorem dX6_about_39 : decode cX6_about 39 = .ok (.iaload, 1) := by decide +kernel
theorem dX6_about_40 : decode cX6_about 40 = .ok (.goto 8, 3) := by decide +kernel
theorem dX6_about_43 : decode cX6_about 43 = .ok (.aload_n 0, 1) := by decide +kernel
theorem dX6_about_44 : decode cX6_about 44 = .ok (.iload_n 1, 1) := by decide +kernel
theorem dX6_about_45 : decode cX6_about 45 = .ok (.invokevirtual 215, 3) := by decide +kernel
theorem dX6_about_48 : decode cX6_about 48 = .ok (.ireturn, 1) := by decide +kernel
theorem dX6_player_0 : decode cX6_player 0 = .ok (.aload_n 0, 1) := by decide +kernel
theorem dX6_player_1 : decode cX6_player 1 = .ok (.iconst 0, 1) := by decide +kernel
theorem dX6_player_2 : decode cX6_player 2 = .ok (.putfield 42, 3) := by decide +kernel
theorem dX6_player_5 : decode cX6_player 5 = .ok (.aload_n 0, 1) := by decide +kernel
theorem dX6_player_6 : decode cX6_player 6 = .ok (.iload_n 1, 1) := by decide +kernel
theorem dX6_player_7 : decode cX6_player 7 = .ok (.invokevirtual 218, 3) := by decide +kernel
theorem dX6_player_10 : decode cX6_player 10 = .ok (.ifCond .ne 9, 3) := by decide +kernel
theorem dX6_player_13 : decode cX6_player 13 = .ok (.aload_n 0, 1) := by decide +kernel
theorem dX6_player_14 : decode cX6_player 14 = .ok (.iconst 1, 1) := by decide +kernel
theorem dX6_player_15 : decode cX6_player 15 = .ok (.invokevirtual 167, 3) := by decide +kernel
theorem dX6_player_18 : decode cX6_player 18 = .ok (.ireturn, 1) := by decide +kernel
theorem dX6_player_19 : decode cX6_player 19 = .ok (.iload_n 2, 1) := by decide +kernel
theorem dX6_player_20 : decode cX6_player 20 = .ok (.iconst 0, 1) := by decide +kernel
theorem dX6_player_21 : decode cX6_player 21 = .ok (.bipush 8, 2) := by decide +kernel
theorem dX6_player_23 : decode cX6_player 23 = .ok (.invokestatic 53, 3) := by decide +kernel
theorem dX6_player_26 : decode cX6_player 26 = .ok (.ifCond .ne 11, 3) := by decide +kernel
theorem dX6_player_29 : decode cX6_player 29 = .ok (.aload_n 0, 1) := by decide +kernel
theorem dX6_player_30 : decode cX6_player 30 = .ok (.iconst 2, 1) := by decide +kernel
theorem dX6_player_31 : decode cX6_player 31 = .ok (.invokevirtual 167, 3) := by decide +kernel
theorem dX6_player_34 : decode cX6_player 34 = .ok (.goto 39, 3) := by decide +kernel
theorem dX6_player_37 : decode cX6_player 37 = .ok (.iload_n 2, 1) := by decide +kernel
theorem dX6_player_38 : decode cX6_player 38 = .ok (.bipush 8, 2) := by decide +kernel
theorem dX6_player_40 : decode cX6_player 40 = .ok (.if_icmp .ne 11, 3) := by decide +kernel
theorem dX6_player_43 : decode cX6_player 43 = .ok (.aload_n 0, 1) := by decide +kernel
theorem dX6_player_44 : decode cX6_player 44 = .ok (.iload_n 1, 1) := by decide +kernel
theorem dX6_player_45 : decode cX6_player 45 = .ok (.invokevirtual 134, 3) := by decide +kernel
theorem dX6_player_48 : decode cX6_player 48 = .ok (.goto 25, 3) := by decide +kernel
theorem dX6_player_51 : decode cX6_player 51 = .ok (.iload_n 2, 1) := by decide +kernel
theorem dX6_player_52 : decode cX6_player 52 = .ok (.bipush 7, 2) := by decide +kernel
theorem dX6_player_54 : decode cX6_player 54 = .ok (.if_icmp .ne 13, 3) := by decide +kernel
theorem dX6_player_57 : decode cX6_player 57 = .ok (.aload_n 0, 1) := by decide +kernel
theorem dX6_player_58 : decode cX6_player 58 = .ok (.iload_n 1, 1) := by decide +kernel
theorem dX6_player_59 : decode cX6_player 59 = .ok (.bipush 7, 2) := by decide +kernel
theorem dX6_player_61 : decode cX6_player 61 = .ok (.invokevirtual 78, 3) := by decide +kernel
theorem dX6_player_64 : decode cX6_player 64 = .ok (.goto 9, 3) := by decide +kernel
theorem dX6_player_67 : decode cX6_player 67 = .ok (.aload_n 0, 1) := by decide +kernel
theorem dX6_player_68 : decode cX6_player 68 = .ok (.iload_n 1, 1) := by decide +kernel
theorem dX6_player_69 : decode cX6_player 69 = .ok (.iload_n 2, 1) := by decide +kernel
theorem dX6_player_70 : decode cX6_player 70 = .ok (.invokevirtual 78, 3) := by decide +kernel
theorem dX6_player_73 : decode cX6_player 73 = .ok (.ireturn, 1) := by decide +kernel
theorem dX6_worker_0 : decode cX6_worker 0 = .ok (.aload_n 0, 1) := by decide +kernel
theorem dX6_worker_1 : decode cX6_worker 1 = .ok (.iconst 0, 1) := by decide +kernel
theorem dX6_worker_2 : decode cX6_worker 2 = .ok (.putfield 42, 3) := by decide +kernel
theorem dX6_worker_5 : decode cX6_worker 5 = .ok (.iload_n 1, 1) := by decide +kernel
theorem dX6_worker_6 : decode cX6_worker 6 = .ok (.invokestatic 221, 3) := by decide +kernel
theorem dX6_worker_9 : decode cX6_worker 9 = .ok (.ifCond .ne 9, 3) := by decide +kernel
theorem dX6_worker_12 : decode cX6_worker 12 = .ok (.aload_n 0, 1) := by decide +kernel
theorem dX6_worker_13 : decode cX6_worker 13 = .ok (.iconst 1, 1) := by decide +kernel
theorem dX6_worker_14 : decode cX6_worker 14 = .ok (.invokevirtual 167, 3) := by decide +kernel
theorem dX6_worker_17 : decode cX6_worker 17 = .ok (.ireturn, 1) := by decide +kernel
theorem dX6_worker_18 : decode cX6_worker 18 = .ok (.iload_n 2, 1) := by decide +kernel
theorem dX6_worker_19 : decode cX6_worker 19 = .ok (.ifCond .ge 9, 3) := by decide +kernel
theorem dX6_worker_22 : decode cX6_worker 22 = .ok (.aload_n 0, 1) := by decide +kernel
theorem dX6_worker_23 : decode cX6_worker 23 = .ok (.iconst 2, 1) := by decide +kernel
theorem dX6_worker_24 : decode cX6_worker 24 = .ok (.invokevirtual 167, 3) := by decide +kernel
theorem dX6_worker_27 : decode cX6_worker 27 = .ok (.ireturn, 1) := by decide +kernel
theorem dX6_worker_28 : decode cX6_worker 28 = .ok (.iload_n 2, 1) := by decide +kernel
theorem dX6_worker_29 : decode cX6_worker 29 = .ok (.aload_n 0, 1) := by decide +kernel
theorem dX6_worker_30 : decode cX6_worker 30 = .ok (.iload_n 1, 1) := by decide +kernel
theorem dX6_worker_31 : decode cX6_worker 31 = .ok (.invokevirtual 99, 3) := by decide +kernel
theorem dX6_worker_34 : decode cX6_worker 34 = .ok (.if_icmp .ge 12, 3) := by decide +kernel
theorem dX6_worker_37 : decode cX6_worker 37 = .ok (.aload_n 0, 1) := by decide +kernel
theorem dX6_worker_38 : decode cX6_worker 38 = .ok (.iload_n 1, 1) := by decide +kernel
theorem dX6_worker_39 : decode cX6_worker 39 = .ok (.iload_n 2, 1) := by decide +kernel
theorem dX6_worker_40 : decode cX6_worker 40 = .ok (.invokevirtual 103, 3) := by decide +kernel
theorem dX6_worker_43 : decode cX6_worker 43 = .ok (.goto 4, 3) := by decide +kernel
theorem dX6_worker_46 : decode cX6_worker 46 = .ok (.iconst (-1), 1) := by decide +kernel
theorem dX6_worker_47 : decode cX6_worker 47 = .ok (.ireturn, 1) := by decide +kernel
theorem dX6_setting_0 : decode cX6_setting 0 = .ok (.aload_n 0, 1) := by decide +kernel
theorem dX6_setting_1 : decode cX6_setting 1 = .ok (.iconst 0, 1) := by decide +kernel
theorem dX6_setting_2 : decode cX6_setting 2 = .ok (.putfield 42, 3) := by decide +kernel
theorem dX6_setting_5 : decode cX6_setting 5 = .ok (.iload_n 1, 1) := by decide +kernel
theorem dX6_setting_6 : decode cX6_setting 6 = .ok (.iconst 0, 1) := by decide +kernel
theorem dX6_setting_7 : decode cX6_setting 7 = .ok (.iconst 2, 1) := by decide +kernel
theorem dX6_setting_8 : decode cX6_setting 8 = .ok (.invokestatic 53, 3) := by decide +kernel
theorem dX6_setting_11 : decode cX6_setting 11 = .ok (.ifCond .eq 12, 3) := by decide +kernel
theorem dX6_setting_14 : decode cX6_setting 14 = .ok (.aload_n 0, 1) := by decide +kernel
theorem dX6_setting_15 : decode cX6_setting 15 = .ok (.getfield 7, 3) := by decide +kernel
theorem dX6_setting_18 : decode cX6_setting 18 = .ok (.iload_n 1, 1) := by decide +kernel
theorem dX6_setting_19 : decode cX6_setting 19 = .ok (.iaload, 1) := by decide +kernel
theorem dX6_setting_20 : decode cX6_setting 20 = .ok (.goto 8, 3) := by decide +kernel
theorem dX6_setting_23 : decode cX6_setting 23 = .ok (.aload_n 0, 1) := by decide +kernel
theorem dX6_setting_24 : decode cX6_setting 24 = .ok (.iconst 1, 1) := by decide +kernel
theorem dX6_setting_25 : decode cX6_setting 25 = .ok (.invokevirtual 167, 3) := by decide +kernel
theorem dX6_setting_28 : decode cX6_setting 28 = .ok (.ireturn, 1) := by decide +kernel
theorem dX6_begins_0 : decode cX6_begins 0 = .ok (.iconst 3, 1) := by decide +kernel
theorem dX6_begins_1 : decode cX6_begins 1 = .ok (.istore 4, 2) := by decide +kernel
theorem dX6_begins_3 : decode cX6_begins 3 = .ok (.iload 4, 2) := by decide +kernel
theorem dX6_begins_5 : decode cX6_begins 5 = .ok (.bipush 69, 2) := by decide +kernel
theorem dX6_begins_7 : decode cX6_begins 7 = .ok (.if_icmp .ge 17, 3) := by decide +kernel
theorem dX6_begins_10 : decode cX6_begins 10 = .ok (.aload_n 0, 1) := by decide +kernel
theorem dX6_begins_11 : decode cX6_begins 11 = .ok (.getfield 7, 3) := by decide +kernel
theorem dX6_begins_14 : decode cX6_begins 14 = .ok (.iload 4, 2) := by decide +kernel
theorem dX6_begins_16 : decode cX6_begins 16 = .ok (.iconst 0, 1) := by decide +kernel
theorem dX6_begins_17 : decode cX6_begins 17 = .ok (.iastore, 1) := by decide +kernel
theorem dX6_begins_18 : decode cX6_begins 18 = .ok (.iinc 4 1, 3) := by decide +kernel
theorem dX6_begins_21 : decode cX6_begins 21 = .ok (.goto (-18), 3) := by decide +kernel
theorem dX6_begins_24 : decode cX6_begins 24 = .ok (.aload_n 0, 1) := by decide +kernel
theorem dX6_begins_25 : decode cX6_begins 25 = .ok (.getfield 7, 3) := by decide +kernel
theorem dX6_begins_28 : decode cX6_begins 28 = .ok (.iconst 3, 1) := by decide +kernel
theorem dX6_begins_29 : decode cX6_begins 29 = .ok (.iload_n 1, 1) := by decide +kernel
theorem dX6_begins_30 : decode cX6_begins 30 = .ok (.iastore, 1) := by decide +kernel
theorem dX6_begins_31 : decode cX6_begins 31 = .ok (.aload_n 0, 1) := by decide +kernel
theorem dX6_begins_32 : decode cX6_begins 32 = .ok (.getfield 7, 3) := by decide +kernel
theorem dX6_begins_35 : decode cX6_begins 35 = .ok (.bipush 7, 2) := by decide +kernel
theorem dX6_begins_37 : decode cX6_begins 37 = .ok (.iconst 3, 1) := by decide +kernel
theorem dX6_begins_38 : decode cX6_begins 38 = .ok (.iastore, 1) := by decide +kernel
theorem dX6_begins_39 : decode cX6_begins 39 = .ok (.aload_n 0, 1) := by decide +kernel
theorem dX6_begins_40 : decode cX6_begins 40 = .ok (.getfield 7, 3) := by decide +kernel
theorem dX6_begins_43 : decode cX6_begins 43 = .ok (.bipush 8, 2) := by decide +kernel
theorem dX6_begins_45 : decode cX6_begins 45 = .ok (.iconst 3, 1) := by decide +kernel
theorem dX6_begins_46 : decode cX6_begins 46 = .ok (.iastore, 1) := by decide +kernel
theorem dX6_begins_47 : decode cX6_begins 47 = .ok (.aload_n 0, 1) := by decide +kernel
theorem dX6_begins_48 : decode cX6_begins 48 = .ok (.getfield 7, 3) := by decide +kernel
theorem dX6_begins_51 : decode cX6_begins 51 = .ok (.bipush 9, 2) := by decide +kernel
theorem dX6_begins_53 : decode cX6_begins 53 = .ok (.bipush 6, 2) := by decide +kernel
theorem dX6_begins_55 : decode cX6_begins 55 = .ok (.iastore, 1) := by decide +kernel
theorem dX6_begins_56 : decode cX6_begins 56 = .ok (.iconst 0, 1) := by decide +kernel
theorem dX6_begins_57 : decode cX6_begins 57 = .ok (.istore 4, 2) := by decide +kernel
theorem dX6_begins_59 : decode cX6_begins 59 = .ok (.iload 4, 2) := by decide +kernel
theorem dX6_begins_61 : decode cX6_begins 61 = .ok (.iload_n 1, 1) := by decide +kernel
theorem dX6_begins_62 : decode cX6_begins 62 = .ok (.if_icmp .ge 43, 3) := by decide +kernel
theorem dX6_begins_65 : decode cX6_begins 65 = .ok (.aload_n 0, 1) := by decide +kernel
theorem dX6_begins_66 : decode cX6_begins 66 = .ok (.iload 4, 2) := by decide +kernel
theorem dX6_begins_68 : decode cX6_begins 68 = .ok (.iconst 0, 1) := by decide +kernel
theorem dX6_begins_69 : decode cX6_begins 69 = .ok (.iconst 5, 1) := by decide +kernel
theorem dX6_begins_70 : decode cX6_begins 70 = .ok (.invokevirtual 85, 3) := by decide +kernel
theorem dX6_begins_73 : decode cX6_begins 73 = .ok (.aload_n 0, 1) := by decide +kernel
theorem dX6_begins_74 : decode cX6_begins 74 = .ok (.iload 4, 2) := by decide +kernel
theorem dX6_begins_76 : decode cX6_begins 76 = .ok (.iconst 4, 1) := by decide +kernel
theorem dX6_begins_77 : decode cX6_begins 77 = .ok (.bipush 6, 2) := by decide +kernel
theorem dX6_begins_79 : decode cX6_begins 79 = .ok (.invokevirtual 85, 3) := by decide +kernel
theorem dX6_begins_82 : decode cX6_begins 82 = .ok (.aload_n 0, 1) := by decide +kernel
theorem dX6_begins_83 : decode cX6_begins 83 = .ok (.iload 4, 2) := by decide +kernel
theorem dX6_begins_85 : decode cX6_begins 85 = .ok (.iconst 5, 1) := by decide +kernel
theorem dX6_begins_86 : decode cX6_begins 86 = .ok (.iconst 3, 1) := by decide +kernel
theorem dX6_begins_87 : decode cX6_begins 87 = .ok (.invokevirtual 85, 3) := by decide +kernel
theorem dX6_begins_90 : decode cX6_begins 90 = .ok (.aload_n 0, 1) := by decide +kernel
theorem dX6_begins_91 : decode cX6_begins 91 = .ok (.iload 4, 2) := by decide +kernel
theorem dX6_begins_93 : decode cX6_begins 93 = .ok (.bipush 6, 2) := by decide +kernel
theorem dX6_begins_95 : decode cX6_begins 95 = .ok (.iconst 3, 1) := by decide +kernel
theorem dX6_begins_96 : decode cX6_begins 96 = .ok (.invokevirtual 85, 3) := by decide +kernel
theorem dX6_begins_99 : decode cX6_begins 99 = .ok (.iinc 4 1, 3) := by decide +kernel
theorem dX6_begins_102 : decode cX6_begins 102 = .ok (.goto (-43), 3) := by decide +kernel
theorem dX6_begins_105 : decode cX6_begins 105 = .ok (.aload_n 0, 1) := by decide +kernel
theorem dX6_begins_106 : decode cX6_begins 106 = .ok (.lload_n 2, 1) := by decide +kernel
theorem dX6_begins_107 : decode cX6_begins 107 = .ok (.putfield 49, 3) := by decide +kernel
theorem dX6_begins_110 : decode cX6_begins 110 = .ok (.aload_n 0, 1) := by decide +kernel
theorem dX6_begins_111 : decode cX6_begins 111 = .ok (.invokevirtual 93, 3) := by decide +kernel
theorem dX6_begins_114 : decode cX6_begins 114 = .ok (.return_, 1) := by decide +kernel
theorem dX6_begin_0 : decode cX6_begin 0 = .ok (.aload_n 0, 1) := by decide +kernel
theorem dX6_begin_1 : decode cX6_begin 1 = .ok (.iconst 0, 1) := by decide +kernel
theorem dX6_begin_2 : decode cX6_begin 2 = .ok (.putfield 42, 3) := by decide +kernel
theorem dX6_begin_5 : decode cX6_begin 5 = .ok (.iload_n 1, 1) := by decide +kernel
theorem dX6_begin_6 : decode cX6_begin 6 = .ok (.iconst 2, 1) := by decide +kernel
theorem dX6_begin_7 : decode cX6_begin 7 = .ok (.iconst 4, 1) := by decide +kernel
theorem dX6_begin_8 : decode cX6_begin 8 = .ok (.invokestatic 53, 3) := by decide +kernel
theorem dX6_begin_11 : decode cX6_begin 11 = .ok (.ifCond .ne 9, 3) := by decide +kernel
theorem dX6_begin_14 : decode cX6_begin 14 = .ok (.aload_n 0, 1) := by decide +kernel
theorem dX6_begin_15 : decode cX6_begin 15 = .ok (.iconst 1, 1) := by decide +kernel
theorem dX6_begin_16 : decode cX6_begin 16 = .ok (.invokevirtual 167, 3) := by decide +kernel
theorem dX6_begin_19 : decode cX6_begin 19 = .ok (.ireturn, 1) := by decide +kernel
theorem dX6_begin_20 : decode cX6_begin 20 = .ok (.aload_n 0, 1) := by decide +kernel
theorem dX6_begin_21 : decode cX6_begin 21 = .ok (.invokevirtual 224, 3) := by decide +kernel
theorem dX6_begin_24 : decode cX6_begin 24 = .ok (.aload_n 0, 1) := by decide +kernel
theorem dX6_begin_25 : decode cX6_begin 25 = .ok (.iload_n 1, 1) := by decide +kernel
theorem dX6_begin_26 : decode cX6_begin 26 = .ok (.lload_n 2, 1) := by decide +kernel
theorem dX6_begin_27 : decode cX6_begin 27 = .ok (.invokevirtual 205, 3) := by decide +kernel
theorem dX6_begin_30 : decode cX6_begin 30 = .ok (.aload_n 0, 1) := by decide +kernel
theorem dX6_begin_31 : decode cX6_begin 31 = .ok (.getfield 7, 3) := by decide +kernel
theorem dX6_begin_34 : decode cX6_begin 34 = .ok (.iconst 5, 1) := by decide +kernel
theorem dX6_begin_35 : decode cX6_begin 35 = .ok (.iaload, 1) := by decide +kernel
theorem dX6_begin_36 : decode cX6_begin 36 = .ok (.ireturn, 1) := by decide +kernel
theorem dX6_refuses_0 : decode cX6_refuses 0 = .ok (.iload_n 1, 1) := by decide +kernel
theorem dX6_refuses_1 : decode cX6_refuses 1 = .ok (.invokestatic 221, 3) := by decide +kernel
theorem dX6_refuses_4 : decode cX6_refuses 4 = .ok (.ifCond .ne 7, 3) := by decide +kernel
theorem dX6_refuses_7 : decode cX6_refuses 7 = .ok (.iconst 1, 1) := by decide +kernel
theorem dX6_refuses_8 : decode cX6_refuses 8 = .ok (.goto 29, 3) := by decide +kernel
theorem dX6_refuses_11 : decode cX6_refuses 11 = .ok (.iload_n 1, 1) := by decide +kernel
theorem dX6_refuses_12 : decode cX6_refuses 12 = .ok (.iload_n 2, 1) := by decide +kernel
theorem dX6_refuses_13 : decode cX6_refuses 13 = .ok (.invokestatic 152, 3) := by decide +kernel
theorem dX6_refuses_16 : decode cX6_refuses 16 = .ok (.ifCond .ne 7, 3) := by decide +kernel
theorem dX6_refuses_19 : decode cX6_refuses 19 = .ok (.iconst 2, 1) := by decide +kernel
theorem dX6_refuses_20 : decode cX6_refuses 20 = .ok (.goto 17, 3) := by decide +kernel
theorem dX6_refuses_23 : decode cX6_refuses 23 = .ok (.aload_n 0, 1) := by decide +kernel
theorem dX6_refuses_24 : decode cX6_refuses 24 = .ok (.iload_n 1, 1) := by decide +kernel
theorem dX6_refuses_25 : decode cX6_refuses 25 = .ok (.iload_n 2, 1) := by decide +kernel
theorem dX6_refuses_26 : decode cX6_refuses 26 = .ok (.invokevirtual 127, 3) := by decide +kernel
theorem dX6_refuses_29 : decode cX6_refuses 29 = .ok (.ifCond .ne 7, 3) := by decide +kernel
theorem dX6_refuses_32 : decode cX6_refuses 32 = .ok (.iconst 3, 1) := by decide +kernel
theorem dX6_refuses_33 : decode cX6_refuses 33 = .ok (.goto 4, 3) := by decide +kernel
theorem dX6_refuses_36 : decode cX6_refuses 36 = .ok (.iconst 0, 1) := by decide +kernel
theorem dX6_refuses_37 : decode cX6_refuses 37 = .ok (.ireturn, 1) := by decide +kernel
theorem dX6_place_0 : decode cX6_place 0 = .ok (.aload_n 0, 1) := by decide +kernel
theorem dX6_place_1 : decode cX6_place 1 = .ok (.aload_n 0, 1) := by decide +kernel
theorem dX6_place_2 : decode cX6_place 2 = .ok (.iload_n 1, 1) := by decide +kernel
theorem dX6_place_3 : decode cX6_place 3 = .ok (.iload_n 2, 1) := by decide +kernel
theorem dX6_place_4 : decode cX6_place 4 = .ok (.invokevirtual 227, 3) := by decide +kernel
theorem dX6_place_7 : decode cX6_place 7 = .ok (.putfield 42, 3) := by decide +kernel
theorem dX6_place_10 : decode cX6_place 10 = .ok (.aload_n 0, 1) := by decide +kernel
theorem dX6_place_11 : decode cX6_place 11 = .ok (.getfield 42, 3) := by decide +kernel
theorem dX6_place_14 : decode cX6_place 14 = .ok (.ifCond .eq 5, 3) := by decide +kernel
theorem dX6_place_17 : decode cX6_place 17 = .ok (.iconst 0, 1) := by decide +kernel
theorem dX6_place_18 : decode cX6_place 18 = .ok (.ireturn, 1) := by decide +kernel
theorem dX6_place_19 : decode cX6_place 19 = .ok (.aload_n 0, 1) := by decide +kernel
theorem dX6_place_20 : decode cX6_place 20 = .ok (.invokevirtual 224, 3) := by decide +kernel
theorem dX6_place_23 : decode cX6_place 23 = .ok (.aload_n 0, 1) := by decide +kernel
theorem dX6_place_24 : decode cX6_place 24 = .ok (.iload_n 1, 1) := by decide +kernel
theorem dX6_place_25 : decode cX6_place 25 = .ok (.iload_n 2, 1) := by decide +kernel
theorem dX6_place_26 : decode cX6_place 26 = .ok (.invokevirtual 137, 3) := by decide +kernel
theorem dX6_place_29 : decode cX6_place 29 = .ok (.istore_n 3, 1) := by decide +kernel
theorem dX6_place_30 : decode cX6_place 30 = .ok (.aload_n 0, 1) := by decide +kernel
theorem dX6_place_31 : decode cX6_place 31 = .ok (.invokevirtual 158, 3) := by decide +kernel
theorem dX6_place_34 : decode cX6_place 34 = .ok (.iload_n 3, 1) := by decide +kernel
theorem dX6_place_35 : decode cX6_place 35 = .ok (.ireturn, 1) := by decide +kernel
theorem dX6_pass_0 : decode cX6_pass 0 = .ok (.aload_n 0, 1) := by decide +kernel
theorem dX6_pass_1 : decode cX6_pass 1 = .ok (.iconst 0, 1) := by decide +kernel
theorem dX6_pass_2 : decode cX6_pass 2 = .ok (.putfield 42, 3) := by decide +kernel
theorem dX6_pass_5 : decode cX6_pass 5 = .ok (.aload_n 0, 1) := by decide +kernel
theorem dX6_pass_6 : decode cX6_pass 6 = .ok (.invokevirtual 106, 3) := by decide +kernel
theorem dX6_pass_9 : decode cX6_pass 9 = .ok (.ifCond .ne 9, 3) := by decide +kernel
theorem dX6_pass_12 : decode cX6_pass 12 = .ok (.aload_n 0, 1) := by decide +kernel
theorem dX6_pass_13 : decode cX6_pass 13 = .ok (.iconst 1, 1) := by decide +kernel
theorem dX6_pass_14 : decode cX6_pass 14 = .ok (.invokevirtual 167, 3) := by decide +kernel
theorem dX6_pass_17 : decode cX6_pass 17 = .ok (.ireturn, 1) := by decide +kernel
theorem dX6_pass_18 : decode cX6_pass 18 = .ok (.aload_n 0, 1) := by decide +kernel
theorem dX6_pass_19 : decode cX6_pass 19 = .ok (.invokevirtual 224, 3) := by decide +kernel
theorem dX6_pass_22 : decode cX6_pass 22 = .ok (.aload_n 0, 1) := by decide +kernel
theorem dX6_pass_23 : decode cX6_pass 23 = .ok (.invokevirtual 164, 3) := by decide +kernel
theorem dX6_pass_26 : decode cX6_pass 26 = .ok (.aload_n 0, 1) := by decide +kernel
theorem dX6_pass_27 : decode cX6_pass 27 = .ok (.invokevirtual 106, 3) := by decide +kernel
theorem dX6_pass_30 : decode cX6_pass 30 = .ok (.ifCond .eq 12, 3) := by decide +kernel
theorem dX6_pass_33 : decode cX6_pass 33 = .ok (.aload_n 0, 1) := by decide +kernel
theorem dX6_pass_34 : decode cX6_pass 34 = .ok (.getfield 7, 3) := by decide +kernel
theorem dX6_pass_37 : decode cX6_pass 37 = .ok (.iconst 4, 1) := by decide +kernel
theorem dX6_pass_38 : decode cX6_pass 38 = .ok (.iaload, 1) := by decide +kernel
theorem dX6_pass_39 : decode cX6_pass 39 = .ok (.goto 4, 3) := by decide +kernel
theorem dX6_pass_42 : decode cX6_pass 42 = .ok (.iconst (-1), 1) := by decide +kernel
theorem dX6_pass_43 : decode cX6_pass 43 = .ok (.ireturn, 1) := by decide +kernel
theorem dX6_play_0 : decode cX6_play 0 = .ok (.aload_n 0, 1) := by decide +kernel
theorem dX6_play_1 : decode cX6_play 1 = .ok (.iconst 0, 1) := by decide +kernel
theorem dX6_play_2 : decode cX6_play 2 = .ok (.putfield 42, 3) := by decide +kernel
theorem dX6_play_5 : decode cX6_play 5 = .ok (.aload_n 0, 1) := by decide +kernel
theorem dX6_play_6 : decode cX6_play 6 = .ok (.invokevirtual 106, 3) := by decide +kernel
theorem dX6_play_9 : decode cX6_play 9 = .ok (.ifCond .ne 9, 3) := by decide +kernel
theorem dX6_play_12 : decode cX6_play 12 = .ok (.aload_n 0, 1) := by decide +kernel
theorem dX6_play_13 : decode cX6_play 13 = .ok (.iconst 1, 1) := by decide +kernel
theorem dX6_play_14 : decode cX6_play 14 = .ok (.invokevirtual 167, 3) := by decide +kernel
theorem dX6_play_17 : decode cX6_play 17 = .ok (.ireturn, 1) := by decide +kernel
theorem dX6_play_18 : decode cX6_play 18 = .ok (.aload_n 0, 1) := by decide +kernel
theorem dX6_play_19 : decode cX6_play 19 = .ok (.invokevirtual 224, 3) := by decide +kernel
theorem dX6_play_22 : decode cX6_play 22 = .ok (.aload_n 0, 1) := by decide +kernel
theorem dX6_play_23 : decode cX6_play 23 = .ok (.invokevirtual 230, 3) := by decide +kernel
theorem dX6_play_26 : decode cX6_play 26 = .ok (.ireturn, 1) := by decide +kernel
theorem dX6_isSetting_0 : decode cX6_isSetting 0 = .ok (.iload_n 0, 1) := by decide +kernel
theorem dX6_isSetting_1 : decode cX6_isSetting 1 = .ok (.ifCond .ne 13, 3) := by decide +kernel
theorem dX6_isSetting_4 : decode cX6_isSetting 4 = .ok (.iload_n 1, 1) := by decide +kernel
theorem dX6_isSetting_5 : decode cX6_isSetting 5 = .ok (.iconst 1, 1) := by decide +kernel
theorem dX6_isSetting_6 : decode cX6_isSetting 6 = .ok (.bipush 12, 2) := by decide +kernel
theorem dX6_isSetting_8 : decode cX6_isSetting 8 = .ok (.invokestatic 53, 3) := by decide +kernel
theorem dX6_isSetting_11 : decode cX6_isSetting 11 = .ok (.goto 36, 3) := by decide +kernel
theorem dX6_isSetting_14 : decode cX6_isSetting 14 = .ok (.iload_n 0, 1) := by decide +kernel
theorem dX6_isSetting_15 : decode cX6_isSetting 15 = .ok (.iconst 1, 1) := by decide +kernel
theorem dX6_isSetting_16 : decode cX6_isSetting 16 = .ok (.if_icmp .ne 12, 3) := by decide +kernel
theorem dX6_isSetting_19 : decode cX6_isSetting 19 = .ok (.iload_n 1, 1) := by decide +kernel
theorem dX6_isSetting_20 : decode cX6_isSetting 20 = .ok (.iconst 0, 1) := by decide +kernel
theorem dX6_isSetting_21 : decode cX6_isSetting 21 = .ok (.iconst 5, 1) := by decide +kernel
theorem dX6_isSetting_22 : decode cX6_isSetting 22 = .ok (.invokestatic 53, 3) := by decide +kernel
theorem dX6_isSetting_25 : decode cX6_isSetting 25 = .ok (.goto 22, 3) := by decide +kernel
theorem dX6_isSetting_28 : decode cX6_isSetting 28 = .ok (.iload_n 0, 1) := by decide +kernel
theorem dX6_isSetting_29 : decode cX6_isSetting 29 = .ok (.iconst 2, 1) := by decide +kernel
theorem dX6_isSetting_30 : decode cX6_isSetting 30 = .ok (.if_icmp .ne 16, 3) := by decide +kernel
theorem dX6_isSetting_33 : decode cX6_isSetting 33 = .ok (.iload_n 1, 1) := by decide +kernel
theorem dX6_isSetting_34 : decode cX6_isSetting 34 = .ok (.iconst 1, 1) := by decide +kernel
theorem dX6_isSetting_35 : decode cX6_isSetting 35 = .ok (.iconst 3, 1) := by decide +kernel
theorem dX6_isSetting_36 : decode cX6_isSetting 36 = .ok (.invokestatic 53, 3) := by decide +kernel
theorem dX6_isSetting_39 : decode cX6_isSetting 39 = .ok (.ifCond .eq 7, 3) := by decide +kernel
theorem dX6_isSetting_42 : decode cX6_isSetting 42 = .ok (.iconst 1, 1) := by decide +kernel
theorem dX6_isSetting_43 : decode cX6_isSetting 43 = .ok (.goto 4, 3) := by decide +kernel
theorem dX6_isSetting_46 : decode cX6_isSetting 46 = .ok (.iconst 0, 1) := by decide +kernel
theorem dX6_isSetting_47 : decode cX6_isSetting 47 = .ok (.ireturn, 1) := by decide +kernel
theorem dX6_set_0 : decode cX6_set 0 = .ok (.aload_n 0, 1) := by decide +kernel
theorem dX6_set_1 : decode cX6_set 1 = .ok (.iconst 0, 1) := by decide +kernel
theorem dX6_set_2 : decode cX6_set 2 = .ok (.putfield 42, 3) := by decide +kernel
theorem dX6_set_5 : decode cX6_set 5 = .ok (.iload_n 1, 1) := by decide +kernel
theorem dX6_set_6 : decode cX6_set 6 = .ok (.iload_n 2, 1) := by decide +kernel
theorem dX6_set_7 : decode cX6_set 7 = .ok (.invokestatic 233, 3) := by decide +kernel
theorem dX6_set_10 : decode cX6_set 10 = .ok (.ifCond .ne 9, 3) := by decide +kernel
theorem dX6_set_13 : decode cX6_set 13 = .ok (.aload_n 0, 1) := by decide +kernel
theorem dX6_set_14 : decode cX6_set 14 = .ok (.iconst 1, 1) := by decide +kernel
theorem dX6_set_15 : decode cX6_set 15 = .ok (.invokevirtual 167, 3) := by decide +kernel
theorem dX6_set_18 : decode cX6_set 18 = .ok (.ireturn, 1) := by decide +kernel
theorem dX6_set_19 : decode cX6_set 19 = .ok (.aload_n 0, 1) := by decide +kernel
theorem dX6_set_20 : decode cX6_set 20 = .ok (.invokevirtual 224, 3) := by decide +kernel
theorem dX6_set_23 : decode cX6_set 23 = .ok (.aload_n 0, 1) := by decide +kernel
theorem dX6_set_24 : decode cX6_set 24 = .ok (.getfield 7, 3) := by decide +kernel
theorem dX6_set_27 : decode cX6_set 27 = .ok (.iload_n 1, 1) := by decide +kernel
theorem dX6_set_28 : decode cX6_set 28 = .ok (.iaload, 1) := by decide +kernel
theorem dX6_set_29 : decode cX6_set 29 = .ok (.istore_n 3, 1) := by decide +kernel
theorem dX6_set_30 : decode cX6_set 30 = .ok (.aload_n 0, 1) := by decide +kernel
theorem dX6_set_31 : decode cX6_set 31 = .ok (.getfield 7, 3) := by decide +kernel
theorem dX6_set_34 : decode cX6_set 34 = .ok (.iload_n 1, 1) := by decide +kernel
theorem dX6_set_35 : decode cX6_set 35 = .ok (.iload_n 2, 1) := by decide +kernel
theorem dX6_set_36 : decode cX6_set 36 = .ok (.iastore, 1) := by decide +kernel
theorem dX6_set_37 : decode cX6_set 37 = .ok (.iload_n 3, 1) := by decide +kernel
theorem dX6_set_38 : decode cX6_set 38 = .ok (.ireturn, 1) := by decide +kernel
theorem dX6_undo_0 : decode cX6_undo 0 = .ok (.aload_n 0, 1) := by decide +kernel
theorem dX6_undo_1 : decode cX6_undo 1 = .ok (.iconst 0, 1) := by decide +kernel
theorem dX6_undo_2 : decode cX6_undo 2 = .ok (.putfield 42, 3) := by decide +kernel
theorem dX6_undo_5 : decode cX6_undo 5 = .ok (.aload_n 0, 1) := by decide +kernel
theorem dX6_undo_6 : decode cX6_undo 6 = .ok (.getfield 57, 3) := by decide +kernel
theorem dX6_undo_9 : decode cX6_undo 9 = .ok (.ifCond .ne 9, 3) := by decide +kernel
theorem dX6_undo_12 : decode cX6_undo 12 = .ok (.aload_n 0, 1) := by decide +kernel
theorem dX6_undo_13 : decode cX6_undo 13 = .ok (.iconst 1, 1) := by decide +kernel
theorem dX6_undo_14 : decode cX6_undo 14 = .ok (.invokevirtual 167, 3) := by decide +kernel
theorem dX6_undo_17 : decode cX6_undo 17 = .ok (.ireturn, 1) := by decide +kernel
theorem dX6_undo_18 : decode cX6_undo 18 = .ok (.aload_n 0, 1) := by decide +kernel
theorem dX6_undo_19 : decode cX6_undo 19 = .ok (.dup, 1) := by decide +kernel
theorem dX6_undo_20 : decode cX6_undo 20 = .ok (.getfield 57, 3) := by decide +kernel
theorem dX6_undo_23 : decode cX6_undo 23 = .ok (.iconst 1, 1) := by decide +kernel
theorem dX6_undo_24 : decode cX6_undo 24 = .ok (.isub, 1) := by decide +kernel
theorem dX6_undo_25 : decode cX6_undo 25 = .ok (.putfield 57, 3) := by decide +kernel
theorem dX6_undo_28 : decode cX6_undo 28 = .ok (.iconst 0, 1) := by decide +kernel
theorem dX6_undo_29 : decode cX6_undo 29 = .ok (.istore_n 1, 1) := by decide +kernel
theorem dX6_undo_30 : decode cX6_undo 30 = .ok (.iload_n 1, 1) := by decide +kernel
theorem dX6_undo_31 : decode cX6_undo 31 = .ok (.bipush 69, 2) := by decide +kernel
theorem dX6_undo_33 : decode cX6_undo 33 = .ok (.if_icmp .ge 29, 3) := by decide +kernel
theorem dX6_undo_36 : decode cX6_undo 36 = .ok (.aload_n 0, 1) := by decide +kernel
theorem dX6_undo_37 : decode cX6_undo 37 = .ok (.getfield 7, 3) := by decide +kernel
theorem dX6_undo_40 : decode cX6_undo 40 = .ok (.iload_n 1, 1) := by decide +kernel
theorem dX6_undo_41 : decode cX6_undo 41 = .ok (.aload_n 0, 1) := by decide +kernel
theorem dX6_undo_42 : decode cX6_undo 42 = .ok (.getfield 13, 3) := by decide +kernel
theorem dX6_undo_45 : decode cX6_undo 45 = .ok (.bipush 69, 2) := by decide +kernel
theorem dX6_undo_47 : decode cX6_undo 47 = .ok (.aload_n 0, 1) := by decide +kernel
theorem dX6_undo_48 : decode cX6_undo 48 = .ok (.getfield 57, 3) := by decide +kernel
theorem dX6_undo_51 : decode cX6_undo 51 = .ok (.imul, 1) := by decide +kernel
theorem dX6_undo_52 : decode cX6_undo 52 = .ok (.iload_n 1, 1) := by decide +kernel
theorem dX6_undo_53 : decode cX6_undo 53 = .ok (.iadd, 1) := by decide +kernel
theorem dX6_undo_54 : decode cX6_undo 54 = .ok (.iaload, 1) := by decide +kernel
theorem dX6_undo_55 : decode cX6_undo 55 = .ok (.iastore, 1) := by decide +kernel
theorem dX6_undo_56 : decode cX6_undo 56 = .ok (.iinc 1 1, 3) := by decide +kernel
theorem dX6_undo_59 : decode cX6_undo 59 = .ok (.goto (-29), 3) := by decide +kernel
theorem dX6_undo_62 : decode cX6_undo 62 = .ok (.aload_n 0, 1) := by decide +kernel
theorem dX6_undo_63 : decode cX6_undo 63 = .ok (.aload_n 0, 1) := by decide +kernel
theorem dX6_undo_64 : decode cX6_undo 64 = .ok (.getfield 16, 3) := by decide +kernel
theorem dX6_undo_67 : decode cX6_undo 67 = .ok (.aload_n 0, 1) := by decide +kernel
theorem dX6_undo_68 : decode cX6_undo 68 = .ok (.getfield 57, 3) := by decide +kernel
theorem dX6_undo_71 : decode cX6_undo 71 = .ok (.laload, 1) := by decide +kernel
theorem dX6_undo_72 : decode cX6_undo 72 = .ok (.putfield 49, 3) := by decide +kernel
theorem dX6_undo_75 : decode cX6_undo 75 = .ok (.aload_n 0, 1) := by decide +kernel
theorem dX6_undo_76 : decode cX6_undo 76 = .ok (.getfield 57, 3) := by decide +kernel
theorem dX6_undo_79 : decode cX6_undo 79 = .ok (.ireturn, 1) := by decide +kernel
theorem dX6_brings_0 : decode cX6_brings 0 = .ok (.aload_n 0, 1) := by decide +kernel
theorem dX6_brings_1 : decode cX6_brings 1 = .ok (.iconst 0, 1) := by decide +kernel
theorem dX6_brings_2 : decode cX6_brings 2 = .ok (.putfield 42, 3) := by decide +kernel
theorem dX6_brings_5 : decode cX6_brings 5 = .ok (.iload_n 1, 1) := by decide +kernel
theorem dX6_brings_6 : decode cX6_brings 6 = .ok (.invokestatic 221, 3) := by decide +kernel
theorem dX6_brings_9 : decode cX6_brings 9 = .ok (.ifCond .ne 9, 3) := by decide +kernel
theorem dX6_brings_12 : decode cX6_brings 12 = .ok (.aload_n 0, 1) := by decide +kernel
theorem dX6_brings_13 : decode cX6_brings 13 = .ok (.iconst 1, 1) := by decide +kernel
theorem dX6_brings_14 : decode cX6_brings 14 = .ok (.invokevirtual 167, 3) := by decide +kernel
theorem dX6_brings_17 : decode cX6_brings 17 = .ok (.ireturn, 1) := by decide +kernel
theorem dX6_brings_18 : decode cX6_brings 18 = .ok (.iload_n 1, 1) := by decide +kernel
theorem dX6_brings_19 : decode cX6_brings 19 = .ok (.iload_n 2, 1) := by decide +kernel
theorem dX6_brings_20 : decode cX6_brings 20 = .ok (.invokestatic 152, 3) := by decide +kernel
theorem dX6_brings_23 : decode cX6_brings 23 = .ok (.ifCond .eq 12, 3) := by decide +kernel
theorem dX6_brings_26 : decode cX6_brings 26 = .ok (.aload_n 0, 1) := by decide +kernel
theorem dX6_brings_27 : decode cX6_brings 27 = .ok (.iload_n 1, 1) := by decide +kernel
theorem dX6_brings_28 : decode cX6_brings 28 = .ok (.iload_n 2, 1) := by decide +kernel
theorem dX6_brings_29 : decode cX6_brings 29 = .ok (.invokevirtual 155, 3) := by decide +kernel
theorem dX6_brings_32 : decode cX6_brings 32 = .ok (.goto 8, 3) := by decide +kernel
theorem dX6_brings_35 : decode cX6_brings 35 = .ok (.aload_n 0, 1) := by decide +kernel
theorem dX6_brings_36 : decode cX6_brings 36 = .ok (.iconst 2, 1) := by decide +kernel
theorem dX6_brings_37 : decode cX6_brings 37 = .ok (.invokevirtual 167, 3) := by decide +kernel
theorem dX6_brings_40 : decode cX6_brings 40 = .ok (.ireturn, 1) := by decide +kernel
theorem dX6_bumps_0 : decode cX6_bumps 0 = .ok (.aload_n 0, 1) := by decide +kernel
theorem dX6_bumps_1 : decode cX6_bumps 1 = .ok (.iconst 0, 1) := by decide +kernel
theorem dX6_bumps_2 : decode cX6_bumps 2 = .ok (.putfield 42, 3) := by decide +kernel
theorem dX6_bumps_5 : decode cX6_bumps 5 = .ok (.iload_n 1, 1) := by decide +kernel
theorem dX6_bumps_6 : decode cX6_bumps 6 = .ok (.invokestatic 221, 3) := by decide +kernel
theorem dX6_bumps_9 : decode cX6_bumps 9 = .ok (.ifCond .ne 9, 3) := by decide +kernel
theorem dX6_bumps_12 : decode cX6_bumps 12 = .ok (.aload_n 0, 1) := by decide +kernel
theorem dX6_bumps_13 : decode cX6_bumps 13 = .ok (.iconst 1, 1) := by decide +kernel
theorem dX6_bumps_14 : decode cX6_bumps 14 = .ok (.invokevirtual 167, 3) := by decide +kernel
theorem dX6_bumps_17 : decode cX6_bumps 17 = .ok (.ireturn, 1) := by decide +kernel
theorem dX6_bumps_18 : decode cX6_bumps 18 = .ok (.aload_n 0, 1) := by decide +kernel
theorem dX6_bumps_19 : decode cX6_bumps 19 = .ok (.invokevirtual 106, 3) := by decide +kernel
theorem dX6_bumps_22 : decode cX6_bumps 22 = .ok (.ifCond .eq 20, 3) := by decide +kernel
theorem dX6_bumps_25 : decode cX6_bumps 25 = .ok (.aload_n 0, 1) := by decide +kernel
theorem dX6_bumps_26 : decode cX6_bumps 26 = .ok (.iload_n 1, 1) := by decide +kernel
theorem dX6_bumps_27 : decode cX6_bumps 27 = .ok (.invokevirtual 110, 3) := by decide +kernel
theorem dX6_bumps_30 : decode cX6_bumps 30 = .ok (.ifCond .eq 12, 3) := by decide +kernel
theorem dX6_bumps_33 : decode cX6_bumps 33 = .ok (.aload_n 0, 1) := by decide +kernel
theorem dX6_bumps_34 : decode cX6_bumps 34 = .ok (.iload_n 1, 1) := by decide +kernel
theorem dX6_bumps_35 : decode cX6_bumps 35 = .ok (.invokevirtual 114, 3) := by decide +kernel
theorem dX6_bumps_38 : decode cX6_bumps 38 = .ok (.iconst (-1), 1) := by decide +kernel
theorem dX6_bumps_39 : decode cX6_bumps 39 = .ok (.if_icmp .ne 5, 3) := by decide +kernel
theorem dX6_bumps_42 : decode cX6_bumps 42 = .ok (.iconst (-1), 1) := by decide +kernel
theorem dX6_bumps_43 : decode cX6_bumps 43 = .ok (.ireturn, 1) := by decide +kernel
theorem dX6_bumps_44 : decode cX6_bumps 44 = .ok (.aload_n 0, 1) := by decide +kernel
theorem dX6_bumps_45 : decode cX6_bumps 45 = .ok (.iload_n 1, 1) := by decide +kernel
theorem dX6_bumps_46 : decode cX6_bumps 46 = .ok (.aload_n 0, 1) := by decide +kernel
theorem dX6_bumps_47 : decode cX6_bumps 47 = .ok (.iload_n 1, 1) := by decide +kernel
theorem dX6_bumps_48 : decode cX6_bumps 48 = .ok (.invokevirtual 114, 3) := by decide +kernel
theorem dX6_bumps_51 : decode cX6_bumps 51 = .ok (.invokevirtual 103, 3) := by decide +kernel
theorem dX6_bumps_54 : decode cX6_bumps 54 = .ok (.ireturn, 1) := by decide +kernel
theorem dX6_best_0 : decode cX6_best 0 = .ok (.aload_n 0, 1) := by decide +kernel
theorem dX6_best_1 : decode cX6_best 1 = .ok (.iconst 0, 1) := by decide +kernel
theorem dX6_best_2 : decode cX6_best 2 = .ok (.putfield 42, 3) := by decide +kernel
theorem dX6_best_5 : decode cX6_best 5 = .ok (.iload_n 1, 1) := by decide +kernel
theorem dX6_best_6 : decode cX6_best 6 = .ok (.iconst 0, 1) := by decide +kernel
theorem dX6_best_7 : decode cX6_best 7 = .ok (.iconst 2, 1) := by decide +kernel
theorem dX6_best_8 : decode cX6_best 8 = .ok (.invokestatic 53, 3) := by decide +kernel
theorem dX6_best_11 : decode cX6_best 11 = .ok (.ifCond .ne 9, 3) := by decide +kernel
theorem dX6_best_14 : decode cX6_best 14 = .ok (.aload_n 0, 1) := by decide +kernel
theorem dX6_best_15 : decode cX6_best 15 = .ok (.iconst 1, 1) := by decide +kernel
theorem dX6_best_16 : decode cX6_best 16 = .ok (.invokevirtual 167, 3) := by decide +kernel
theorem dX6_best_19 : decode cX6_best 19 = .ok (.ireturn, 1) := by decide +kernel
theorem dX6_best_20 : decode cX6_best 20 = .ok (.aload_n 0, 1) := by decide +kernel
theorem dX6_best_21 : decode cX6_best 21 = .ok (.invokevirtual 161, 3) := by decide +kernel
theorem dX6_best_24 : decode cX6_best 24 = .ok (.iload_n 1, 1) := by decide +kernel
theorem dX6_best_25 : decode cX6_best 25 = .ok (.ifCond .ne 10, 3) := by decide +kernel
theorem dX6_best_28 : decode cX6_best 28 = .ok (.aload_n 0, 1) := by decide +kernel
theorem dX6_best_29 : decode cX6_best 29 = .ok (.getfield 143, 3) := by decide +kernel
theorem dX6_best_32 : decode cX6_best 32 = .ok (.goto 19, 3) := by decide +kernel
theorem dX6_best_35 : decode cX6_best 35 = .ok (.iload_n 1, 1) := by decide +kernel
theorem dX6_best_36 : decode cX6_best 36 = .ok (.iconst 1, 1) := by decide +kernel
theorem dX6_best_37 : decode cX6_best 37 = .ok (.if_icmp .ne 10, 3) := by decide +kernel
theorem dX6_best_40 : decode cX6_best 40 = .ok (.aload_n 0, 1) := by decide +kernel
theorem dX6_best_41 : decode cX6_best 41 = .ok (.getfield 146, 3) := by decide +kernel
theorem dX6_best_44 : decode cX6_best 44 = .ok (.goto 7, 3) := by decide +kernel
theorem dX6_best_47 : decode cX6_best 47 = .ok (.aload_n 0, 1) := by decide +kernel
theorem dX6_best_48 : decode cX6_best 48 = .ok (.getfield 149, 3) := by decide +kernel
theorem dX6_best_51 : decode cX6_best 51 = .ok (.ireturn, 1) := by decide +kernel
theorem dX6_loses_0 : decode cX6_loses 0 = .ok (.aload_n 0, 1) := by decide +kernel
theorem dX6_loses_1 : decode cX6_loses 1 = .ok (.iconst 0, 1) := by decide +kernel
theorem dX6_loses_2 : decode cX6_loses 2 = .ok (.putfield 42, 3) := by decide +kernel
theorem dX6_loses_5 : decode cX6_loses 5 = .ok (.aload_n 0, 1) := by decide +kernel
theorem dX6_loses_6 : decode cX6_loses 6 = .ok (.iload_n 1, 1) := by decide +kernel
theorem dX6_loses_7 : decode cX6_loses 7 = .ok (.invokevirtual 218, 3) := by decide +kernel
theorem dX6_loses_10 : decode cX6_loses 10 = .ok (.ifCond .ne 9, 3) := by decide +kernel
theorem dX6_loses_13 : decode cX6_loses 13 = .ok (.aload_n 0, 1) := by decide +kernel
theorem dX6_loses_14 : decode cX6_loses 14 = .ok (.iconst 1, 1) := by decide +kernel
theorem dX6_loses_15 : decode cX6_loses 15 = .ok (.invokevirtual 167, 3) := by decide +kernel
theorem dX6_loses_18 : decode cX6_loses 18 = .ok (.ireturn, 1) := by decide +kernel
theorem dX6_loses_19 : decode cX6_loses 19 = .ok (.iload_n 2, 1) := by decide +kernel
theorem dX6_loses_20 : decode cX6_loses 20 = .ok (.iconst 0, 1) := by decide +kernel
theorem dX6_loses_21 : decode cX6_loses 21 = .ok (.iconst 2, 1) := by decide +kernel
theorem dX6_loses_22 : decode cX6_loses 22 = .ok (.invokestatic 53, 3) := by decide +kernel
theorem dX6_loses_25 : decode cX6_loses 25 = .ok (.ifCond .ne 11, 3) := by decide +kernel
theorem dX6_loses_28 : decode cX6_loses 28 = .ok (.aload_n 0, 1) := by decide +kernel
theorem dX6_loses_29 : decode cX6_loses 29 = .ok (.iconst 2, 1) := by decide +kernel
theorem dX6_loses_30 : decode cX6_loses 30 = .ok (.invokevirtual 167, 3) := by decide +kernel
theorem dX6_loses_33 : decode cX6_loses 33 = .ok (.goto 20, 3) := by decide +kernel
theorem dX6_loses_36 : decode cX6_loses 36 = .ok (.aload_n 0, 1) := by decide +kernel
theorem dX6_loses_37 : decode cX6_loses 37 = .ok (.invokevirtual 106, 3) := by decide +kernel
theorem dX6_loses_40 : decode cX6_loses 40 = .ok (.ifCond .eq 12, 3) := by decide +kernel
theorem dX6_loses_43 : decode cX6_loses 43 = .ok (.aload_n 0, 1) := by decide +kernel
theorem dX6_loses_44 : decode cX6_loses 44 = .ok (.iload_n 1, 1) := by decide +kernel
theorem dX6_loses_45 : decode cX6_loses 45 = .ok (.iload_n 2, 1) := by decide +kernel
theorem dX6_loses_46 : decode cX6_loses 46 = .ok (.invokevirtual 82, 3) := by decide +kernel
theorem dX6_loses_49 : decode cX6_loses 49 = .ok (.goto 4, 3) := by decide +kernel
theorem dX6_loses_52 : decode cX6_loses 52 = .ok (.iconst 0, 1) := by decide +kernel
theorem dX6_loses_53 : decode cX6_loses 53 = .ok (.ireturn, 1) := by decide +kernel
theorem dX6_richest_0 : decode cX6_richest 0 = .ok (.iconst (-1), 1) := by decide +kernel
theorem dX6_richest_1 : decode cX6_richest 1 = .ok (.istore_n 1, 1) := by decide +kernel
theorem dX6_richest_2 : decode cX6_richest 2 = .ok (.iconst 0, 1) := by decide +kernel
theorem dX6_richest_3 : decode cX6_richest 3 = .ok (.istore_n 2, 1) := by decide +kernel
theorem dX6_richest_4 : decode cX6_richest 4 = .ok (.iload_n 2, 1) := by decide +kernel
theorem dX6_richest_5 : decode cX6_richest 5 = .ok (.aload_n 0, 1) := by decide +kernel
theorem dX6_richest_6 : decode cX6_richest 6 = .ok (.getfield 7, 3) := by decide +kernel
theorem dX6_richest_9 : decode cX6_richest 9 = .ok (.iconst 3, 1) := by decide +kernel
theorem dX6_richest_10 : decode cX6_richest 10 = .ok (.iaload, 1) := by decide +kernel
theorem dX6_richest_11 : decode cX6_richest 11 = .ok (.if_icmp .ge 33, 3) := by decide +kernel
theorem dX6_richest_14 : decode cX6_richest 14 = .ok (.iload_n 1, 1) := by decide +kernel
theorem dX6_richest_15 : decode cX6_richest 15 = .ok (.iconst (-1), 1) := by decide +kernel
theorem dX6_richest_16 : decode cX6_richest 16 = .ok (.if_icmp .eq 16, 3) := by decide +kernel
theorem dX6_richest_19 : decode cX6_richest 19 = .ok (.aload_n 0, 1) := by decide +kernel
theorem dX6_richest_20 : decode cX6_richest 20 = .ok (.iload_n 2, 1) := by decide +kernel
theorem dX6_richest_21 : decode cX6_richest 21 = .ok (.invokevirtual 134, 3) := by decide +kernel
theorem dX6_richest_24 : decode cX6_richest 24 = .ok (.aload_n 0, 1) := by decide +kernel
theorem dX6_richest_25 : decode cX6_richest 25 = .ok (.iload_n 1, 1) := by decide +kernel
theorem dX6_richest_26 : decode cX6_richest 26 = .ok (.invokevirtual 134, 3) := by decide +kernel
theorem dX6_richest_29 : decode cX6_richest 29 = .ok (.if_icmp .le 7, 3) := by decide +kernel
theorem dX6_richest_32 : decode cX6_richest 32 = .ok (.iload_n 2, 1) := by decide +kernel
theorem dX6_richest_33 : decode cX6_richest 33 = .ok (.goto 4, 3) := by decide +kernel
theorem dX6_richest_36 : decode cX6_richest 36 = .ok (.iload_n 1, 1) := by decide +kernel
theorem dX6_richest_37 : decode cX6_richest 37 = .ok (.istore_n 1, 1) := by decide +kernel
theorem dX6_richest_38 : decode cX6_richest 38 = .ok (.iinc 2 1, 3) := by decide +kernel
theorem dX6_richest_41 : decode cX6_richest 41 = .ok (.goto (-37), 3) := by decide +kernel
theorem dX6_richest_44 : decode cX6_richest 44 = .ok (.iload_n 1, 1) := by decide +kernel
theorem dX6_richest_45 : decode cX6_richest 45 = .ok (.ireturn, 1) := by decide +kernel
theorem dX6_goesOn_0 : decode cX6_goesOn 0 = .ok (.aload_n 0, 1) := by decide +kernel
theorem dX6_goesOn_1 : decode cX6_goesOn 1 = .ok (.iconst 0, 1) := by decide +kernel
theorem dX6_goesOn_2 : decode cX6_goesOn 2 = .ok (.putfield 42, 3) := by decide +kernel
theorem dX6_goesOn_5 : decode cX6_goesOn 5 = .ok (.iload_n 1, 1) := by decide +kernel
theorem dX6_goesOn_6 : decode cX6_goesOn 6 = .ok (.iconst 0, 1) := by decide +kernel
theorem dX6_goesOn_7 : decode cX6_goesOn 7 = .ok (.iconst 4, 1) := by decide +kernel
theorem dX6_goesOn_8 : decode cX6_goesOn 8 = .ok (.invokestatic 53, 3) := by decide +kernel
theorem dX6_goesOn_11 : decode cX6_goesOn 11 = .ok (.ifCond .ne 9, 3) := by decide +kernel
theorem dX6_goesOn_14 : decode cX6_goesOn 14 = .ok (.aload_n 0, 1) := by decide +kernel
theorem dX6_goesOn_15 : decode cX6_goesOn 15 = .ok (.iconst 1, 1) := by decide +kernel
theorem dX6_goesOn_16 : decode cX6_goesOn 16 = .ok (.invokevirtual 167, 3) := by decide +kernel
theorem dX6_goesOn_19 : decode cX6_goesOn 19 = .ok (.ireturn, 1) := by decide +kernel
theorem dX6_goesOn_20 : decode cX6_goesOn 20 = .ok (.aload_n 0, 1) := by decide +kernel
theorem dX6_goesOn_21 : decode cX6_goesOn 21 = .ok (.invokevirtual 236, 3) := by decide +kernel
theorem dX6_goesOn_24 : decode cX6_goesOn 24 = .ok (.aload_n 0, 1) := by decide +kernel
theorem dX6_goesOn_25 : decode cX6_goesOn 25 = .ok (.invokevirtual 106, 3) := by decide +kernel
theorem dX6_goesOn_28 : decode cX6_goesOn 28 = .ok (.ifCond .eq 11, 3) := by decide +kernel
theorem dX6_goesOn_31 : decode cX6_goesOn 31 = .ok (.aload_n 0, 1) := by decide +kernel
theorem dX6_goesOn_32 : decode cX6_goesOn 32 = .ok (.invokevirtual 230, 3) := by decide +kernel
theorem dX6_goesOn_35 : decode cX6_goesOn 35 = .ok (.pop, 1) := by decide +kernel
theorem dX6_goesOn_36 : decode cX6_goesOn 36 = .ok (.goto (-12), 3) := by decide +kernel
theorem dX6_goesOn_39 : decode cX6_goesOn 39 = .ok (.iload_n 1, 1) := by decide +kernel
theorem dX6_goesOn_40 : decode cX6_goesOn 40 = .ok (.iconst 4, 1) := by decide +kernel
theorem dX6_goesOn_41 : decode cX6_goesOn 41 = .ok (.if_icmp .ne 10, 3) := by decide +kernel
theorem dX6_goesOn_44 : decode cX6_goesOn 44 = .ok (.aload_n 0, 1) := by decide +kernel
theorem dX6_goesOn_45 : decode cX6_goesOn 45 = .ok (.invokevirtual 239, 3) := by decide +kernel
theorem dX6_goesOn_48 : decode cX6_goesOn 48 = .ok (.goto 20, 3) := by decide +kernel
theorem dX6_goesOn_51 : decode cX6_goesOn 51 = .ok (.aload_n 0, 1) := by decide +kernel
theorem dX6_goesOn_52 : decode cX6_goesOn 52 = .ok (.iload_n 1, 1) := by decide +kernel
theorem dX6_goesOn_53 : decode cX6_goesOn 53 = .ok (.invokevirtual 218, 3) := by decide +kernel
theorem dX6_goesOn_56 : decode cX6_goesOn 56 = .ok (.ifCond .eq 11, 3) := by decide +kernel
theorem dX6_goesOn_59 : decode cX6_goesOn 59 = .ok (.aload_n 0, 1) := by decide +kernel
theorem dX6_goesOn_60 : decode cX6_goesOn 60 = .ok (.iload_n 1, 1) := by decide +kernel
theorem dX6_goesOn_61 : decode cX6_goesOn 61 = .ok (.invokevirtual 134, 3) := by decide +kernel
theorem dX6_goesOn_64 : decode cX6_goesOn 64 = .ok (.goto 4, 3) := by decide +kernel
theorem dX6_goesOn_67 : decode cX6_goesOn 67 = .ok (.iconst (-1), 1) := by decide +kernel
theorem dX6_goesOn_68 : decode cX6_goesOn 68 = .ok (.istore_n 2, 1) := by decide +kernel
theorem dX6_goesOn_69 : decode cX6_goesOn 69 = .ok (.aload_n 0, 1) := by decide +kernel
theorem dX6_goesOn_70 : decode cX6_goesOn 70 = .ok (.invokevirtual 242, 3) := by decide +kernel
theorem dX6_goesOn_73 : decode cX6_goesOn 73 = .ok (.iload_n 2, 1) := by decide +kernel
theorem dX6_goesOn_74 : decode cX6_goesOn 74 = .ok (.ireturn, 1) := by decide +kernel
theorem dX6_weather_0 : decode cX6_weather 0 = .ok (.aload_n 0, 1) := by decide +kernel
theorem dX6_weather_1 : decode cX6_weather 1 = .ok (.iconst 0, 1) := by decide +kernel
theorem dX6_weather_2 : decode cX6_weather 2 = .ok (.putfield 42, 3) := by decide +kernel
theorem dX6_weather_5 : decode cX6_weather 5 = .ok (.iload_n 1, 1) := by decide +kernel
theorem dX6_weather_6 : decode cX6_weather 6 = .ok (.iconst 1, 1) := by decide +kernel
theorem dX6_weather_7 : decode cX6_weather 7 = .ok (.bipush 12, 2) := by decide +kernel
theorem dX6_weather_9 : decode cX6_weather 9 = .ok (.invokestatic 53, 3) := by decide +kernel
theorem dX6_weather_12 : decode cX6_weather 12 = .ok (.ifCond .ne 9, 3) := by decide +kernel
theorem dX6_weather_15 : decode cX6_weather 15 = .ok (.aload_n 0, 1) := by decide +kernel
theorem dX6_weather_16 : decode cX6_weather 16 = .ok (.iconst 1, 1) := by decide +kernel
theorem dX6_weather_17 : decode cX6_weather 17 = .ok (.invokevirtual 167, 3) := by decide +kernel
theorem dX6_weather_20 : decode cX6_weather 20 = .ok (.ireturn, 1) := by decide +kernel
theorem dX6_weather_21 : decode cX6_weather 21 = .ok (.aload_n 0, 1) := by decide +kernel
theorem dX6_weather_22 : decode cX6_weather 22 = .ok (.getfield 49, 3) := by decide +kernel
theorem dX6_weather_25 : decode cX6_weather 25 = .ok (.lstore_n 2, 1) := by decide +kernel
theorem dX6_weather_26 : decode cX6_weather 26 = .ok (.iconst 0, 1) := by decide +kernel
theorem dX6_weather_27 : decode cX6_weather 27 = .ok (.istore 4, 2) := by decide +kernel
theorem dX6_weather_29 : decode cX6_weather 29 = .ok (.iload 4, 2) := by decide +kernel
theorem dX6_weather_31 : decode cX6_weather 31 = .ok (.iload_n 1, 1) := by decide +kernel
theorem dX6_weather_32 : decode cX6_weather 32 = .ok (.if_icmp .ge 14, 3) := by decide +kernel
theorem dX6_weather_35 : decode cX6_weather 35 = .ok (.lload_n 2, 1) := by decide +kernel
theorem dX6_weather_36 : decode cX6_weather 36 = .ok (.invokestatic 70, 3) := by decide +kernel
theorem dX6_weather_39 : decode cX6_weather 39 = .ok (.lstore_n 2, 1) := by decide +kernel
theorem dX6_weather_40 : decode cX6_weather 40 = .ok (.iinc 4 1, 3) := by decide +kernel
theorem dX6_weather_43 : decode cX6_weather 43 = .ok (.goto (-14), 3) := by decide +kernel
theorem dX6_weather_46 : decode cX6_weather 46 = .ok (.aload_n 0, 1) := by decide +kernel
theorem dX6_weather_47 : decode cX6_weather 47 = .ok (.getfield 7, 3) := by decide +kernel
theorem dX6_weather_50 : decode cX6_weather 50 = .ok (.iconst 3, 1) := by decide +kernel
theorem dX6_weather_51 : decode cX6_weather 51 = .ok (.iaload, 1) := by decide +kernel
theorem dX6_weather_52 : decode cX6_weather 52 = .ok (.ifCond .ne 7, 3) := by decide +kernel
theorem dX6_weather_55 : decode cX6_weather 55 = .ok (.iconst (-1), 1) := by decide +kernel
theorem dX6_weather_56 : decode cX6_weather 56 = .ok (.goto 7, 3) := by decide +kernel
theorem dX6_weather_59 : decode cX6_weather 59 = .ok (.lload_n 2, 1) := by decide +kernel
theorem dX6_weather_60 : decode cX6_weather 60 = .ok (.invokestatic 74, 3) := by decide +kernel
theorem dX6_weather_63 : decode cX6_weather 63 = .ok (.ireturn, 1) := by decide +kernel
theorem dX6_doesPlace_0 : decode cX6_doesPlace 0 = .ok (.aload_n 0, 1) := by decide +kernel
theorem dX6_doesPlace_1 : decode cX6_doesPlace 1 = .ok (.iload_n 1, 1) := by decide +kernel
theorem dX6_doesPlace_2 : decode cX6_doesPlace 2 = .ok (.iload_n 2, 1) := by decide +kernel
theorem dX6_doesPlace_3 : decode cX6_doesPlace 3 = .ok (.invokevirtual 227, 3) := by decide +kernel
theorem dX6_doesPlace_6 : decode cX6_doesPlace 6 = .ok (.ifCond .ne 7, 3) := by decide +kernel
theorem dX6_doesPlace_9 : decode cX6_doesPlace 9 = .ok (.iconst 1, 1) := by decide +kernel
theorem dX6_doesPlace_10 : decode cX6_doesPlace 10 = .ok (.goto 4, 3) := by decide +kernel
theorem dX6_doesPlace_13 : decode cX6_doesPlace 13 = .ok (.iconst 0, 1) := by decide +kernel
theorem dX6_doesPlace_14 : decode cX6_doesPlace 14 = .ok (.istore_n 3, 1) := by decide +kernel
theorem dX6_doesPlace_15 : decode cX6_doesPlace 15 = .ok (.iload_n 3, 1) := by decide +kernel
theorem dX6_doesPlace_16 : decode cX6_doesPlace 16 = .ok (.ifCond .eq 14, 3) := by decide +kernel
theorem dX6_doesPlace_19 : decode cX6_doesPlace 19 = .ok (.aload_n 0, 1) := by decide +kernel
theorem dX6_doesPlace_20 : decode cX6_doesPlace 20 = .ok (.iload_n 1, 1) := by decide +kernel
theorem dX6_doesPlace_21 : decode cX6_doesPlace 21 = .ok (.iload_n 2, 1) := by decide +kernel
theorem dX6_doesPlace_22 : decode cX6_doesPlace 22 = .ok (.invokevirtual 137, 3) := by decide +kernel
theorem dX6_doesPlace_25 : decode cX6_doesPlace 25 = .ok (.pop, 1) := by decide +kernel
theorem dX6_doesPlace_26 : decode cX6_doesPlace 26 = .ok (.aload_n 0, 1) := by decide +kernel
theorem dX6_doesPlace_27 : decode cX6_doesPlace 27 = .ok (.invokevirtual 158, 3) := by decide +kernel
theorem dX6_doesPlace_30 : decode cX6_doesPlace 30 = .ok (.iload_n 3, 1) := by decide +kernel
theorem dX6_doesPlace_31 : decode cX6_doesPlace 31 = .ok (.ireturn, 1) := by decide +kernel
theorem dX6_doesTurn_0 : decode cX6_doesTurn 0 = .ok (.aload_n 0, 1) := by decide +kernel
theorem dX6_doesTurn_1 : decode cX6_doesTurn 1 = .ok (.invokevirtual 106, 3) := by decide +kernel
theorem dX6_doesTurn_4 : decode cX6_doesTurn 4 = .ok (.istore_n 2, 1) := by decide +kernel
theorem dX6_doesTurn_5 : decode cX6_doesTurn 5 = .ok (.iload_n 2, 1) := by decide +kernel
theorem dX6_doesTurn_6 : decode cX6_doesTurn 6 = .ok (.ifCond .eq 19, 3) := by decide +kernel
theorem dX6_doesTurn_9 : decode cX6_doesTurn 9 = .ok (.iload_n 1, 1) := by decide +kernel
theorem dX6_doesTurn_10 : decode cX6_doesTurn 10 = .ok (.ifCond .eq 11, 3) := by decide +kernel
theorem dX6_doesTurn_13 : decode cX6_doesTurn 13 = .ok (.aload_n 0, 1) := by decide +kernel
theorem dX6_doesTurn_14 : decode cX6_doesTurn 14 = .ok (.invokevirtual 230, 3) := by decide +kernel
theorem dX6_doesTurn_17 : decode cX6_doesTurn 17 = .ok (.pop, 1) := by decide +kernel
theorem dX6_doesTurn_18 : decode cX6_doesTurn 18 = .ok (.goto 7, 3) := by decide +kernel
theorem dX6_doesTurn_21 : decode cX6_doesTurn 21 = .ok (.aload_n 0, 1) := by decide +kernel
theorem dX6_doesTurn_22 : decode cX6_doesTurn 22 = .ok (.invokevirtual 164, 3) := by decide +kernel
theorem dX6_doesTurn_25 : decode cX6_doesTurn 25 = .ok (.iload_n 2, 1) := by decide +kernel
theorem dX6_doesTurn_26 : decode cX6_doesTurn 26 = .ok (.ireturn, 1) := by decide +kernel
theorem dX6_doesSet_0 : decode cX6_doesSet 0 = .ok (.iload_n 1, 1) := by decide +kernel
theorem dX6_doesSet_1 : decode cX6_doesSet 1 = .ok (.iload_n 2, 1) := by decide +kernel
theorem dX6_doesSet_2 : decode cX6_doesSet 2 = .ok (.invokestatic 233, 3) := by decide +kernel
theorem dX6_doesSet_5 : decode cX6_doesSet 5 = .ok (.istore_n 3, 1) := by decide +kernel
theorem dX6_doesSet_6 : decode cX6_doesSet 6 = .ok (.iload_n 3, 1) := by decide +kernel
theorem dX6_doesSet_7 : decode cX6_doesSet 7 = .ok (.ifCond .eq 10, 3) := by decide +kernel
theorem dX6_doesSet_10 : decode cX6_doesSet 10 = .ok (.aload_n 0, 1) := by decide +kernel
theorem dX6_doesSet_11 : decode cX6_doesSet 11 = .ok (.getfield 7, 3) := by decide +kernel
theorem dX6_doesSet_14 : decode cX6_doesSet 14 = .ok (.iload_n 1, 1) := by decide +kernel
theorem dX6_doesSet_15 : decode cX6_doesSet 15 = .ok (.iload_n 2, 1) := by decide +kernel
theorem dX6_doesSet_16 : decode cX6_doesSet 16 = .ok (.iastore, 1) := by decide +kernel
theorem dX6_doesSet_17 : decode cX6_doesSet 17 = .ok (.iload_n 3, 1) := by decide +kernel
theorem dX6_doesSet_18 : decode cX6_doesSet 18 = .ok (.ireturn, 1) := by decide +kernel
theorem dX6_does_0 : decode cX6_does 0 = .ok (.iload_n 1, 1) := by decide +kernel
theorem dX6_does_1 : decode cX6_does 1 = .ok (.tableswitch 273 1 9 #[51, 64, 64, 96, 109, 138, 165, 207, 237], 51) := by decide +kernel
theorem dX6_does_52 : decode cX6_does 52 = .ok (.aload_n 0, 1) := by decide +kernel
theorem dX6_does_53 : decode cX6_does 53 = .ok (.iload_n 2, 1) := by decide +kernel
theorem dX6_does_54 : decode cX6_does 54 = .ok (.bipush 10, 2) := by decide +kernel
theorem dX6_does_56 : decode cX6_does 56 = .ok (.iload_n 3, 1) := by decide +kernel
theorem dX6_does_57 : decode cX6_does 57 = .ok (.imul, 1) := by decide +kernel
theorem dX6_does_58 : decode cX6_does 58 = .ok (.iload 4, 2) := by decide +kernel
theorem dX6_does_60 : decode cX6_does 60 = .ok (.iadd, 1) := by decide +kernel
theorem dX6_does_61 : decode cX6_does 61 = .ok (.invokevirtual 245, 3) := by decide +kernel
theorem dX6_does_64 : decode cX6_does 64 = .ok (.ireturn, 1) := by decide +kernel
theorem dX6_does_65 : decode cX6_does 65 = .ok (.iload_n 2, 1) := by decide +kernel
theorem dX6_does_66 : decode cX6_does 66 = .ok (.iload_n 3, 1) := by decide +kernel
theorem dX6_does_67 : decode cX6_does 67 = .ok (.iadd, 1) := by decide +kernel
theorem dX6_does_68 : decode cX6_does 68 = .ok (.iload 4, 2) := by decide +kernel
theorem dX6_does_70 : decode cX6_does 70 = .ok (.iadd, 1) := by decide +kernel
theorem dX6_does_71 : decode cX6_does 71 = .ok (.ifCond .ne 24, 3) := by decide +kernel
theorem dX6_does_74 : decode cX6_does 74 = .ok (.aload_n 0, 1) := by decide +kernel
theorem dX6_does_75 : decode cX6_does 75 = .ok (.iload_n 1, 1) := by decide +kernel
theorem dX6_does_76 : decode cX6_does 76 = .ok (.iconst 3, 1) := by decide +kernel
theorem dX6_does_77 : decode cX6_does 77 = .ok (.if_icmp .ne 7, 3) := by decide +kernel
theorem dX6_does_80 : decode cX6_does 80 = .ok (.iconst 1, 1) := by decide +kernel
theorem dX6_does_81 : decode cX6_does 81 = .ok (.goto 4, 3) := by decide +kernel
theorem dX6_does_84 : decode cX6_does 84 = .ok (.iconst 0, 1) := by decide +kernel
theorem dX6_does_85 : decode cX6_does 85 = .ok (.invokevirtual 248, 3) := by decide +kernel
theorem dX6_does_88 : decode cX6_does 88 = .ok (.ifCond .eq 7, 3) := by decide +kernel
theorem dX6_does_91 : decode cX6_does 91 = .ok (.iconst 1, 1) := by decide +kernel
theorem dX6_does_92 : decode cX6_does 92 = .ok (.goto 4, 3) := by decide +kernel
theorem dX6_does_95 : decode cX6_does 95 = .ok (.iconst 0, 1) := by decide +kernel
theorem dX6_does_96 : decode cX6_does 96 = .ok (.ireturn, 1) := by decide +kernel
theorem dX6_does_97 : decode cX6_does 97 = .ok (.aload_n 0, 1) := by decide +kernel
theorem dX6_does_98 : decode cX6_does 98 = .ok (.iload_n 2, 1) := by decide +kernel
theorem dX6_does_99 : decode cX6_does 99 = .ok (.bipush 10, 2) := by decide +kernel
theorem dX6_does_101 : decode cX6_does 101 = .ok (.iload_n 3, 1) := by decide +kernel
theorem dX6_does_102 : decode cX6_does 102 = .ok (.imul, 1) := by decide +kernel
theorem dX6_does_103 : decode cX6_does 103 = .ok (.iload 4, 2) := by decide +kernel
theorem dX6_does_105 : decode cX6_does 105 = .ok (.iadd, 1) := by decide +kernel
theorem dX6_does_106 : decode cX6_does 106 = .ok (.invokevirtual 252, 3) := by decide +kernel
theorem dX6_does_109 : decode cX6_does 109 = .ok (.ireturn, 1) := by decide +kernel
theorem dX6_does_110 : decode cX6_does 110 = .ok (.aload_n 0, 1) := by decide +kernel
theorem dX6_does_111 : decode cX6_does 111 = .ok (.iload_n 2, 1) := by decide +kernel
theorem dX6_does_112 : decode cX6_does 112 = .ok (.invokevirtual 218, 3) := by decide +kernel
theorem dX6_does_115 : decode cX6_does 115 = .ok (.ifCond .eq 22, 3) := by decide +kernel
theorem dX6_does_118 : decode cX6_does 118 = .ok (.aload_n 0, 1) := by decide +kernel
theorem dX6_does_119 : decode cX6_does 119 = .ok (.iload_n 2, 1) := by decide +kernel
theorem dX6_does_120 : decode cX6_does 120 = .ok (.invokevirtual 134, 3) := by decide +kernel
theorem dX6_does_123 : decode cX6_does 123 = .ok (.bipush 10, 2) := by decide +kernel
theorem dX6_does_125 : decode cX6_does 125 = .ok (.iload_n 3, 1) := by decide +kernel
theorem dX6_does_126 : decode cX6_does 126 = .ok (.imul, 1) := by decide +kernel
theorem dX6_does_127 : decode cX6_does 127 = .ok (.iload 4, 2) := by decide +kernel
theorem dX6_does_129 : decode cX6_does 129 = .ok (.iadd, 1) := by decide +kernel
theorem dX6_does_130 : decode cX6_does 130 = .ok (.if_icmp .lt 7, 3) := by decide +kernel
theorem dX6_does_133 : decode cX6_does 133 = .ok (.iconst 1, 1) := by decide +kernel
theorem dX6_does_134 : decode cX6_does 134 = .ok (.goto 4, 3) := by decide +kernel
theorem dX6_does_137 : decode cX6_does 137 = .ok (.iconst 0, 1) := by decide +kernel
theorem dX6_does_138 : decode cX6_does 138 = .ok (.ireturn, 1) := by decide +kernel
theorem dX6_does_139 : decode cX6_does 139 = .ok (.iload_n 2, 1) := by decide +kernel
theorem dX6_does_140 : decode cX6_does 140 = .ok (.invokestatic 221, 3) := by decide +kernel
theorem dX6_does_143 : decode cX6_does 143 = .ok (.ifCond .eq 21, 3) := by decide +kernel
theorem dX6_does_146 : decode cX6_does 146 = .ok (.iload 4, 2) := by decide +kernel
theorem dX6_does_148 : decode cX6_does 148 = .ok (.ifCond .ne 16, 3) := by decide +kernel
theorem dX6_does_151 : decode cX6_does 151 = .ok (.aload_n 0, 1) := by decide +kernel
theorem dX6_does_152 : decode cX6_does 152 = .ok (.iload_n 2, 1) := by decide +kernel
theorem dX6_does_153 : decode cX6_does 153 = .ok (.invokevirtual 99, 3) := by decide +kernel
theorem dX6_does_156 : decode cX6_does 156 = .ok (.iload_n 3, 1) := by decide +kernel
theorem dX6_does_157 : decode cX6_does 157 = .ok (.if_icmp .lt 7, 3) := by decide +kernel
theorem dX6_does_160 : decode cX6_does 160 = .ok (.iconst 1, 1) := by decide +kernel
theorem dX6_does_161 : decode cX6_does 161 = .ok (.goto 4, 3) := by decide +kernel
theorem dX6_does_164 : decode cX6_does 164 = .ok (.iconst 0, 1) := by decide +kernel
theorem dX6_does_165 : decode cX6_does 165 = .ok (.ireturn, 1) := by decide +kernel
theorem dX6_does_166 : decode cX6_does 166 = .ok (.iload_n 2, 1) := by decide +kernel
theorem dX6_does_167 : decode cX6_does 167 = .ok (.iconst 0, 1) := by decide +kernel
theorem dX6_does_168 : decode cX6_does 168 = .ok (.iconst 2, 1) := by decide +kernel
theorem dX6_does_169 : decode cX6_does 169 = .ok (.invokestatic 53, 3) := by decide +kernel
theorem dX6_does_172 : decode cX6_does 172 = .ok (.ifCond .eq 34, 3) := by decide +kernel
theorem dX6_does_175 : decode cX6_does 175 = .ok (.iload 4, 2) := by decide +kernel
theorem dX6_does_177 : decode cX6_does 177 = .ok (.ifCond .ne 29, 3) := by decide +kernel
theorem dX6_does_180 : decode cX6_does 180 = .ok (.aload_n 0, 1) := by decide +kernel
theorem dX6_does_181 : decode cX6_does 181 = .ok (.getfield 7, 3) := by decide +kernel
theorem dX6_does_184 : decode cX6_does 184 = .ok (.iconst 3, 1) := by decide +kernel
theorem dX6_does_185 : decode cX6_does 185 = .ok (.iaload, 1) := by decide +kernel
theorem dX6_does_186 : decode cX6_does 186 = .ok (.ifCond .le 20, 3) := by decide +kernel
theorem dX6_does_189 : decode cX6_does 189 = .ok (.aload_n 0, 1) := by decide +kernel
theorem dX6_does_190 : decode cX6_does 190 = .ok (.getfield 7, 3) := by decide +kernel
theorem dX6_does_193 : decode cX6_does 193 = .ok (.bipush 7, 2) := by decide +kernel
theorem dX6_does_195 : decode cX6_does 195 = .ok (.iload_n 2, 1) := by decide +kernel
theorem dX6_does_196 : decode cX6_does 196 = .ok (.iadd, 1) := by decide +kernel
theorem dX6_does_197 : decode cX6_does 197 = .ok (.iaload, 1) := by decide +kernel
theorem dX6_does_198 : decode cX6_does 198 = .ok (.iload_n 3, 1) := by decide +kernel
theorem dX6_does_199 : decode cX6_does 199 = .ok (.if_icmp .lt 7, 3) := by decide +kernel
theorem dX6_does_202 : decode cX6_does 202 = .ok (.iconst 1, 1) := by decide +kernel
theorem dX6_does_203 : decode cX6_does 203 = .ok (.goto 4, 3) := by decide +kernel
theorem dX6_does_206 : decode cX6_does 206 = .ok (.iconst 0, 1) := by decide +kernel
theorem dX6_does_207 : decode cX6_does 207 = .ok (.ireturn, 1) := by decide +kernel
theorem dX6_does_208 : decode cX6_does 208 = .ok (.iload_n 2, 1) := by decide +kernel
theorem dX6_does_209 : decode cX6_does 209 = .ok (.iload_n 3, 1) := by decide +kernel
theorem dX6_does_210 : decode cX6_does 210 = .ok (.iadd, 1) := by decide +kernel
theorem dX6_does_211 : decode cX6_does 211 = .ok (.ifCond .ne 25, 3) := by decide +kernel
theorem dX6_does_214 : decode cX6_does 214 = .ok (.aload_n 0, 1) := by decide +kernel
theorem dX6_does_215 : decode cX6_does 215 = .ok (.invokevirtual 106, 3) := by decide +kernel
theorem dX6_does_218 : decode cX6_does 218 = .ok (.ifCond .eq 18, 3) := by decide +kernel
theorem dX6_does_221 : decode cX6_does 221 = .ok (.aload_n 0, 1) := by decide +kernel
theorem dX6_does_222 : decode cX6_does 222 = .ok (.getfield 7, 3) := by decide +kernel
theorem dX6_does_225 : decode cX6_does 225 = .ok (.iconst 4, 1) := by decide +kernel
theorem dX6_does_226 : decode cX6_does 226 = .ok (.iaload, 1) := by decide +kernel
theorem dX6_does_227 : decode cX6_does 227 = .ok (.iload 4, 2) := by decide +kernel
theorem dX6_does_229 : decode cX6_does 229 = .ok (.if_icmp .ne 7, 3) := by decide +kernel
theorem dX6_does_232 : decode cX6_does 232 = .ok (.iconst 1, 1) := by decide +kernel
theorem dX6_does_233 : decode cX6_does 233 = .ok (.goto 4, 3) := by decide +kernel
theorem dX6_does_236 : decode cX6_does 236 = .ok (.iconst 0, 1) := by decide +kernel
theorem dX6_does_237 : decode cX6_does 237 = .ok (.ireturn, 1) := by decide +kernel
theorem dX6_does_238 : decode cX6_does 238 = .ok (.aload_n 0, 1) := by decide +kernel
theorem dX6_does_239 : decode cX6_does 239 = .ok (.iload_n 2, 1) := by decide +kernel
theorem dX6_does_240 : decode cX6_does 240 = .ok (.invokevirtual 218, 3) := by decide +kernel
theorem dX6_does_243 : decode cX6_does 243 = .ok (.ifCond .eq 29, 3) := by decide +kernel
theorem dX6_does_246 : decode cX6_does 246 = .ok (.iload_n 3, 1) := by decide +kernel
theorem dX6_does_247 : decode cX6_does 247 = .ok (.iconst 0, 1) := by decide +kernel
theorem dX6_does_248 : decode cX6_does 248 = .ok (.iconst 2, 1) := by decide +kernel
theorem dX6_does_249 : decode cX6_does 249 = .ok (.invokestatic 53, 3) := by decide +kernel
theorem dX6_does_252 : decode cX6_does 252 = .ok (.ifCond .eq 20, 3) := by decide +kernel
theorem dX6_does_255 : decode cX6_does 255 = .ok (.aload_n 0, 1) := by decide +kernel
theorem dX6_does_256 : decode cX6_does 256 = .ok (.iload_n 2, 1) := by decide +kernel
theorem dX6_does_257 : decode cX6_does 257 = .ok (.iconst 1, 1) := by decide +kernel
theorem dX6_does_258 : decode cX6_does 258 = .ok (.iload_n 3, 1) := by decide +kernel
theorem dX6_does_259 : decode cX6_does 259 = .ok (.iadd, 1) := by decide +kernel
theorem dX6_does_260 : decode cX6_does 260 = .ok (.invokevirtual 78, 3) := by decide +kernel
theorem dX6_does_263 : decode cX6_does 263 = .ok (.iload 4, 2) := by decide +kernel
theorem dX6_does_265 : decode cX6_does 265 = .ok (.if_icmp .lt 7, 3) := by decide +kernel
theorem dX6_does_268 : decode cX6_does 268 = .ok (.iconst 1, 1) := by decide +kernel
theorem dX6_does_269 : decode cX6_does 269 = .ok (.goto 4, 3) := by decide +kernel
theorem dX6_does_272 : decode cX6_does 272 = .ok (.iconst 0, 1) := by decide +kernel
theorem dX6_does_273 : decode cX6_does 273 = .ok (.ireturn, 1) := by decide +kernel
theorem dX6_does_274 : decode cX6_does 274 = .ok (.iconst 0, 1) := by decide +kernel
theorem dX6_does_275 : decode cX6_does 275 = .ok (.ireturn, 1) := by decide +kernel
theorem dX6_runScript_0 : decode cX6_runScript 0 = .ok (.aload_n 0, 1) := by decide +kernel
theorem dX6_runScript_1 : decode cX6_runScript 1 = .ok (.iconst 0, 1) := by decide +kernel
theorem dX6_runScript_2 : decode cX6_runScript 2 = .ok (.putfield 42, 3) := by decide +kernel
theorem dX6_runScript_5 : decode cX6_runScript 5 = .ok (.lconst 1, 1) := by decide +kernel
theorem dX6_runScript_6 : decode cX6_runScript 6 = .ok (.lstore 4, 2) := by decide +kernel
theorem dX6_runScript_8 : decode cX6_runScript 8 = .ok (.iconst 0, 1) := by decide +kernel
theorem dX6_runScript_9 : decode cX6_runScript 9 = .ok (.istore 6, 2) := by decide +kernel
theorem dX6_runScript_11 : decode cX6_runScript 11 = .ok (.iload 6, 2) := by decide +kernel
theorem dX6_runScript_13 : decode cX6_runScript 13 = .ok (.iload_n 1, 1) := by decide +kernel
theorem dX6_runScript_14 : decode cX6_runScript 14 = .ok (.if_icmp .ge 23, 3) := by decide +kernel
theorem dX6_runScript_17 : decode cX6_runScript 17 = .ok (.iload 6, 2) := by decide +kernel
theorem dX6_runScript_19 : decode cX6_runScript 19 = .ok (.iconst 3, 1) := by decide +kernel
theorem dX6_runScript_20 : decode cX6_runScript 20 = .ok (.if_icmp .ge 17, 3) := by decide +kernel
theorem dX6_runScript_23 : decode cX6_runScript 23 = .ok (.lload 4, 2) := by decide +kernel
theorem dX6_runScript_25 : decode cX6_runScript 25 = .ok (.ldc2_w 255, 3) := by decide +kernel
theorem dX6_runScript_28 : decode cX6_runScript 28 = .ok (.lmul, 1) := by decide +kernel
theorem dX6_runScript_29 : decode cX6_runScript 29 = .ok (.lstore 4, 2) := by decide +kernel
theorem dX6_runScript_31 : decode cX6_runScript 31 = .ok (.iinc 6 1, 3) := by decide +kernel
theorem dX6_runScript_34 : decode cX6_runScript 34 = .ok (.goto (-23), 3) := by decide +kernel
theorem dX6_runScript_37 : decode cX6_runScript 37 = .ok (.iload_n 1, 1) := by decide +kernel
theorem dX6_runScript_38 : decode cX6_runScript 38 = .ok (.iconst 1, 1) := by decide +kernel
theorem dX6_runScript_39 : decode cX6_runScript 39 = .ok (.iconst 3, 1) := by decide +kernel
theorem dX6_runScript_40 : decode cX6_runScript 40 = .ok (.invokestatic 53, 3) := by decide +kernel
theorem dX6_runScript_43 : decode cX6_runScript 43 = .ok (.ifCond .eq 16, 3) := by decide +kernel
theorem dX6_runScript_46 : decode cX6_runScript 46 = .ok (.lload_n 2, 1) := by decide +kernel
theorem dX6_runScript_47 : decode cX6_runScript 47 = .ok (.lconst 0, 1) := by decide +kernel
theorem dX6_runScript_48 : decode cX6_runScript 48 = .ok (.lcmp, 1) := by decide +kernel
theorem dX6_runScript_49 : decode cX6_runScript 49 = .ok (.ifCond .lt 10, 3) := by decide +kernel
theorem dX6_runScript_52 : decode cX6_runScript 52 = .ok (.lload_n 2, 1) := by decide +kernel
theorem dX6_runScript_53 : decode cX6_runScript 53 = .ok (.lload 4, 2) := by decide +kernel
theorem dX6_runScript_55 : decode cX6_runScript 55 = .ok (.lcmp, 1) := by decide +kernel
theorem dX6_runScript_56 : decode cX6_runScript 56 = .ok (.ifCond .lt 9, 3) := by decide +kernel
theorem dX6_runScript_59 : decode cX6_runScript 59 = .ok (.aload_n 0, 1) := by decide +kernel
theorem dX6_runScript_60 : decode cX6_runScript 60 = .ok (.iconst 1, 1) := by decide +kernel
theorem dX6_runScript_61 : decode cX6_runScript 61 = .ok (.invokevirtual 167, 3) := by decide +kernel
theorem dX6_runScript_64 : decode cX6_runScript 64 = .ok (.ireturn, 1) := by decide +kernel
theorem dX6_runScript_65 : decode cX6_runScript 65 = .ok (.aload_n 0, 1) := by decide +kernel
theorem dX6_runScript_66 : decode cX6_runScript 66 = .ok (.invokevirtual 236, 3) := by decide +kernel
theorem dX6_runScript_69 : decode cX6_runScript 69 = .ok (.lload 4, 2) := by decide +kernel
theorem dX6_runScript_71 : decode cX6_runScript 71 = .ok (.lstore 6, 2) := by decide +kernel
theorem dX6_runScript_73 : decode cX6_runScript 73 = .ok (.iconst (-1), 1) := by decide +kernel
theorem dX6_runScript_74 : decode cX6_runScript 74 = .ok (.istore 8, 2) := by decide +kernel
theorem dX6_runScript_76 : decode cX6_runScript 76 = .ok (.iconst 0, 1) := by decide +kernel
theorem dX6_runScript_77 : decode cX6_runScript 77 = .ok (.istore 9, 2) := by decide +kernel
theorem dX6_runScript_79 : decode cX6_runScript 79 = .ok (.iload 9, 2) := by decide +kernel
theorem dX6_runScript_81 : decode cX6_runScript 81 = .ok (.iload_n 1, 1) := by decide +kernel
theorem dX6_runScript_82 : decode cX6_runScript 82 = .ok (.if_icmp .ge 76, 3) := by decide +kernel
theorem dX6_runScript_85 : decode cX6_runScript 85 = .ok (.iload 8, 2) := by decide +kernel
theorem dX6_runScript_87 : decode cX6_runScript 87 = .ok (.iconst (-1), 1) := by decide +kernel
theorem dX6_runScript_88 : decode cX6_runScript 88 = .ok (.if_icmp .ne 70, 3) := by decide +kernel
theorem dX6_runScript_91 : decode cX6_runScript 91 = .ok (.lload 6, 2) := by decide +kernel
theorem dX6_runScript_93 : decode cX6_runScript 93 = .ok (.ldc2_w 255, 3) := by decide +kernel
theorem dX6_runScript_96 : decode cX6_runScript 96 = .ok (.ldiv, 1) := by decide +kernel
theorem dX6_runScript_97 : decode cX6_runScript 97 = .ok (.lstore 6, 2) := by decide +kernel
theorem dX6_runScript_99 : decode cX6_runScript 99 = .ok (.lload_n 2, 1) := by decide +kernel
theorem dX6_runScript_100 : decode cX6_runScript 100 = .ok (.lload 6, 2) := by decide +kernel
theorem dX6_runScript_102 : decode cX6_runScript 102 = .ok (.ldiv, 1) := by decide +kernel
theorem dX6_runScript_103 : decode cX6_runScript 103 = .ok (.ldc2_w 255, 3) := by decide +kernel
theorem dX6_runScript_106 : decode cX6_runScript 106 = .ok (.lrem, 1) := by decide +kernel
theorem dX6_runScript_107 : decode cX6_runScript 107 = .ok (.l2i, 1) := by decide +kernel
theorem dX6_runScript_108 : decode cX6_runScript 108 = .ok (.istore 10, 2) := by decide +kernel
theorem dX6_runScript_110 : decode cX6_runScript 110 = .ok (.aload_n 0, 1) := by decide +kernel
theorem dX6_runScript_111 : decode cX6_runScript 111 = .ok (.iload 10, 2) := by decide +kernel
theorem dX6_runScript_113 : decode cX6_runScript 113 = .ok (.sipush 1000, 3) := by decide +kernel
theorem dX6_runScript_116 : decode cX6_runScript 116 = .ok (.idiv, 1) := by decide +kernel
theorem dX6_runScript_117 : decode cX6_runScript 117 = .ok (.iload 10, 2) := by decide +kernel
theorem dX6_runScript_119 : decode cX6_runScript 119 = .ok (.bipush 100, 2) := by decide +kernel
theorem dX6_runScript_121 : decode cX6_runScript 121 = .ok (.idiv, 1) := by decide +kernel
theorem dX6_runScript_122 : decode cX6_runScript 122 = .ok (.bipush 10, 2) := by decide +kernel
theorem dX6_runScript_124 : decode cX6_runScript 124 = .ok (.irem, 1) := by decide +kernel
theorem dX6_runScript_125 : decode cX6_runScript 125 = .ok (.iload 10, 2) := by decide +kernel
theorem dX6_runScript_127 : decode cX6_runScript 127 = .ok (.bipush 10, 2) := by decide +kernel
theorem dX6_runScript_129 : decode cX6_runScript 129 = .ok (.idiv, 1) := by decide +kernel
theorem dX6_runScript_130 : decode cX6_runScript 130 = .ok (.bipush 10, 2) := by decide +kernel
theorem dX6_runScript_132 : decode cX6_runScript 132 = .ok (.irem, 1) := by decide +kernel
theorem dX6_runScript_133 : decode cX6_runScript 133 = .ok (.iload 10, 2) := by decide +kernel
theorem dX6_runScript_135 : decode cX6_runScript 135 = .ok (.bipush 10, 2) := by decide +kernel
theorem dX6_runScript_137 : decode cX6_runScript 137 = .ok (.irem, 1) := by decide +kernel
theorem dX6_runScript_138 : decode cX6_runScript 138 = .ok (.invokevirtual 257, 3) := by decide +kernel
theorem dX6_runScript_141 : decode cX6_runScript 141 = .ok (.ifCond .eq 7, 3) := by decide +kernel
theorem dX6_runScript_144 : decode cX6_runScript 144 = .ok (.iconst (-1), 1) := by decide +kernel
theorem dX6_runScript_145 : decode cX6_runScript 145 = .ok (.goto 5, 3) := by decide +kernel
theorem dX6_runScript_148 : decode cX6_runScript 148 = .ok (.iload 9, 2) := by decide +kernel
theorem dX6_runScript_150 : decode cX6_runScript 150 = .ok (.istore 8, 2) := by decide +kernel
theorem dX6_runScript_152 : decode cX6_runScript 152 = .ok (.iinc 9 1, 3) := by decide +kernel
theorem dX6_runScript_155 : decode cX6_runScript 155 = .ok (.goto (-76), 3) := by decide +kernel
theorem dX6_runScript_158 : decode cX6_runScript 158 = .ok (.aload_n 0, 1) := by decide +kernel
theorem dX6_runScript_159 : decode cX6_runScript 159 = .ok (.invokevirtual 242, 3) := by decide +kernel
theorem dX6_runScript_162 : decode cX6_runScript 162 = .ok (.iload 8, 2) := by decide +kernel
theorem dX6_runScript_164 : decode cX6_runScript 164 = .ok (.ireturn, 1) := by decide +kernel
theorem dX6_simulates_0 : decode cX6_simulates 0 = .ok (.iload_n 1, 1) := by decide +kernel
theorem dX6_simulates_1 : decode cX6_simulates 1 = .ok (.bipush 8, 2) := by decide +kernel
theorem dX6_simulates_3 : decode cX6_simulates 3 = .ok (.idiv, 1) := by decide +kernel
theorem dX6_simulates_4 : decode cX6_simulates 4 = .ok (.bipush 6, 2) := by decide +kernel
theorem dX6_simulates_6 : decode cX6_simulates 6 = .ok (.irem, 1) := by decide +kernel
theorem dX6_simulates_7 : decode cX6_simulates 7 = .ok (.istore_n 2, 1) := by decide +kernel
theorem dX6_simulates_8 : decode cX6_simulates 8 = .ok (.iload_n 2, 1) := by decide +kernel
theorem dX6_simulates_9 : decode cX6_simulates 9 = .ok (.iconst 2, 1) := by decide +kernel
theorem dX6_simulates_10 : decode cX6_simulates 10 = .ok (.if_icmp .ne 14, 3) := by decide +kernel
theorem dX6_simulates_13 : decode cX6_simulates 13 = .ok (.iconst 1, 1) := by decide +kernel
theorem dX6_simulates_14 : decode cX6_simulates 14 = .ok (.iload_n 1, 1) := by decide +kernel
theorem dX6_simulates_15 : decode cX6_simulates 15 = .ok (.bipush 64, 2) := by decide +kernel
theorem dX6_simulates_17 : decode cX6_simulates 17 = .ok (.idiv, 1) := by decide +kernel
theorem dX6_simulates_18 : decode cX6_simulates 18 = .ok (.iconst 3, 1) := by decide +kernel
theorem dX6_simulates_19 : decode cX6_simulates 19 = .ok (.irem, 1) := by decide +kernel
theorem dX6_simulates_20 : decode cX6_simulates 20 = .ok (.iadd, 1) := by decide +kernel
theorem dX6_simulates_21 : decode cX6_simulates 21 = .ok (.goto 31, 3) := by decide +kernel
theorem dX6_simulates_24 : decode cX6_simulates 24 = .ok (.iload_n 2, 1) := by decide +kernel
theorem dX6_simulates_25 : decode cX6_simulates 25 = .ok (.iconst 3, 1) := by decide +kernel
theorem dX6_simulates_26 : decode cX6_simulates 26 = .ok (.if_icmp .ne 25, 3) := by decide +kernel
theorem dX6_simulates_29 : decode cX6_simulates 29 = .ok (.bipush 10, 2) := by decide +kernel
theorem dX6_simulates_31 : decode cX6_simulates 31 = .ok (.iload_n 1, 1) := by decide +kernel
theorem dX6_simulates_32 : decode cX6_simulates 32 = .ok (.bipush 64, 2) := by decide +kernel
theorem dX6_simulates_34 : decode cX6_simulates 34 = .ok (.idiv, 1) := by decide +kernel
theorem dX6_simulates_35 : decode cX6_simulates 35 = .ok (.iconst 3, 1) := by decide +kernel
theorem dX6_simulates_36 : decode cX6_simulates 36 = .ok (.irem, 1) := by decide +kernel
theorem dX6_simulates_37 : decode cX6_simulates 37 = .ok (.imul, 1) := by decide +kernel
theorem dX6_simulates_38 : decode cX6_simulates 38 = .ok (.iconst 1, 1) := by decide +kernel
theorem dX6_simulates_39 : decode cX6_simulates 39 = .ok (.iadd, 1) := by decide +kernel
theorem dX6_simulates_40 : decode cX6_simulates 40 = .ok (.iload_n 1, 1) := by decide +kernel
theorem dX6_simulates_41 : decode cX6_simulates 41 = .ok (.sipush 256, 3) := by decide +kernel
theorem dX6_simulates_44 : decode cX6_simulates 44 = .ok (.idiv, 1) := by decide +kernel
theorem dX6_simulates_45 : decode cX6_simulates 45 = .ok (.iconst 3, 1) := by decide +kernel
theorem dX6_simulates_46 : decode cX6_simulates 46 = .ok (.irem, 1) := by decide +kernel
theorem dX6_simulates_47 : decode cX6_simulates 47 = .ok (.iadd, 1) := by decide +kernel
theorem dX6_simulates_48 : decode cX6_simulates 48 = .ok (.goto 4, 3) := by decide +kernel
theorem dX6_simulates_51 : decode cX6_simulates 51 = .ok (.iconst 0, 1) := by decide +kernel
theorem dX6_simulates_52 : decode cX6_simulates 52 = .ok (.istore_n 3, 1) := by decide +kernel
theorem dX6_simulates_53 : decode cX6_simulates 53 = .ok (.iload_n 1, 1) := by decide +kernel
theorem dX6_simulates_54 : decode cX6_simulates 54 = .ok (.bipush 8, 2) := by decide +kernel
theorem dX6_simulates_56 : decode cX6_simulates 56 = .ok (.irem, 1) := by decide +kernel
theorem dX6_simulates_57 : decode cX6_simulates 57 = .ok (.bipush 7, 2) := by decide +kernel
theorem dX6_simulates_59 : decode cX6_simulates 59 = .ok (.if_icmp .ne 10, 3) := by decide +kernel
theorem dX6_simulates_62 : decode cX6_simulates 62 = .ok (.aload_n 0, 1) := by decide +kernel
theorem dX6_simulates_63 : decode cX6_simulates 63 = .ok (.invokevirtual 164, 3) := by decide +kernel
theorem dX6_simulates_66 : decode cX6_simulates 66 = .ok (.goto 31, 3) := by decide +kernel
theorem dX6_simulates_69 : decode cX6_simulates 69 = .ok (.aload_n 0, 1) := by decide +kernel
theorem dX6_simulates_70 : decode cX6_simulates 70 = .ok (.iload_n 2, 1) := by decide +kernel
theorem dX6_simulates_71 : decode cX6_simulates 71 = .ok (.iload_n 3, 1) := by decide +kernel
theorem dX6_simulates_72 : decode cX6_simulates 72 = .ok (.invokevirtual 127, 3) := by decide +kernel
theorem dX6_simulates_75 : decode cX6_simulates 75 = .ok (.ifCond .eq 17, 3) := by decide +kernel
theorem dX6_simulates_78 : decode cX6_simulates 78 = .ok (.aload_n 0, 1) := by decide +kernel
theorem dX6_simulates_79 : decode cX6_simulates 79 = .ok (.iload_n 2, 1) := by decide +kernel
theorem dX6_simulates_80 : decode cX6_simulates 80 = .ok (.iload_n 3, 1) := by decide +kernel
theorem dX6_simulates_81 : decode cX6_simulates 81 = .ok (.invokevirtual 137, 3) := by decide +kernel
theorem dX6_simulates_84 : decode cX6_simulates 84 = .ok (.pop, 1) := by decide +kernel
theorem dX6_simulates_85 : decode cX6_simulates 85 = .ok (.aload_n 0, 1) := by decide +kernel
theorem dX6_simulates_86 : decode cX6_simulates 86 = .ok (.invokevirtual 158, 3) := by decide +kernel
theorem dX6_simulates_89 : decode cX6_simulates 89 = .ok (.goto 8, 3) := by decide +kernel
theorem dX6_simulates_92 : decode cX6_simulates 92 = .ok (.aload_n 0, 1) := by decide +kernel
theorem dX6_simulates_93 : decode cX6_simulates 93 = .ok (.invokevirtual 230, 3) := by decide +kernel
theorem dX6_simulates_96 : decode cX6_simulates 96 = .ok (.pop, 1) := by decide +kernel
theorem dX6_simulates_97 : decode cX6_simulates 97 = .ok (.return_, 1) := by decide +kernel
theorem dX6_simulate_0 : decode cX6_simulate 0 = .ok (.aload_n 0, 1) := by decide +kernel
theorem dX6_simulate_1 : decode cX6_simulate 1 = .ok (.iconst 0, 1) := by decide +kernel
theorem dX6_simulate_2 : decode cX6_simulate 2 = .ok (.putfield 42, 3) := by decide +kernel
theorem dX6_simulate_5 : decode cX6_simulate 5 = .ok (.iload_n 3, 1) := by decide +kernel
theorem dX6_simulate_6 : decode cX6_simulate 6 = .ok (.iconst 1, 1) := by decide +kernel
theorem dX6_simulate_7 : decode cX6_simulate 7 = .ok (.bipush 80, 2) := by decide +kernel
theorem dX6_simulate_9 : decode cX6_simulate 9 = .ok (.invokestatic 53, 3) := by decide +kernel
theorem dX6_simulate_12 : decode cX6_simulate 12 = .ok (.ifCond .ne 9, 3) := by decide +kernel
theorem dX6_simulate_15 : decode cX6_simulate 15 = .ok (.aload_n 0, 1) := by decide +kernel
theorem dX6_simulate_16 : decode cX6_simulate 16 = .ok (.iconst 1, 1) := by decide +kernel
theorem dX6_simulate_17 : decode cX6_simulate 17 = .ok (.invokevirtual 167, 3) := by decide +kernel
theorem dX6_simulate_20 : decode cX6_simulate 20 = .ok (.ireturn, 1) := by decide +kernel
theorem dX6_simulate_21 : decode cX6_simulate 21 = .ok (.aload_n 0, 1) := by decide +kernel
theorem dX6_simulate_22 : decode cX6_simulate 22 = .ok (.invokevirtual 236, 3) := by decide +kernel
theorem dX6_simulate_25 : decode cX6_simulate 25 = .ok (.lload_n 1, 1) := by decide +kernel
theorem dX6_simulate_26 : decode cX6_simulate 26 = .ok (.lstore 4, 2) := by decide +kernel
theorem dX6_simulate_28 : decode cX6_simulate 28 = .ok (.aload_n 0, 1) := by decide +kernel
theorem dX6_simulate_29 : decode cX6_simulate 29 = .ok (.getfield 7, 3) := by decide +kernel
theorem dX6_simulate_32 : decode cX6_simulate 32 = .ok (.bipush 11, 2) := by decide +kernel
theorem dX6_simulate_34 : decode cX6_simulate 34 = .ok (.iaload, 1) := by decide +kernel
theorem dX6_simulate_35 : decode cX6_simulate 35 = .ok (.istore 6, 2) := by decide +kernel
theorem dX6_simulate_37 : decode cX6_simulate 37 = .ok (.iconst 0, 1) := by decide +kernel
theorem dX6_simulate_38 : decode cX6_simulate 38 = .ok (.istore 7, 2) := by decide +kernel
theorem dX6_simulate_40 : decode cX6_simulate 40 = .ok (.iload 7, 2) := by decide +kernel
theorem dX6_simulate_42 : decode cX6_simulate 42 = .ok (.iload_n 3, 1) := by decide +kernel
theorem dX6_simulate_43 : decode cX6_simulate 43 = .ok (.if_icmp .ge 33, 3) := by decide +kernel
theorem dX6_simulate_46 : decode cX6_simulate 46 = .ok (.aload_n 0, 1) := by decide +kernel
theorem dX6_simulate_47 : decode cX6_simulate 47 = .ok (.invokevirtual 106, 3) := by decide +kernel
theorem dX6_simulate_50 : decode cX6_simulate 50 = .ok (.ifCond .eq 26, 3) := by decide +kernel
theorem dX6_simulate_53 : decode cX6_simulate 53 = .ok (.lload 4, 2) := by decide +kernel
theorem dX6_simulate_55 : decode cX6_simulate 55 = .ok (.invokestatic 70, 3) := by decide +kernel
theorem dX6_simulate_58 : decode cX6_simulate 58 = .ok (.lstore 4, 2) := by decide +kernel
theorem dX6_simulate_60 : decode cX6_simulate 60 = .ok (.aload_n 0, 1) := by decide +kernel
theorem dX6_simulate_61 : decode cX6_simulate 61 = .ok (.lload 4, 2) := by decide +kernel
theorem dX6_simulate_63 : decode cX6_simulate 63 = .ok (.bipush 33, 2) := by decide +kernel
theorem dX6_simulate_65 : decode cX6_simulate 65 = .ok (.lushr, 1) := by decide +kernel
theorem dX6_simulate_66 : decode cX6_simulate 66 = .ok (.l2i, 1) := by decide +kernel
theorem dX6_simulate_67 : decode cX6_simulate 67 = .ok (.invokevirtual 261, 3) := by decide +kernel
theorem dX6_simulate_70 : decode cX6_simulate 70 = .ok (.iinc 7 1, 3) := by decide +kernel
theorem dX6_simulate_73 : decode cX6_simulate 73 = .ok (.goto (-33), 3) := by decide +kernel
theorem dX6_simulate_76 : decode cX6_simulate 76 = .ok (.sipush 1000, 3) := by decide +kernel
theorem dX6_simulate_79 : decode cX6_simulate 79 = .ok (.aload_n 0, 1) := by decide +kernel
theorem dX6_simulate_80 : decode cX6_simulate 80 = .ok (.getfield 7, 3) := by decide +kernel
theorem dX6_simulate_83 : decode cX6_simulate 83 = .ok (.bipush 11, 2) := by decide +kernel
theorem dX6_simulate_85 : decode cX6_simulate 85 = .ok (.iaload, 1) := by decide +kernel
theorem dX6_simulate_86 : decode cX6_simulate 86 = .ok (.iload 6, 2) := by decide +kernel
theorem dX6_simulate_88 : decode cX6_simulate 88 = .ok (.isub, 1) := by decide +kernel
theorem dX6_simulate_89 : decode cX6_simulate 89 = .ok (.imul, 1) := by decide +kernel
theorem dX6_simulate_90 : decode cX6_simulate 90 = .ok (.istore 7, 2) := by decide +kernel
theorem dX6_simulate_92 : decode cX6_simulate 92 = .ok (.iconst 0, 1) := by decide +kernel
theorem dX6_simulate_93 : decode cX6_simulate 93 = .ok (.istore 8, 2) := by decide +kernel
theorem dX6_simulate_95 : decode cX6_simulate 95 = .ok (.iload 8, 2) := by decide +kernel
theorem dX6_simulate_97 : decode cX6_simulate 97 = .ok (.aload_n 0, 1) := by decide +kernel
theorem dX6_simulate_98 : decode cX6_simulate 98 = .ok (.getfield 7, 3) := by decide +kernel
theorem dX6_simulate_101 : decode cX6_simulate 101 = .ok (.iconst 3, 1) := by decide +kernel
theorem dX6_simulate_102 : decode cX6_simulate 102 = .ok (.iaload, 1) := by decide +kernel
theorem dX6_simulate_103 : decode cX6_simulate 103 = .ok (.if_icmp .ge 20, 3) := by decide +kernel
theorem dX6_simulate_106 : decode cX6_simulate 106 = .ok (.iload 7, 2) := by decide +kernel
theorem dX6_simulate_108 : decode cX6_simulate 108 = .ok (.aload_n 0, 1) := by decide +kernel
theorem dX6_simulate_109 : decode cX6_simulate 109 = .ok (.iload 8, 2) := by decide +kernel
theorem dX6_simulate_111 : decode cX6_simulate 111 = .ok (.invokevirtual 134, 3) := by decide +kernel
theorem dX6_simulate_114 : decode cX6_simulate 114 = .ok (.iadd, 1) := by decide +kernel
theorem dX6_simulate_115 : decode cX6_simulate 115 = .ok (.istore 7, 2) := by decide +kernel
theorem dX6_simulate_117 : decode cX6_simulate 117 = .ok (.iinc 8 1, 3) := by decide +kernel
theorem dX6_simulate_120 : decode cX6_simulate 120 = .ok (.goto (-25), 3) := by decide +kernel
theorem dX6_simulate_123 : decode cX6_simulate 123 = .ok (.aload_n 0, 1) := by decide +kernel
theorem dX6_simulate_124 : decode cX6_simulate 124 = .ok (.invokevirtual 242, 3) := by decide +kernel
theorem dX6_simulate_127 : decode cX6_simulate 127 = .ok (.iload 7, 2) := by decide +kernel
theorem dX6_simulate_129 : decode cX6_simulate 129 = .ok (.ireturn, 1) := by decide +kernel
theorem dX6_save_0 : decode cX6_save 0 = .ok (.aload_n 0, 1) := by decide +kernel
theorem dX6_save_1 : decode cX6_save 1 = .ok (.iconst 0, 1) := by decide +kernel
theorem dX6_save_2 : decode cX6_save 2 = .ok (.putfield 42, 3) := by decide +kernel
theorem dX6_save_5 : decode cX6_save 5 = .ok (.iload_n 1, 1) := by decide +kernel
theorem dX6_save_6 : decode cX6_save 6 = .ok (.iconst 0, 1) := by decide +kernel
theorem dX6_save_7 : decode cX6_save 7 = .ok (.iconst 1, 1) := by decide +kernel
theorem dX6_save_8 : decode cX6_save 8 = .ok (.invokestatic 53, 3) := by decide +kernel
theorem dX6_save_11 : decode cX6_save 11 = .ok (.ifCond .ne 9, 3) := by decide +kernel
theorem dX6_save_14 : decode cX6_save 14 = .ok (.aload_n 0, 1) := by decide +kernel
theorem dX6_save_15 : decode cX6_save 15 = .ok (.iconst 1, 1) := by decide +kernel
theorem dX6_save_16 : decode cX6_save 16 = .ok (.invokevirtual 167, 3) := by decide +kernel
theorem dX6_save_19 : decode cX6_save 19 = .ok (.ireturn, 1) := by decide +kernel
theorem dX6_save_20 : decode cX6_save 20 = .ok (.iconst 0, 1) := by decide +kernel
theorem dX6_save_21 : decode cX6_save 21 = .ok (.istore_n 2, 1) := by decide +kernel
theorem dX6_save_22 : decode cX6_save 22 = .ok (.iload_n 2, 1) := by decide +kernel
theorem dX6_save_23 : decode cX6_save 23 = .ok (.bipush 69, 2) := by decide +kernel
theorem dX6_save_25 : decode cX6_save 25 = .ok (.if_icmp .ge 26, 3) := by decide +kernel
theorem dX6_save_28 : decode cX6_save 28 = .ok (.aload_n 0, 1) := by decide +kernel
theorem dX6_save_29 : decode cX6_save 29 = .ok (.getfield 20, 3) := by decide +kernel
theorem dX6_save_32 : decode cX6_save 32 = .ok (.bipush 69, 2) := by decide +kernel
theorem dX6_save_34 : decode cX6_save 34 = .ok (.iload_n 1, 1) := by decide +kernel
theorem dX6_save_35 : decode cX6_save 35 = .ok (.imul, 1) := by decide +kernel
theorem dX6_save_36 : decode cX6_save 36 = .ok (.iload_n 2, 1) := by decide +kernel
theorem dX6_save_37 : decode cX6_save 37 = .ok (.iadd, 1) := by decide +kernel
theorem dX6_save_38 : decode cX6_save 38 = .ok (.aload_n 0, 1) := by decide +kernel
theorem dX6_save_39 : decode cX6_save 39 = .ok (.getfield 7, 3) := by decide +kernel
theorem dX6_save_42 : decode cX6_save 42 = .ok (.iload_n 2, 1) := by decide +kernel
theorem dX6_save_43 : decode cX6_save 43 = .ok (.iaload, 1) := by decide +kernel
theorem dX6_save_44 : decode cX6_save 44 = .ok (.iastore, 1) := by decide +kernel
theorem dX6_save_45 : decode cX6_save 45 = .ok (.iinc 2 1, 3) := by decide +kernel
theorem dX6_save_48 : decode cX6_save 48 = .ok (.goto (-26), 3) := by decide +kernel
theorem dX6_save_51 : decode cX6_save 51 = .ok (.aload_n 0, 1) := by decide +kernel
theorem dX6_save_52 : decode cX6_save 52 = .ok (.getfield 23, 3) := by decide +kernel
theorem dX6_save_55 : decode cX6_save 55 = .ok (.iload_n 1, 1) := by decide +kernel
theorem dX6_save_56 : decode cX6_save 56 = .ok (.aload_n 0, 1) := by decide +kernel
theorem dX6_save_57 : decode cX6_save 57 = .ok (.getfield 49, 3) := by decide +kernel
theorem dX6_save_60 : decode cX6_save 60 = .ok (.lastore, 1) := by decide +kernel
theorem dX6_save_61 : decode cX6_save 61 = .ok (.aload_n 0, 1) := by decide +kernel
theorem dX6_save_62 : decode cX6_save 62 = .ok (.getfield 26, 3) := by decide +kernel
theorem dX6_save_65 : decode cX6_save 65 = .ok (.iload_n 1, 1) := by decide +kernel
theorem dX6_save_66 : decode cX6_save 66 = .ok (.iconst 1, 1) := by decide +kernel
theorem dX6_save_67 : decode cX6_save 67 = .ok (.bastore, 1) := by decide +kernel
theorem dX6_save_68 : decode cX6_save 68 = .ok (.aload_n 0, 1) := by decide +kernel
theorem dX6_save_69 : decode cX6_save 69 = .ok (.getfield 7, 3) := by decide +kernel
theorem dX6_save_72 : decode cX6_save 72 = .ok (.iconst 3, 1) := by decide +kernel
theorem dX6_save_73 : decode cX6_save 73 = .ok (.iaload, 1) := by decide +kernel
theorem dX6_save_74 : decode cX6_save 74 = .ok (.ireturn, 1) := by decide +kernel
theorem dX6_restore_0 : decode cX6_restore 0 = .ok (.aload_n 0, 1) := by decide +kernel
theorem dX6_restore_1 : decode cX6_restore 1 = .ok (.iconst 0, 1) := by decide +kernel
theorem dX6_restore_2 : decode cX6_restore 2 = .ok (.putfield 42, 3) := by decide +kernel
theorem dX6_restore_5 : decode cX6_restore 5 = .ok (.iload_n 1, 1) := by decide +kernel
theorem dX6_restore_6 : decode cX6_restore 6 = .ok (.iconst 0, 1) := by decide +kernel
theorem dX6_restore_7 : decode cX6_restore 7 = .ok (.iconst 1, 1) := by decide +kernel
theorem dX6_restore_8 : decode cX6_restore 8 = .ok (.invokestatic 53, 3) := by decide +kernel
theorem dX6_restore_11 : decode cX6_restore 11 = .ok (.ifCond .ne 9, 3) := by decide +kernel
theorem dX6_restore_14 : decode cX6_restore 14 = .ok (.aload_n 0, 1) := by decide +kernel
theorem dX6_restore_15 : decode cX6_restore 15 = .ok (.iconst 1, 1) := by decide +kernel
theorem dX6_restore_16 : decode cX6_restore 16 = .ok (.invokevirtual 167, 3) := by decide +kernel
theorem dX6_restore_19 : decode cX6_restore 19 = .ok (.ireturn, 1) := by decide +kernel
theorem dX6_restore_20 : decode cX6_restore 20 = .ok (.aload_n 0, 1) := by decide +kernel
theorem dX6_restore_21 : decode cX6_restore 21 = .ok (.getfield 26, 3) := by decide +kernel
theorem dX6_restore_24 : decode cX6_restore 24 = .ok (.iload_n 1, 1) := by decide +kernel
theorem dX6_restore_25 : decode cX6_restore 25 = .ok (.baload, 1) := by decide +kernel
theorem dX6_restore_26 : decode cX6_restore 26 = .ok (.ifCond .ne 9, 3) := by decide +kernel
theorem dX6_restore_29 : decode cX6_restore 29 = .ok (.aload_n 0, 1) := by decide +kernel
theorem dX6_restore_30 : decode cX6_restore 30 = .ok (.iconst 2, 1) := by decide +kernel
theorem dX6_restore_31 : decode cX6_restore 31 = .ok (.invokevirtual 167, 3) := by decide +kernel
theorem dX6_restore_34 : decode cX6_restore 34 = .ok (.ireturn, 1) := by decide +kernel
theorem dX6_restore_35 : decode cX6_restore 35 = .ok (.iconst 0, 1) := by decide +kernel
theorem dX6_restore_36 : decode cX6_restore 36 = .ok (.istore_n 2, 1) := by decide +kernel
theorem dX6_restore_37 : decode cX6_restore 37 = .ok (.iload_n 2, 1) := by decide +kernel
theorem dX6_restore_38 : decode cX6_restore 38 = .ok (.bipush 69, 2) := by decide +kernel
theorem dX6_restore_40 : decode cX6_restore 40 = .ok (.if_icmp .ge 26, 3) := by decide +kernel
theorem dX6_restore_43 : decode cX6_restore 43 = .ok (.aload_n 0, 1) := by decide +kernel
theorem dX6_restore_44 : decode cX6_restore 44 = .ok (.getfield 7, 3) := by decide +kernel
theorem dX6_restore_47 : decode cX6_restore 47 = .ok (.iload_n 2, 1) := by decide +kernel
theorem dX6_restore_48 : decode cX6_restore 48 = .ok (.aload_n 0, 1) := by decide +kernel
theorem dX6_restore_49 : decode cX6_restore 49 = .ok (.getfield 20, 3) := by decide +kernel
theorem dX6_restore_52 : decode cX6_restore 52 = .ok (.bipush 69, 2) := by decide +kernel
