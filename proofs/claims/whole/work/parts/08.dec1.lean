theorem dX3_hire_19 : decode cX3_hire 19 = .ok (.dup, 1) := by decide +kernel
theorem dX3_hire_20 : decode cX3_hire 20 = .ok (.getfield 22, 3) := by decide +kernel
theorem dX3_hire_23 : decode cX3_hire 23 = .ok (.iconst 1, 1) := by decide +kernel
theorem dX3_hire_24 : decode cX3_hire 24 = .ok (.iadd, 1) := by decide +kernel
theorem dX3_hire_25 : decode cX3_hire 25 = .ok (.putfield 22, 3) := by decide +kernel
theorem dX3_hire_28 : decode cX3_hire 28 = .ok (.aload_n 0, 1) := by decide +kernel
theorem dX3_hire_29 : decode cX3_hire 29 = .ok (.dup, 1) := by decide +kernel
theorem dX3_hire_30 : decode cX3_hire 30 = .ok (.getfield 25, 3) := by decide +kernel
theorem dX3_hire_33 : decode cX3_hire 33 = .ok (.iconst 1, 1) := by decide +kernel
theorem dX3_hire_34 : decode cX3_hire 34 = .ok (.iadd, 1) := by decide +kernel
theorem dX3_hire_35 : decode cX3_hire 35 = .ok (.putfield 25, 3) := by decide +kernel
theorem dX3_hire_38 : decode cX3_hire 38 = .ok (.iconst 1, 1) := by decide +kernel
theorem dX3_hire_39 : decode cX3_hire 39 = .ok (.ireturn, 1) := by decide +kernel
theorem dX3_buildRoom_0 : decode cX3_buildRoom 0 = .ok (.aload_n 0, 1) := by decide +kernel
theorem dX3_buildRoom_1 : decode cX3_buildRoom 1 = .ok (.getfield 19, 3) := by decide +kernel
theorem dX3_buildRoom_4 : decode cX3_buildRoom 4 = .ok (.bipush 30, 2) := by decide +kernel
theorem dX3_buildRoom_6 : decode cX3_buildRoom 6 = .ok (.if_icmp .ge 11, 3) := by decide +kernel
theorem dX3_buildRoom_9 : decode cX3_buildRoom 9 = .ok (.aload_n 0, 1) := by decide +kernel
theorem dX3_buildRoom_10 : decode cX3_buildRoom 10 = .ok (.iconst 2, 1) := by decide +kernel
theorem dX3_buildRoom_11 : decode cX3_buildRoom 11 = .ok (.invokevirtual 43, 3) := by decide +kernel
theorem dX3_buildRoom_14 : decode cX3_buildRoom 14 = .ok (.ifCond .ne 5, 3) := by decide +kernel
theorem dX3_buildRoom_17 : decode cX3_buildRoom 17 = .ok (.iconst 0, 1) := by decide +kernel
theorem dX3_buildRoom_18 : decode cX3_buildRoom 18 = .ok (.ireturn, 1) := by decide +kernel
theorem dX3_buildRoom_19 : decode cX3_buildRoom 19 = .ok (.aload_n 0, 1) := by decide +kernel
theorem dX3_buildRoom_20 : decode cX3_buildRoom 20 = .ok (.dup, 1) := by decide +kernel
theorem dX3_buildRoom_21 : decode cX3_buildRoom 21 = .ok (.getfield 19, 3) := by decide +kernel
theorem dX3_buildRoom_24 : decode cX3_buildRoom 24 = .ok (.iconst 3, 1) := by decide +kernel
theorem dX3_buildRoom_25 : decode cX3_buildRoom 25 = .ok (.iadd, 1) := by decide +kernel
theorem dX3_buildRoom_26 : decode cX3_buildRoom 26 = .ok (.putfield 19, 3) := by decide +kernel
theorem dX3_buildRoom_29 : decode cX3_buildRoom 29 = .ok (.iconst 1, 1) := by decide +kernel
theorem dX3_buildRoom_30 : decode cX3_buildRoom 30 = .ok (.ireturn, 1) := by decide +kernel
theorem dX3_loseGoods_0 : decode cX3_loseGoods 0 = .ok (.iconst 0, 1) := by decide +kernel
theorem dX3_loseGoods_1 : decode cX3_loseGoods 1 = .ok (.istore_n 2, 1) := by decide +kernel
theorem dX3_loseGoods_2 : decode cX3_loseGoods 2 = .ok (.getstatic 57, 3) := by decide +kernel
theorem dX3_loseGoods_5 : decode cX3_loseGoods 5 = .ok (.astore_n 3, 1) := by decide +kernel
theorem dX3_loseGoods_6 : decode cX3_loseGoods 6 = .ok (.aload_n 3, 1) := by decide +kernel
theorem dX3_loseGoods_7 : decode cX3_loseGoods 7 = .ok (.arraylength, 1) := by decide +kernel
theorem dX3_loseGoods_8 : decode cX3_loseGoods 8 = .ok (.istore 4, 2) := by decide +kernel
theorem dX3_loseGoods_10 : decode cX3_loseGoods 10 = .ok (.iconst 0, 1) := by decide +kernel
theorem dX3_loseGoods_11 : decode cX3_loseGoods 11 = .ok (.istore 5, 2) := by decide +kernel
theorem dX3_loseGoods_13 : decode cX3_loseGoods 13 = .ok (.iload 5, 2) := by decide +kernel
theorem dX3_loseGoods_15 : decode cX3_loseGoods 15 = .ok (.iload 4, 2) := by decide +kernel
theorem dX3_loseGoods_17 : decode cX3_loseGoods 17 = .ok (.if_icmp .ge 90, 3) := by decide +kernel
theorem dX3_loseGoods_20 : decode cX3_loseGoods 20 = .ok (.aload_n 3, 1) := by decide +kernel
theorem dX3_loseGoods_21 : decode cX3_loseGoods 21 = .ok (.iload 5, 2) := by decide +kernel
theorem dX3_loseGoods_23 : decode cX3_loseGoods 23 = .ok (.iaload, 1) := by decide +kernel
theorem dX3_loseGoods_24 : decode cX3_loseGoods 24 = .ok (.istore 6, 2) := by decide +kernel
theorem dX3_loseGoods_26 : decode cX3_loseGoods 26 = .ok (.aload_n 0, 1) := by decide +kernel
theorem dX3_loseGoods_27 : decode cX3_loseGoods 27 = .ok (.getfield 9, 3) := by decide +kernel
theorem dX3_loseGoods_30 : decode cX3_loseGoods 30 = .ok (.iconst 0, 1) := by decide +kernel
theorem dX3_loseGoods_31 : decode cX3_loseGoods 31 = .ok (.iaload, 1) := by decide +kernel
theorem dX3_loseGoods_32 : decode cX3_loseGoods 32 = .ok (.aload_n 0, 1) := by decide +kernel
theorem dX3_loseGoods_33 : decode cX3_loseGoods 33 = .ok (.getfield 9, 3) := by decide +kernel
theorem dX3_loseGoods_36 : decode cX3_loseGoods 36 = .ok (.iconst 1, 1) := by decide +kernel
theorem dX3_loseGoods_37 : decode cX3_loseGoods 37 = .ok (.iaload, 1) := by decide +kernel
theorem dX3_loseGoods_38 : decode cX3_loseGoods 38 = .ok (.iadd, 1) := by decide +kernel
theorem dX3_loseGoods_39 : decode cX3_loseGoods 39 = .ok (.aload_n 0, 1) := by decide +kernel
theorem dX3_loseGoods_40 : decode cX3_loseGoods 40 = .ok (.getfield 9, 3) := by decide +kernel
theorem dX3_loseGoods_43 : decode cX3_loseGoods 43 = .ok (.iconst 2, 1) := by decide +kernel
theorem dX3_loseGoods_44 : decode cX3_loseGoods 44 = .ok (.iaload, 1) := by decide +kernel
theorem dX3_loseGoods_45 : decode cX3_loseGoods 45 = .ok (.iadd, 1) := by decide +kernel
theorem dX3_loseGoods_46 : decode cX3_loseGoods 46 = .ok (.aload_n 0, 1) := by decide +kernel
theorem dX3_loseGoods_47 : decode cX3_loseGoods 47 = .ok (.getfield 19, 3) := by decide +kernel
theorem dX3_loseGoods_50 : decode cX3_loseGoods 50 = .ok (.isub, 1) := by decide +kernel
theorem dX3_loseGoods_51 : decode cX3_loseGoods 51 = .ok (.istore 7, 2) := by decide +kernel
theorem dX3_loseGoods_53 : decode cX3_loseGoods 53 = .ok (.iload 7, 2) := by decide +kernel
theorem dX3_loseGoods_55 : decode cX3_loseGoods 55 = .ok (.aload_n 0, 1) := by decide +kernel
theorem dX3_loseGoods_56 : decode cX3_loseGoods 56 = .ok (.getfield 9, 3) := by decide +kernel
theorem dX3_loseGoods_59 : decode cX3_loseGoods 59 = .ok (.iload 6, 2) := by decide +kernel
theorem dX3_loseGoods_61 : decode cX3_loseGoods 61 = .ok (.iaload, 1) := by decide +kernel
theorem dX3_loseGoods_62 : decode cX3_loseGoods 62 = .ok (.if_icmp .ge 8, 3) := by decide +kernel
theorem dX3_loseGoods_65 : decode cX3_loseGoods 65 = .ok (.iload 7, 2) := by decide +kernel
theorem dX3_loseGoods_67 : decode cX3_loseGoods 67 = .ok (.goto 10, 3) := by decide +kernel
theorem dX3_loseGoods_70 : decode cX3_loseGoods 70 = .ok (.aload_n 0, 1) := by decide +kernel
theorem dX3_loseGoods_71 : decode cX3_loseGoods 71 = .ok (.getfield 9, 3) := by decide +kernel
theorem dX3_loseGoods_74 : decode cX3_loseGoods 74 = .ok (.iload 6, 2) := by decide +kernel
theorem dX3_loseGoods_76 : decode cX3_loseGoods 76 = .ok (.iaload, 1) := by decide +kernel
theorem dX3_loseGoods_77 : decode cX3_loseGoods 77 = .ok (.istore 8, 2) := by decide +kernel
theorem dX3_loseGoods_79 : decode cX3_loseGoods 79 = .ok (.iload 8, 2) := by decide +kernel
theorem dX3_loseGoods_81 : decode cX3_loseGoods 81 = .ok (.ifCond .le 20, 3) := by decide +kernel
theorem dX3_loseGoods_84 : decode cX3_loseGoods 84 = .ok (.aload_n 0, 1) := by decide +kernel
theorem dX3_loseGoods_85 : decode cX3_loseGoods 85 = .ok (.getfield 9, 3) := by decide +kernel
theorem dX3_loseGoods_88 : decode cX3_loseGoods 88 = .ok (.iload 6, 2) := by decide +kernel
theorem dX3_loseGoods_90 : decode cX3_loseGoods 90 = .ok (.dup2, 1) := by decide +kernel
theorem dX3_loseGoods_91 : decode cX3_loseGoods 91 = .ok (.iaload, 1) := by decide +kernel
theorem dX3_loseGoods_92 : decode cX3_loseGoods 92 = .ok (.iload 8, 2) := by decide +kernel
theorem dX3_loseGoods_94 : decode cX3_loseGoods 94 = .ok (.isub, 1) := by decide +kernel
theorem dX3_loseGoods_95 : decode cX3_loseGoods 95 = .ok (.iastore, 1) := by decide +kernel
theorem dX3_loseGoods_96 : decode cX3_loseGoods 96 = .ok (.iload_n 2, 1) := by decide +kernel
theorem dX3_loseGoods_97 : decode cX3_loseGoods 97 = .ok (.iload 8, 2) := by decide +kernel
theorem dX3_loseGoods_99 : decode cX3_loseGoods 99 = .ok (.iadd, 1) := by decide +kernel
theorem dX3_loseGoods_100 : decode cX3_loseGoods 100 = .ok (.istore_n 2, 1) := by decide +kernel
theorem dX3_loseGoods_101 : decode cX3_loseGoods 101 = .ok (.iinc 5 1, 3) := by decide +kernel
theorem dX3_loseGoods_104 : decode cX3_loseGoods 104 = .ok (.goto (-91), 3) := by decide +kernel
theorem dX3_loseGoods_107 : decode cX3_loseGoods 107 = .ok (.iload_n 1, 1) := by decide +kernel
theorem dX3_loseGoods_108 : decode cX3_loseGoods 108 = .ok (.iconst 1, 1) := by decide +kernel
theorem dX3_loseGoods_109 : decode cX3_loseGoods 109 = .ok (.if_icmp .ne 28, 3) := by decide +kernel
theorem dX3_loseGoods_112 : decode cX3_loseGoods 112 = .ok (.aload_n 0, 1) := by decide +kernel
theorem dX3_loseGoods_113 : decode cX3_loseGoods 113 = .ok (.getfield 9, 3) := by decide +kernel
theorem dX3_loseGoods_116 : decode cX3_loseGoods 116 = .ok (.iconst 0, 1) := by decide +kernel
theorem dX3_loseGoods_117 : decode cX3_loseGoods 117 = .ok (.iaload, 1) := by decide +kernel
theorem dX3_loseGoods_118 : decode cX3_loseGoods 118 = .ok (.iconst 1, 1) := by decide +kernel
theorem dX3_loseGoods_119 : decode cX3_loseGoods 119 = .ok (.iadd, 1) := by decide +kernel
theorem dX3_loseGoods_120 : decode cX3_loseGoods 120 = .ok (.iconst 2, 1) := by decide +kernel
theorem dX3_loseGoods_121 : decode cX3_loseGoods 121 = .ok (.idiv, 1) := by decide +kernel
theorem dX3_loseGoods_122 : decode cX3_loseGoods 122 = .ok (.istore_n 3, 1) := by decide +kernel
theorem dX3_loseGoods_123 : decode cX3_loseGoods 123 = .ok (.aload_n 0, 1) := by decide +kernel
theorem dX3_loseGoods_124 : decode cX3_loseGoods 124 = .ok (.getfield 9, 3) := by decide +kernel
theorem dX3_loseGoods_127 : decode cX3_loseGoods 127 = .ok (.iconst 0, 1) := by decide +kernel
theorem dX3_loseGoods_128 : decode cX3_loseGoods 128 = .ok (.dup2, 1) := by decide +kernel
theorem dX3_loseGoods_129 : decode cX3_loseGoods 129 = .ok (.iaload, 1) := by decide +kernel
theorem dX3_loseGoods_130 : decode cX3_loseGoods 130 = .ok (.iload_n 3, 1) := by decide +kernel
theorem dX3_loseGoods_131 : decode cX3_loseGoods 131 = .ok (.isub, 1) := by decide +kernel
theorem dX3_loseGoods_132 : decode cX3_loseGoods 132 = .ok (.iastore, 1) := by decide +kernel
theorem dX3_loseGoods_133 : decode cX3_loseGoods 133 = .ok (.iload_n 2, 1) := by decide +kernel
theorem dX3_loseGoods_134 : decode cX3_loseGoods 134 = .ok (.iload_n 3, 1) := by decide +kernel
theorem dX3_loseGoods_135 : decode cX3_loseGoods 135 = .ok (.iadd, 1) := by decide +kernel
theorem dX3_loseGoods_136 : decode cX3_loseGoods 136 = .ok (.istore_n 2, 1) := by decide +kernel
theorem dX3_loseGoods_137 : decode cX3_loseGoods 137 = .ok (.iload_n 2, 1) := by decide +kernel
theorem dX3_loseGoods_138 : decode cX3_loseGoods 138 = .ok (.ireturn, 1) := by decide +kernel
theorem dX4_init_0 : decode cX4_init 0 = .ok (.aload_n 0, 1) := by decide +kernel
theorem dX4_init_1 : decode cX4_init 1 = .ok (.invokespecial 3, 3) := by decide +kernel
theorem dX4_init_4 : decode cX4_init 4 = .ok (.aload_n 0, 1) := by decide +kernel
theorem dX4_init_5 : decode cX4_init 5 = .ok (.bipush 120, 2) := by decide +kernel
theorem dX4_init_7 : decode cX4_init 7 = .ok (.newarray .char, 2) := by decide +kernel
theorem dX4_init_9 : decode cX4_init 9 = .ok (.putfield 11, 3) := by decide +kernel
theorem dX4_init_12 : decode cX4_init 12 = .ok (.aload_n 0, 1) := by decide +kernel
theorem dX4_init_13 : decode cX4_init 13 = .ok (.iconst 0, 1) := by decide +kernel
theorem dX4_init_14 : decode cX4_init 14 = .ok (.putfield 15, 3) := by decide +kernel
theorem dX4_init_17 : decode cX4_init 17 = .ok (.return_, 1) := by decide +kernel
theorem dX4_add_0 : decode cX4_add 0 = .ok (.aload_n 0, 1) := by decide +kernel
theorem dX4_add_1 : decode cX4_add 1 = .ok (.getfield 15, 3) := by decide +kernel
theorem dX4_add_4 : decode cX4_add 4 = .ok (.bipush 120, 2) := by decide +kernel
theorem dX4_add_6 : decode cX4_add 6 = .ok (.if_icmp .lt 5, 3) := by decide +kernel
theorem dX4_add_9 : decode cX4_add 9 = .ok (.iconst 0, 1) := by decide +kernel
theorem dX4_add_10 : decode cX4_add 10 = .ok (.ireturn, 1) := by decide +kernel
theorem dX4_add_11 : decode cX4_add 11 = .ok (.aload_n 0, 1) := by decide +kernel
theorem dX4_add_12 : decode cX4_add 12 = .ok (.getfield 11, 3) := by decide +kernel
theorem dX4_add_15 : decode cX4_add 15 = .ok (.aload_n 0, 1) := by decide +kernel
theorem dX4_add_16 : decode cX4_add 16 = .ok (.getfield 15, 3) := by decide +kernel
theorem dX4_add_19 : decode cX4_add 19 = .ok (.iload_n 1, 1) := by decide +kernel
theorem dX4_add_20 : decode cX4_add 20 = .ok (.castore, 1) := by decide +kernel
theorem dX4_add_21 : decode cX4_add 21 = .ok (.aload_n 0, 1) := by decide +kernel
theorem dX4_add_22 : decode cX4_add 22 = .ok (.dup, 1) := by decide +kernel
theorem dX4_add_23 : decode cX4_add 23 = .ok (.getfield 15, 3) := by decide +kernel
theorem dX4_add_26 : decode cX4_add 26 = .ok (.iconst 1, 1) := by decide +kernel
theorem dX4_add_27 : decode cX4_add 27 = .ok (.iadd, 1) := by decide +kernel
theorem dX4_add_28 : decode cX4_add 28 = .ok (.putfield 15, 3) := by decide +kernel
theorem dX4_add_31 : decode cX4_add 31 = .ok (.iconst 1, 1) := by decide +kernel
theorem dX4_add_32 : decode cX4_add 32 = .ok (.ireturn, 1) := by decide +kernel
theorem dX4_signAt_0 : decode cX4_signAt 0 = .ok (.iload_n 1, 1) := by decide +kernel
theorem dX4_signAt_1 : decode cX4_signAt 1 = .ok (.ifCond .lt 20, 3) := by decide +kernel
theorem dX4_signAt_4 : decode cX4_signAt 4 = .ok (.iload_n 1, 1) := by decide +kernel
theorem dX4_signAt_5 : decode cX4_signAt 5 = .ok (.aload_n 0, 1) := by decide +kernel
theorem dX4_signAt_6 : decode cX4_signAt 6 = .ok (.getfield 15, 3) := by decide +kernel
theorem dX4_signAt_9 : decode cX4_signAt 9 = .ok (.if_icmp .ge 12, 3) := by decide +kernel
theorem dX4_signAt_12 : decode cX4_signAt 12 = .ok (.aload_n 0, 1) := by decide +kernel
theorem dX4_signAt_13 : decode cX4_signAt 13 = .ok (.getfield 11, 3) := by decide +kernel
theorem dX4_signAt_16 : decode cX4_signAt 16 = .ok (.iload_n 1, 1) := by decide +kernel
theorem dX4_signAt_17 : decode cX4_signAt 17 = .ok (.caload, 1) := by decide +kernel
theorem dX4_signAt_18 : decode cX4_signAt 18 = .ok (.goto 4, 3) := by decide +kernel
theorem dX4_signAt_21 : decode cX4_signAt 21 = .ok (.iconst 0, 1) := by decide +kernel
theorem dX4_signAt_22 : decode cX4_signAt 22 = .ok (.ireturn, 1) := by decide +kernel
theorem dX4_isBetween_0 : decode cX4_isBetween 0 = .ok (.aload_n 0, 1) := by decide +kernel
theorem dX4_isBetween_1 : decode cX4_isBetween 1 = .ok (.iload_n 1, 1) := by decide +kernel
theorem dX4_isBetween_2 : decode cX4_isBetween 2 = .ok (.invokevirtual 19, 3) := by decide +kernel
theorem dX4_isBetween_5 : decode cX4_isBetween 5 = .ok (.iload_n 2, 1) := by decide +kernel
theorem dX4_isBetween_6 : decode cX4_isBetween 6 = .ok (.if_icmp .lt 16, 3) := by decide +kernel
theorem dX4_isBetween_9 : decode cX4_isBetween 9 = .ok (.aload_n 0, 1) := by decide +kernel
theorem dX4_isBetween_10 : decode cX4_isBetween 10 = .ok (.iload_n 1, 1) := by decide +kernel
theorem dX4_isBetween_11 : decode cX4_isBetween 11 = .ok (.invokevirtual 19, 3) := by decide +kernel
theorem dX4_isBetween_14 : decode cX4_isBetween 14 = .ok (.iload_n 3, 1) := by decide +kernel
theorem dX4_isBetween_15 : decode cX4_isBetween 15 = .ok (.if_icmp .gt 7, 3) := by decide +kernel
theorem dX4_isBetween_18 : decode cX4_isBetween 18 = .ok (.iconst 1, 1) := by decide +kernel
theorem dX4_isBetween_19 : decode cX4_isBetween 19 = .ok (.goto 4, 3) := by decide +kernel
theorem dX4_isBetween_22 : decode cX4_isBetween 22 = .ok (.iconst 0, 1) := by decide +kernel
theorem dX4_isBetween_23 : decode cX4_isBetween 23 = .ok (.ireturn, 1) := by decide +kernel
theorem dX4_digitAt_0 : decode cX4_digitAt 0 = .ok (.aload_n 0, 1) := by decide +kernel
theorem dX4_digitAt_1 : decode cX4_digitAt 1 = .ok (.iload_n 1, 1) := by decide +kernel
theorem dX4_digitAt_2 : decode cX4_digitAt 2 = .ok (.invokevirtual 19, 3) := by decide +kernel
theorem dX4_digitAt_5 : decode cX4_digitAt 5 = .ok (.bipush 48, 2) := by decide +kernel
theorem dX4_digitAt_7 : decode cX4_digitAt 7 = .ok (.isub, 1) := by decide +kernel
theorem dX4_digitAt_8 : decode cX4_digitAt 8 = .ok (.ireturn, 1) := by decide +kernel
theorem dX4_findFault_0 : decode cX4_findFault 0 = .ok (.aload_n 0, 1) := by decide +kernel
theorem dX4_findFault_1 : decode cX4_findFault 1 = .ok (.iconst 0, 1) := by decide +kernel
theorem dX4_findFault_2 : decode cX4_findFault 2 = .ok (.bipush 83, 2) := by decide +kernel
theorem dX4_findFault_4 : decode cX4_findFault 4 = .ok (.bipush 83, 2) := by decide +kernel
theorem dX4_findFault_6 : decode cX4_findFault 6 = .ok (.invokevirtual 23, 3) := by decide +kernel
theorem dX4_findFault_9 : decode cX4_findFault 9 = .ok (.ifCond .ne 5, 3) := by decide +kernel
theorem dX4_findFault_12 : decode cX4_findFault 12 = .ok (.iconst 0, 1) := by decide +kernel
theorem dX4_findFault_13 : decode cX4_findFault 13 = .ok (.ireturn, 1) := by decide +kernel
theorem dX4_findFault_14 : decode cX4_findFault 14 = .ok (.aload_n 0, 1) := by decide +kernel
theorem dX4_findFault_15 : decode cX4_findFault 15 = .ok (.iconst 1, 1) := by decide +kernel
theorem dX4_findFault_16 : decode cX4_findFault 16 = .ok (.bipush 50, 2) := by decide +kernel
theorem dX4_findFault_18 : decode cX4_findFault 18 = .ok (.bipush 52, 2) := by decide +kernel
theorem dX4_findFault_20 : decode cX4_findFault 20 = .ok (.invokevirtual 23, 3) := by decide +kernel
theorem dX4_findFault_23 : decode cX4_findFault 23 = .ok (.ifCond .ne 5, 3) := by decide +kernel
theorem dX4_findFault_26 : decode cX4_findFault 26 = .ok (.iconst 1, 1) := by decide +kernel
theorem dX4_findFault_27 : decode cX4_findFault 27 = .ok (.ireturn, 1) := by decide +kernel
theorem dX4_findFault_28 : decode cX4_findFault 28 = .ok (.iconst 2, 1) := by decide +kernel
theorem dX4_findFault_29 : decode cX4_findFault 29 = .ok (.istore_n 1, 1) := by decide +kernel
theorem dX4_findFault_30 : decode cX4_findFault 30 = .ok (.iload_n 1, 1) := by decide +kernel
theorem dX4_findFault_31 : decode cX4_findFault 31 = .ok (.iconst 4, 1) := by decide +kernel
theorem dX4_findFault_32 : decode cX4_findFault 32 = .ok (.if_icmp .ge 23, 3) := by decide +kernel
theorem dX4_findFault_35 : decode cX4_findFault 35 = .ok (.aload_n 0, 1) := by decide +kernel
theorem dX4_findFault_36 : decode cX4_findFault 36 = .ok (.iload_n 1, 1) := by decide +kernel
theorem dX4_findFault_37 : decode cX4_findFault 37 = .ok (.bipush 48, 2) := by decide +kernel
theorem dX4_findFault_39 : decode cX4_findFault 39 = .ok (.bipush 57, 2) := by decide +kernel
theorem dX4_findFault_41 : decode cX4_findFault 41 = .ok (.invokevirtual 23, 3) := by decide +kernel
theorem dX4_findFault_44 : decode cX4_findFault 44 = .ok (.ifCond .ne 5, 3) := by decide +kernel
theorem dX4_findFault_47 : decode cX4_findFault 47 = .ok (.iload_n 1, 1) := by decide +kernel
theorem dX4_findFault_48 : decode cX4_findFault 48 = .ok (.ireturn, 1) := by decide +kernel
theorem dX4_findFault_49 : decode cX4_findFault 49 = .ok (.iinc 1 1, 3) := by decide +kernel
theorem dX4_findFault_52 : decode cX4_findFault 52 = .ok (.goto (-22), 3) := by decide +kernel
theorem dX4_findFault_55 : decode cX4_findFault 55 = .ok (.iconst 4, 1) := by decide +kernel
theorem dX4_findFault_56 : decode cX4_findFault 56 = .ok (.istore_n 1, 1) := by decide +kernel
theorem dX4_findFault_57 : decode cX4_findFault 57 = .ok (.iconst 0, 1) := by decide +kernel
theorem dX4_findFault_58 : decode cX4_findFault 58 = .ok (.istore_n 2, 1) := by decide +kernel
theorem dX4_findFault_59 : decode cX4_findFault 59 = .ok (.iload_n 2, 1) := by decide +kernel
theorem dX4_findFault_60 : decode cX4_findFault 60 = .ok (.bipush 120, 2) := by decide +kernel
theorem dX4_findFault_62 : decode cX4_findFault 62 = .ok (.if_icmp .ge 38, 3) := by decide +kernel
theorem dX4_findFault_65 : decode cX4_findFault 65 = .ok (.iload_n 1, 1) := by decide +kernel
theorem dX4_findFault_66 : decode cX4_findFault 66 = .ok (.aload_n 0, 1) := by decide +kernel
theorem dX4_findFault_67 : decode cX4_findFault 67 = .ok (.getfield 15, 3) := by decide +kernel
theorem dX4_findFault_70 : decode cX4_findFault 70 = .ok (.if_icmp .ge 30, 3) := by decide +kernel
theorem dX4_findFault_73 : decode cX4_findFault 73 = .ok (.aload_n 0, 1) := by decide +kernel
theorem dX4_findFault_74 : decode cX4_findFault 74 = .ok (.iload_n 1, 1) := by decide +kernel
theorem dX4_findFault_75 : decode cX4_findFault 75 = .ok (.invokevirtual 27, 3) := by decide +kernel
theorem dX4_findFault_78 : decode cX4_findFault 78 = .ok (.istore_n 3, 1) := by decide +kernel
theorem dX4_findFault_79 : decode cX4_findFault 79 = .ok (.iload_n 3, 1) := by decide +kernel
theorem dX4_findFault_80 : decode cX4_findFault 80 = .ok (.iconst (-1), 1) := by decide +kernel
theorem dX4_findFault_81 : decode cX4_findFault 81 = .ok (.if_icmp .eq 5, 3) := by decide +kernel
theorem dX4_findFault_84 : decode cX4_findFault 84 = .ok (.iload_n 3, 1) := by decide +kernel
theorem dX4_findFault_85 : decode cX4_findFault 85 = .ok (.ireturn, 1) := by decide +kernel
theorem dX4_findFault_86 : decode cX4_findFault 86 = .ok (.iload_n 1, 1) := by decide +kernel
theorem dX4_findFault_87 : decode cX4_findFault 87 = .ok (.aload_n 0, 1) := by decide +kernel
theorem dX4_findFault_88 : decode cX4_findFault 88 = .ok (.iload_n 1, 1) := by decide +kernel
theorem dX4_findFault_89 : decode cX4_findFault 89 = .ok (.invokevirtual 31, 3) := by decide +kernel
theorem dX4_findFault_92 : decode cX4_findFault 92 = .ok (.iadd, 1) := by decide +kernel
theorem dX4_findFault_93 : decode cX4_findFault 93 = .ok (.istore_n 1, 1) := by decide +kernel
theorem dX4_findFault_94 : decode cX4_findFault 94 = .ok (.iinc 2 1, 3) := by decide +kernel
theorem dX4_findFault_97 : decode cX4_findFault 97 = .ok (.goto (-38), 3) := by decide +kernel
theorem dX4_findFault_100 : decode cX4_findFault 100 = .ok (.iconst (-1), 1) := by decide +kernel
theorem dX4_findFault_101 : decode cX4_findFault 101 = .ok (.ireturn, 1) := by decide +kernel
theorem dX4_findMoveFault_0 : decode cX4_findMoveFault 0 = .ok (.aload_n 0, 1) := by decide +kernel
theorem dX4_findMoveFault_1 : decode cX4_findMoveFault 1 = .ok (.iload_n 1, 1) := by decide +kernel
theorem dX4_findMoveFault_2 : decode cX4_findMoveFault 2 = .ok (.invokevirtual 19, 3) := by decide +kernel
theorem dX4_findMoveFault_5 : decode cX4_findMoveFault 5 = .ok (.lookupswitch 131 #[(45, 67), (104, 67), (108, 69), (109, 91), (110, 67), (112, 67), (114, 67)], 67) := by decide +kernel
theorem dX4_findMoveFault_72 : decode cX4_findMoveFault 72 = .ok (.iconst (-1), 1) := by decide +kernel
theorem dX4_findMoveFault_73 : decode cX4_findMoveFault 73 = .ok (.ireturn, 1) := by decide +kernel
theorem dX4_findMoveFault_74 : decode cX4_findMoveFault 74 = .ok (.aload_n 0, 1) := by decide +kernel
theorem dX4_findMoveFault_75 : decode cX4_findMoveFault 75 = .ok (.iload_n 1, 1) := by decide +kernel
theorem dX4_findMoveFault_76 : decode cX4_findMoveFault 76 = .ok (.iconst 1, 1) := by decide +kernel
theorem dX4_findMoveFault_77 : decode cX4_findMoveFault 77 = .ok (.iadd, 1) := by decide +kernel
theorem dX4_findMoveFault_78 : decode cX4_findMoveFault 78 = .ok (.bipush 49, 2) := by decide +kernel
theorem dX4_findMoveFault_80 : decode cX4_findMoveFault 80 = .ok (.bipush 51, 2) := by decide +kernel
theorem dX4_findMoveFault_82 : decode cX4_findMoveFault 82 = .ok (.invokevirtual 23, 3) := by decide +kernel
theorem dX4_findMoveFault_85 : decode cX4_findMoveFault 85 = .ok (.ifCond .eq 7, 3) := by decide +kernel
theorem dX4_findMoveFault_88 : decode cX4_findMoveFault 88 = .ok (.iconst (-1), 1) := by decide +kernel
theorem dX4_findMoveFault_89 : decode cX4_findMoveFault 89 = .ok (.goto 6, 3) := by decide +kernel
theorem dX4_findMoveFault_92 : decode cX4_findMoveFault 92 = .ok (.iload_n 1, 1) := by decide +kernel
theorem dX4_findMoveFault_93 : decode cX4_findMoveFault 93 = .ok (.iconst 1, 1) := by decide +kernel
theorem dX4_findMoveFault_94 : decode cX4_findMoveFault 94 = .ok (.iadd, 1) := by decide +kernel
theorem dX4_findMoveFault_95 : decode cX4_findMoveFault 95 = .ok (.ireturn, 1) := by decide +kernel
theorem dX4_findMoveFault_96 : decode cX4_findMoveFault 96 = .ok (.aload_n 0, 1) := by decide +kernel
theorem dX4_findMoveFault_97 : decode cX4_findMoveFault 97 = .ok (.iload_n 1, 1) := by decide +kernel
theorem dX4_findMoveFault_98 : decode cX4_findMoveFault 98 = .ok (.iconst 1, 1) := by decide +kernel
theorem dX4_findMoveFault_99 : decode cX4_findMoveFault 99 = .ok (.iadd, 1) := by decide +kernel
theorem dX4_findMoveFault_100 : decode cX4_findMoveFault 100 = .ok (.bipush 48, 2) := by decide +kernel
theorem dX4_findMoveFault_102 : decode cX4_findMoveFault 102 = .ok (.bipush 50, 2) := by decide +kernel
theorem dX4_findMoveFault_104 : decode cX4_findMoveFault 104 = .ok (.invokevirtual 23, 3) := by decide +kernel
theorem dX4_findMoveFault_107 : decode cX4_findMoveFault 107 = .ok (.ifCond .ne 7, 3) := by decide +kernel
theorem dX4_findMoveFault_110 : decode cX4_findMoveFault 110 = .ok (.iload_n 1, 1) := by decide +kernel
theorem dX4_findMoveFault_111 : decode cX4_findMoveFault 111 = .ok (.iconst 1, 1) := by decide +kernel
theorem dX4_findMoveFault_112 : decode cX4_findMoveFault 112 = .ok (.iadd, 1) := by decide +kernel
theorem dX4_findMoveFault_113 : decode cX4_findMoveFault 113 = .ok (.ireturn, 1) := by decide +kernel
theorem dX4_findMoveFault_114 : decode cX4_findMoveFault 114 = .ok (.aload_n 0, 1) := by decide +kernel
theorem dX4_findMoveFault_115 : decode cX4_findMoveFault 115 = .ok (.iload_n 1, 1) := by decide +kernel
theorem dX4_findMoveFault_116 : decode cX4_findMoveFault 116 = .ok (.iconst 2, 1) := by decide +kernel
theorem dX4_findMoveFault_117 : decode cX4_findMoveFault 117 = .ok (.iadd, 1) := by decide +kernel
theorem dX4_findMoveFault_118 : decode cX4_findMoveFault 118 = .ok (.bipush 49, 2) := by decide +kernel
theorem dX4_findMoveFault_120 : decode cX4_findMoveFault 120 = .ok (.bipush 51, 2) := by decide +kernel
theorem dX4_findMoveFault_122 : decode cX4_findMoveFault 122 = .ok (.invokevirtual 23, 3) := by decide +kernel
theorem dX4_findMoveFault_125 : decode cX4_findMoveFault 125 = .ok (.ifCond .eq 7, 3) := by decide +kernel
theorem dX4_findMoveFault_128 : decode cX4_findMoveFault 128 = .ok (.iconst (-1), 1) := by decide +kernel
theorem dX4_findMoveFault_129 : decode cX4_findMoveFault 129 = .ok (.goto 6, 3) := by decide +kernel
theorem dX4_findMoveFault_132 : decode cX4_findMoveFault 132 = .ok (.iload_n 1, 1) := by decide +kernel
theorem dX4_findMoveFault_133 : decode cX4_findMoveFault 133 = .ok (.iconst 2, 1) := by decide +kernel
theorem dX4_findMoveFault_134 : decode cX4_findMoveFault 134 = .ok (.iadd, 1) := by decide +kernel
theorem dX4_findMoveFault_135 : decode cX4_findMoveFault 135 = .ok (.ireturn, 1) := by decide +kernel
theorem dX4_findMoveFault_136 : decode cX4_findMoveFault 136 = .ok (.iload_n 1, 1) := by decide +kernel
theorem dX4_findMoveFault_137 : decode cX4_findMoveFault 137 = .ok (.ireturn, 1) := by decide +kernel
theorem dX4_players_0 : decode cX4_players 0 = .ok (.aload_n 0, 1) := by decide +kernel
theorem dX4_players_1 : decode cX4_players 1 = .ok (.iconst 1, 1) := by decide +kernel
theorem dX4_players_2 : decode cX4_players 2 = .ok (.invokevirtual 34, 3) := by decide +kernel
theorem dX4_players_5 : decode cX4_players 5 = .ok (.ireturn, 1) := by decide +kernel
theorem dX4_seed_0 : decode cX4_seed 0 = .ok (.bipush 10, 2) := by decide +kernel
theorem dX4_seed_2 : decode cX4_seed 2 = .ok (.aload_n 0, 1) := by decide +kernel
theorem dX4_seed_3 : decode cX4_seed 3 = .ok (.iconst 2, 1) := by decide +kernel
theorem dX4_seed_4 : decode cX4_seed 4 = .ok (.invokevirtual 34, 3) := by decide +kernel
theorem dX4_seed_7 : decode cX4_seed 7 = .ok (.imul, 1) := by decide +kernel
theorem dX4_seed_8 : decode cX4_seed 8 = .ok (.aload_n 0, 1) := by decide +kernel
theorem dX4_seed_9 : decode cX4_seed 9 = .ok (.iconst 3, 1) := by decide +kernel
theorem dX4_seed_10 : decode cX4_seed 10 = .ok (.invokevirtual 34, 3) := by decide +kernel
theorem dX4_seed_13 : decode cX4_seed 13 = .ok (.iadd, 1) := by decide +kernel
theorem dX4_seed_14 : decode cX4_seed 14 = .ok (.ireturn, 1) := by decide +kernel
theorem dX4_moveLength_0 : decode cX4_moveLength 0 = .ok (.aload_n 0, 1) := by decide +kernel
theorem dX4_moveLength_1 : decode cX4_moveLength 1 = .ok (.iload_n 1, 1) := by decide +kernel
theorem dX4_moveLength_2 : decode cX4_moveLength 2 = .ok (.invokevirtual 19, 3) := by decide +kernel
theorem dX4_moveLength_5 : decode cX4_moveLength 5 = .ok (.lookupswitch 31 #[(108, 27), (109, 29)], 27) := by decide +kernel
theorem dX4_moveLength_32 : decode cX4_moveLength 32 = .ok (.iconst 2, 1) := by decide +kernel
theorem dX4_moveLength_33 : decode cX4_moveLength 33 = .ok (.ireturn, 1) := by decide +kernel
theorem dX4_moveLength_34 : decode cX4_moveLength 34 = .ok (.iconst 3, 1) := by decide +kernel
theorem dX4_moveLength_35 : decode cX4_moveLength 35 = .ok (.ireturn, 1) := by decide +kernel
theorem dX4_moveLength_36 : decode cX4_moveLength 36 = .ok (.iconst 1, 1) := by decide +kernel
theorem dX4_moveLength_37 : decode cX4_moveLength 37 = .ok (.ireturn, 1) := by decide +kernel
theorem dX4_movePlace_0 : decode cX4_movePlace 0 = .ok (.aload_n 0, 1) := by decide +kernel
theorem dX4_movePlace_1 : decode cX4_movePlace 1 = .ok (.iload_n 1, 1) := by decide +kernel
theorem dX4_movePlace_2 : decode cX4_movePlace 2 = .ok (.invokevirtual 19, 3) := by decide +kernel
theorem dX4_movePlace_5 : decode cX4_movePlace 5 = .ok (.tableswitch 71 104 114 #[67, 71, 71, 71, 63, 65, 61, 71, 59, 71, 69], 59) := by decide +kernel
theorem dX4_movePlace_64 : decode cX4_movePlace 64 = .ok (.iconst 0, 1) := by decide +kernel
theorem dX4_movePlace_65 : decode cX4_movePlace 65 = .ok (.ireturn, 1) := by decide +kernel
theorem dX4_movePlace_66 : decode cX4_movePlace 66 = .ok (.iconst 1, 1) := by decide +kernel
theorem dX4_movePlace_67 : decode cX4_movePlace 67 = .ok (.ireturn, 1) := by decide +kernel
theorem dX4_movePlace_68 : decode cX4_movePlace 68 = .ok (.iconst 2, 1) := by decide +kernel
theorem dX4_movePlace_69 : decode cX4_movePlace 69 = .ok (.ireturn, 1) := by decide +kernel
theorem dX4_movePlace_70 : decode cX4_movePlace 70 = .ok (.iconst 3, 1) := by decide +kernel
theorem dX4_movePlace_71 : decode cX4_movePlace 71 = .ok (.ireturn, 1) := by decide +kernel
theorem dX4_movePlace_72 : decode cX4_movePlace 72 = .ok (.iconst 4, 1) := by decide +kernel
theorem dX4_movePlace_73 : decode cX4_movePlace 73 = .ok (.ireturn, 1) := by decide +kernel
theorem dX4_movePlace_74 : decode cX4_movePlace 74 = .ok (.iconst 5, 1) := by decide +kernel
theorem dX4_movePlace_75 : decode cX4_movePlace 75 = .ok (.ireturn, 1) := by decide +kernel
theorem dX4_movePlace_76 : decode cX4_movePlace 76 = .ok (.iconst (-1), 1) := by decide +kernel
theorem dX4_movePlace_77 : decode cX4_movePlace 77 = .ok (.ireturn, 1) := by decide +kernel
theorem dX4_moveChoice_0 : decode cX4_moveChoice 0 = .ok (.aload_n 0, 1) := by decide +kernel
theorem dX4_moveChoice_1 : decode cX4_moveChoice 1 = .ok (.iload_n 1, 1) := by decide +kernel
theorem dX4_moveChoice_2 : decode cX4_moveChoice 2 = .ok (.invokevirtual 19, 3) := by decide +kernel
theorem dX4_moveChoice_5 : decode cX4_moveChoice 5 = .ok (.lookupswitch 54 #[(108, 27), (109, 35)], 27) := by decide +kernel
theorem dX4_moveChoice_32 : decode cX4_moveChoice 32 = .ok (.aload_n 0, 1) := by decide +kernel
theorem dX4_moveChoice_33 : decode cX4_moveChoice 33 = .ok (.iload_n 1, 1) := by decide +kernel
theorem dX4_moveChoice_34 : decode cX4_moveChoice 34 = .ok (.iconst 1, 1) := by decide +kernel
theorem dX4_moveChoice_35 : decode cX4_moveChoice 35 = .ok (.iadd, 1) := by decide +kernel
theorem dX4_moveChoice_36 : decode cX4_moveChoice 36 = .ok (.invokevirtual 34, 3) := by decide +kernel
theorem dX4_moveChoice_39 : decode cX4_moveChoice 39 = .ok (.ireturn, 1) := by decide +kernel
theorem dX4_moveChoice_40 : decode cX4_moveChoice 40 = .ok (.bipush 10, 2) := by decide +kernel
theorem dX4_moveChoice_42 : decode cX4_moveChoice 42 = .ok (.aload_n 0, 1) := by decide +kernel
theorem dX4_moveChoice_43 : decode cX4_moveChoice 43 = .ok (.iload_n 1, 1) := by decide +kernel
theorem dX4_moveChoice_44 : decode cX4_moveChoice 44 = .ok (.iconst 1, 1) := by decide +kernel
theorem dX4_moveChoice_45 : decode cX4_moveChoice 45 = .ok (.iadd, 1) := by decide +kernel
theorem dX4_moveChoice_46 : decode cX4_moveChoice 46 = .ok (.invokevirtual 34, 3) := by decide +kernel
theorem dX4_moveChoice_49 : decode cX4_moveChoice 49 = .ok (.imul, 1) := by decide +kernel
theorem dX4_moveChoice_50 : decode cX4_moveChoice 50 = .ok (.aload_n 0, 1) := by decide +kernel
theorem dX4_moveChoice_51 : decode cX4_moveChoice 51 = .ok (.iload_n 1, 1) := by decide +kernel
theorem dX4_moveChoice_52 : decode cX4_moveChoice 52 = .ok (.iconst 2, 1) := by decide +kernel
theorem dX4_moveChoice_53 : decode cX4_moveChoice 53 = .ok (.iadd, 1) := by decide +kernel
theorem dX4_moveChoice_54 : decode cX4_moveChoice 54 = .ok (.invokevirtual 34, 3) := by decide +kernel
theorem dX4_moveChoice_57 : decode cX4_moveChoice 57 = .ok (.iadd, 1) := by decide +kernel
theorem dX4_moveChoice_58 : decode cX4_moveChoice 58 = .ok (.ireturn, 1) := by decide +kernel
theorem dX4_moveChoice_59 : decode cX4_moveChoice 59 = .ok (.iconst 0, 1) := by decide +kernel
theorem dX4_moveChoice_60 : decode cX4_moveChoice 60 = .ok (.ireturn, 1) := by decide +kernel
theorem dX5_init_0 : decode cX5_init 0 = .ok (.aload_n 0, 1) := by decide +kernel
theorem dX5_init_1 : decode cX5_init 1 = .ok (.invokespecial 1, 3) := by decide +kernel
theorem dX5_init_4 : decode cX5_init 4 = .ok (.aload_n 0, 1) := by decide +kernel
theorem dX5_init_5 : decode cX5_init 5 = .ok (.new 7, 3) := by decide +kernel
theorem dX5_init_8 : decode cX5_init 8 = .ok (.dup, 1) := by decide +kernel
theorem dX5_init_9 : decode cX5_init 9 = .ok (.invokespecial 9, 3) := by decide +kernel
theorem dX5_init_12 : decode cX5_init 12 = .ok (.putfield 10, 3) := by decide +kernel
theorem dX5_init_15 : decode cX5_init 15 = .ok (.aload_n 0, 1) := by decide +kernel
theorem dX5_init_16 : decode cX5_init 16 = .ok (.new 16, 3) := by decide +kernel
theorem dX5_init_19 : decode cX5_init 19 = .ok (.dup, 1) := by decide +kernel
theorem dX5_init_20 : decode cX5_init 20 = .ok (.invokespecial 18, 3) := by decide +kernel
theorem dX5_init_23 : decode cX5_init 23 = .ok (.putfield 19, 3) := by decide +kernel
theorem dX5_init_26 : decode cX5_init 26 = .ok (.aload_n 0, 1) := by decide +kernel
theorem dX5_init_27 : decode cX5_init 27 = .ok (.new 16, 3) := by decide +kernel
theorem dX5_init_30 : decode cX5_init 30 = .ok (.dup, 1) := by decide +kernel
theorem dX5_init_31 : decode cX5_init 31 = .ok (.invokespecial 18, 3) := by decide +kernel
theorem dX5_init_34 : decode cX5_init 34 = .ok (.putfield 23, 3) := by decide +kernel
theorem dX5_init_37 : decode cX5_init 37 = .ok (.aload_n 0, 1) := by decide +kernel
theorem dX5_init_38 : decode cX5_init 38 = .ok (.new 26, 3) := by decide +kernel
theorem dX5_init_41 : decode cX5_init 41 = .ok (.dup, 1) := by decide +kernel
theorem dX5_init_42 : decode cX5_init 42 = .ok (.invokespecial 28, 3) := by decide +kernel
theorem dX5_init_45 : decode cX5_init 45 = .ok (.putfield 29, 3) := by decide +kernel
theorem dX5_init_48 : decode cX5_init 48 = .ok (.aload_n 0, 1) := by decide +kernel
theorem dX5_init_49 : decode cX5_init 49 = .ok (.iconst 2, 1) := by decide +kernel
theorem dX5_init_50 : decode cX5_init 50 = .ok (.anewarray 16, 3) := by decide +kernel
theorem dX5_init_53 : decode cX5_init 53 = .ok (.putfield 33, 3) := by decide +kernel
theorem dX5_init_56 : decode cX5_init 56 = .ok (.aload_n 0, 1) := by decide +kernel
theorem dX5_init_57 : decode cX5_init 57 = .ok (.iconst 2, 1) := by decide +kernel
theorem dX5_init_58 : decode cX5_init 58 = .ok (.newarray .boolean, 2) := by decide +kernel
theorem dX5_init_60 : decode cX5_init 60 = .ok (.putfield 37, 3) := by decide +kernel
theorem dX5_init_63 : decode cX5_init 63 = .ok (.iconst 0, 1) := by decide +kernel
theorem dX5_init_64 : decode cX5_init 64 = .ok (.istore_n 1, 1) := by decide +kernel
theorem dX5_init_65 : decode cX5_init 65 = .ok (.iload_n 1, 1) := by decide +kernel
theorem dX5_init_66 : decode cX5_init 66 = .ok (.iconst 2, 1) := by decide +kernel
theorem dX5_init_67 : decode cX5_init 67 = .ok (.if_icmp .ge 22, 3) := by decide +kernel
theorem dX5_init_70 : decode cX5_init 70 = .ok (.aload_n 0, 1) := by decide +kernel
theorem dX5_init_71 : decode cX5_init 71 = .ok (.getfield 33, 3) := by decide +kernel
theorem dX5_init_74 : decode cX5_init 74 = .ok (.iload_n 1, 1) := by decide +kernel
theorem dX5_init_75 : decode cX5_init 75 = .ok (.new 16, 3) := by decide +kernel
theorem dX5_init_78 : decode cX5_init 78 = .ok (.dup, 1) := by decide +kernel
theorem dX5_init_79 : decode cX5_init 79 = .ok (.invokespecial 18, 3) := by decide +kernel
theorem dX5_init_82 : decode cX5_init 82 = .ok (.aastore, 1) := by decide +kernel
theorem dX5_init_83 : decode cX5_init 83 = .ok (.iinc 1 1, 3) := by decide +kernel
theorem dX5_init_86 : decode cX5_init 86 = .ok (.goto (-21), 3) := by decide +kernel
theorem dX5_init_89 : decode cX5_init 89 = .ok (.return_, 1) := by decide +kernel
theorem dX5_append_0 : decode cX5_append 0 = .ok (.iload_n 1, 1) := by decide +kernel
theorem dX5_append_1 : decode cX5_append 1 = .ok (.ifCond .lt 10, 3) := by decide +kernel
theorem dX5_append_4 : decode cX5_append 4 = .ok (.iload_n 1, 1) := by decide +kernel
theorem dX5_append_5 : decode cX5_append 5 = .ok (.sipush 255, 3) := by decide +kernel
theorem dX5_append_8 : decode cX5_append 8 = .ok (.if_icmp .le 13, 3) := by decide +kernel
theorem dX5_append_11 : decode cX5_append 11 = .ok (.new 41, 3) := by decide +kernel
theorem dX5_append_14 : decode cX5_append 14 = .ok (.dup, 1) := by decide +kernel
theorem dX5_append_15 : decode cX5_append 15 = .ok (.ldc 43, 2) := by decide +kernel
theorem dX5_append_17 : decode cX5_append 17 = .ok (.invokespecial 45, 3) := by decide +kernel
theorem dX5_append_20 : decode cX5_append 20 = .ok (.athrow, 1) := by decide +kernel
theorem dX5_append_21 : decode cX5_append 21 = .ok (.aload_n 0, 1) := by decide +kernel
theorem dX5_append_22 : decode cX5_append 22 = .ok (.getfield 10, 3) := by decide +kernel
theorem dX5_append_25 : decode cX5_append 25 = .ok (.iload_n 1, 1) := by decide +kernel
theorem dX5_append_26 : decode cX5_append 26 = .ok (.i2c, 1) := by decide +kernel
theorem dX5_append_27 : decode cX5_append 27 = .ok (.invokevirtual 48, 3) := by decide +kernel
theorem dX5_append_30 : decode cX5_append 30 = .ok (.ifCond .ne 13, 3) := by decide +kernel
theorem dX5_append_33 : decode cX5_append 33 = .ok (.new 52, 3) := by decide +kernel
theorem dX5_append_36 : decode cX5_append 36 = .ok (.dup, 1) := by decide +kernel
theorem dX5_append_37 : decode cX5_append 37 = .ok (.ldc 54, 2) := by decide +kernel
theorem dX5_append_39 : decode cX5_append 39 = .ok (.invokespecial 56, 3) := by decide +kernel
theorem dX5_append_42 : decode cX5_append 42 = .ok (.athrow, 1) := by decide +kernel
theorem dX5_append_43 : decode cX5_append 43 = .ok (.aload_n 0, 1) := by decide +kernel
theorem dX5_append_44 : decode cX5_append 44 = .ok (.getfield 10, 3) := by decide +kernel
theorem dX5_append_47 : decode cX5_append 47 = .ok (.getfield 57, 3) := by decide +kernel
theorem dX5_append_50 : decode cX5_append 50 = .ok (.ireturn, 1) := by decide +kernel
theorem dX5_clearText_0 : decode cX5_clearText 0 = .ok (.aload_n 0, 1) := by decide +kernel
theorem dX5_clearText_1 : decode cX5_clearText 1 = .ok (.getfield 10, 3) := by decide +kernel
theorem dX5_clearText_4 : decode cX5_clearText 4 = .ok (.getfield 57, 3) := by decide +kernel
theorem dX5_clearText_7 : decode cX5_clearText 7 = .ok (.istore_n 1, 1) := by decide +kernel
theorem dX5_clearText_8 : decode cX5_clearText 8 = .ok (.aload_n 0, 1) := by decide +kernel
theorem dX5_clearText_9 : decode cX5_clearText 9 = .ok (.getfield 10, 3) := by decide +kernel
theorem dX5_clearText_12 : decode cX5_clearText 12 = .ok (.iconst 0, 1) := by decide +kernel
theorem dX5_clearText_13 : decode cX5_clearText 13 = .ok (.putfield 57, 3) := by decide +kernel
theorem dX5_clearText_16 : decode cX5_clearText 16 = .ok (.iload_n 1, 1) := by decide +kernel
theorem dX5_clearText_17 : decode cX5_clearText 17 = .ok (.ireturn, 1) := by decide +kernel
theorem dX5_errorPosition_0 : decode cX5_errorPosition 0 = .ok (.aload_n 0, 1) := by decide +kernel
theorem dX5_errorPosition_1 : decode cX5_errorPosition 1 = .ok (.getfield 10, 3) := by decide +kernel
theorem dX5_errorPosition_4 : decode cX5_errorPosition 4 = .ok (.invokevirtual 61, 3) := by decide +kernel
theorem dX5_errorPosition_7 : decode cX5_errorPosition 7 = .ok (.ireturn, 1) := by decide +kernel
theorem dX5_load_0 : decode cX5_load 0 = .ok (.aload_n 0, 1) := by decide +kernel
theorem dX5_load_1 : decode cX5_load 1 = .ok (.getfield 10, 3) := by decide +kernel
theorem dX5_load_4 : decode cX5_load 4 = .ok (.invokevirtual 61, 3) := by decide +kernel
theorem dX5_load_7 : decode cX5_load 7 = .ok (.iconst (-1), 1) := by decide +kernel
theorem dX5_load_8 : decode cX5_load 8 = .ok (.if_icmp .eq 13, 3) := by decide +kernel
theorem dX5_load_11 : decode cX5_load 11 = .ok (.new 52, 3) := by decide +kernel
theorem dX5_load_14 : decode cX5_load 14 = .ok (.dup, 1) := by decide +kernel
theorem dX5_load_15 : decode cX5_load 15 = .ok (.ldc 65, 2) := by decide +kernel
theorem dX5_load_17 : decode cX5_load 17 = .ok (.invokespecial 56, 3) := by decide +kernel
theorem dX5_load_20 : decode cX5_load 20 = .ok (.athrow, 1) := by decide +kernel
theorem dX5_load_21 : decode cX5_load 21 = .ok (.aload_n 0, 1) := by decide +kernel
theorem dX5_load_22 : decode cX5_load 22 = .ok (.getfield 19, 3) := by decide +kernel
theorem dX5_load_25 : decode cX5_load 25 = .ok (.invokevirtual 67, 3) := by decide +kernel
theorem dX5_load_28 : decode cX5_load 28 = .ok (.aload_n 0, 1) := by decide +kernel
theorem dX5_load_29 : decode cX5_load 29 = .ok (.getfield 29, 3) := by decide +kernel
theorem dX5_load_32 : decode cX5_load 32 = .ok (.invokevirtual 70, 3) := by decide +kernel
theorem dX5_load_35 : decode cX5_load 35 = .ok (.iconst 0, 1) := by decide +kernel
theorem dX5_load_36 : decode cX5_load 36 = .ok (.istore_n 1, 1) := by decide +kernel
theorem dX5_load_37 : decode cX5_load 37 = .ok (.iload_n 1, 1) := by decide +kernel
theorem dX5_load_38 : decode cX5_load 38 = .ok (.iconst 2, 1) := by decide +kernel
theorem dX5_load_39 : decode cX5_load 39 = .ok (.if_icmp .ge 16, 3) := by decide +kernel
theorem dX5_load_42 : decode cX5_load 42 = .ok (.aload_n 0, 1) := by decide +kernel
theorem dX5_load_43 : decode cX5_load 43 = .ok (.getfield 37, 3) := by decide +kernel
theorem dX5_load_46 : decode cX5_load 46 = .ok (.iload_n 1, 1) := by decide +kernel
theorem dX5_load_47 : decode cX5_load 47 = .ok (.iconst 0, 1) := by decide +kernel
theorem dX5_load_48 : decode cX5_load 48 = .ok (.bastore, 1) := by decide +kernel
theorem dX5_load_49 : decode cX5_load 49 = .ok (.iinc 1 1, 3) := by decide +kernel
theorem dX5_load_52 : decode cX5_load 52 = .ok (.goto (-15), 3) := by decide +kernel
theorem dX5_load_55 : decode cX5_load 55 = .ok (.aload_n 0, 1) := by decide +kernel
theorem dX5_load_56 : decode cX5_load 56 = .ok (.getfield 19, 3) := by decide +kernel
theorem dX5_load_59 : decode cX5_load 59 = .ok (.aload_n 0, 1) := by decide +kernel
theorem dX5_load_60 : decode cX5_load 60 = .ok (.getfield 10, 3) := by decide +kernel
theorem dX5_load_63 : decode cX5_load 63 = .ok (.invokevirtual 73, 3) := by decide +kernel
theorem dX5_load_66 : decode cX5_load 66 = .ok (.aload_n 0, 1) := by decide +kernel
theorem dX5_load_67 : decode cX5_load 67 = .ok (.getfield 10, 3) := by decide +kernel
theorem dX5_load_70 : decode cX5_load 70 = .ok (.invokevirtual 76, 3) := by decide +kernel
theorem dX5_load_73 : decode cX5_load 73 = .ok (.i2l, 1) := by decide +kernel
theorem dX5_load_74 : decode cX5_load 74 = .ok (.invokevirtual 79, 3) := by decide +kernel
theorem dX5_load_77 : decode cX5_load 77 = .ok (.aload_n 0, 1) := by decide +kernel
theorem dX5_load_78 : decode cX5_load 78 = .ok (.invokevirtual 83, 3) := by decide +kernel
theorem dX5_load_81 : decode cX5_load 81 = .ok (.ireturn, 1) := by decide +kernel
theorem dX5_doMoves_0 : decode cX5_doMoves 0 = .ok (.iconst 0, 1) := by decide +kernel
theorem dX5_doMoves_1 : decode cX5_doMoves 1 = .ok (.istore_n 1, 1) := by decide +kernel
theorem dX5_doMoves_2 : decode cX5_doMoves 2 = .ok (.iconst 4, 1) := by decide +kernel
theorem dX5_doMoves_3 : decode cX5_doMoves 3 = .ok (.istore_n 2, 1) := by decide +kernel
theorem dX5_doMoves_4 : decode cX5_doMoves 4 = .ok (.iconst 0, 1) := by decide +kernel
theorem dX5_doMoves_5 : decode cX5_doMoves 5 = .ok (.istore_n 3, 1) := by decide +kernel
theorem dX5_doMoves_6 : decode cX5_doMoves 6 = .ok (.iload_n 3, 1) := by decide +kernel
theorem dX5_doMoves_7 : decode cX5_doMoves 7 = .ok (.bipush 120, 2) := by decide +kernel
theorem dX5_doMoves_9 : decode cX5_doMoves 9 = .ok (.if_icmp .ge 42, 3) := by decide +kernel
theorem dX5_doMoves_12 : decode cX5_doMoves 12 = .ok (.iload_n 2, 1) := by decide +kernel
theorem dX5_doMoves_13 : decode cX5_doMoves 13 = .ok (.aload_n 0, 1) := by decide +kernel
theorem dX5_doMoves_14 : decode cX5_doMoves 14 = .ok (.getfield 10, 3) := by decide +kernel
theorem dX5_doMoves_17 : decode cX5_doMoves 17 = .ok (.getfield 57, 3) := by decide +kernel
theorem dX5_doMoves_20 : decode cX5_doMoves 20 = .ok (.if_icmp .ge 31, 3) := by decide +kernel
theorem dX5_doMoves_23 : decode cX5_doMoves 23 = .ok (.aload_n 0, 1) := by decide +kernel
theorem dX5_doMoves_24 : decode cX5_doMoves 24 = .ok (.iload_n 2, 1) := by decide +kernel
theorem dX5_doMoves_25 : decode cX5_doMoves 25 = .ok (.invokevirtual 86, 3) := by decide +kernel
theorem dX5_doMoves_28 : decode cX5_doMoves 28 = .ok (.ifCond .ne 6, 3) := by decide +kernel
theorem dX5_doMoves_31 : decode cX5_doMoves 31 = .ok (.iinc 1 1, 3) := by decide +kernel
theorem dX5_doMoves_34 : decode cX5_doMoves 34 = .ok (.iload_n 2, 1) := by decide +kernel
theorem dX5_doMoves_35 : decode cX5_doMoves 35 = .ok (.aload_n 0, 1) := by decide +kernel
theorem dX5_doMoves_36 : decode cX5_doMoves 36 = .ok (.getfield 10, 3) := by decide +kernel
theorem dX5_doMoves_39 : decode cX5_doMoves 39 = .ok (.iload_n 2, 1) := by decide +kernel
theorem dX5_doMoves_40 : decode cX5_doMoves 40 = .ok (.invokevirtual 90, 3) := by decide +kernel
theorem dX5_doMoves_43 : decode cX5_doMoves 43 = .ok (.iadd, 1) := by decide +kernel
theorem dX5_doMoves_44 : decode cX5_doMoves 44 = .ok (.istore_n 2, 1) := by decide +kernel
theorem dX5_doMoves_45 : decode cX5_doMoves 45 = .ok (.iinc 3 1, 3) := by decide +kernel
theorem dX5_doMoves_48 : decode cX5_doMoves 48 = .ok (.goto (-42), 3) := by decide +kernel
theorem dX5_doMoves_51 : decode cX5_doMoves 51 = .ok (.iload_n 1, 1) := by decide +kernel
theorem dX5_doMoves_52 : decode cX5_doMoves 52 = .ok (.ireturn, 1) := by decide +kernel
theorem dX5_doMove_0 : decode cX5_doMove 0 = .ok (.aload_n 0, 1) := by decide +kernel
theorem dX5_doMove_1 : decode cX5_doMove 1 = .ok (.getfield 10, 3) := by decide +kernel
theorem dX5_doMove_4 : decode cX5_doMove 4 = .ok (.iload_n 1, 1) := by decide +kernel
theorem dX5_doMove_5 : decode cX5_doMove 5 = .ok (.invokevirtual 94, 3) := by decide +kernel
theorem dX5_doMove_8 : decode cX5_doMove 8 = .ok (.istore_n 2, 1) := by decide +kernel
theorem dX5_doMove_9 : decode cX5_doMove 9 = .ok (.iload_n 2, 1) := by decide +kernel
theorem dX5_doMove_10 : decode cX5_doMove 10 = .ok (.iconst (-1), 1) := by decide +kernel
theorem dX5_doMove_11 : decode cX5_doMove 11 = .ok (.if_icmp .ne 13, 3) := by decide +kernel
theorem dX5_doMove_14 : decode cX5_doMove 14 = .ok (.aload_n 0, 1) := by decide +kernel
theorem dX5_doMove_15 : decode cX5_doMove 15 = .ok (.getfield 19, 3) := by decide +kernel
theorem dX5_doMove_18 : decode cX5_doMove 18 = .ok (.invokevirtual 97, 3) := by decide +kernel
theorem dX5_doMove_21 : decode cX5_doMove 21 = .ok (.goto 19, 3) := by decide +kernel
theorem dX5_doMove_24 : decode cX5_doMove 24 = .ok (.aload_n 0, 1) := by decide +kernel
theorem dX5_doMove_25 : decode cX5_doMove 25 = .ok (.getfield 19, 3) := by decide +kernel
theorem dX5_doMove_28 : decode cX5_doMove 28 = .ok (.iload_n 2, 1) := by decide +kernel
theorem dX5_doMove_29 : decode cX5_doMove 29 = .ok (.aload_n 0, 1) := by decide +kernel
theorem dX5_doMove_30 : decode cX5_doMove 30 = .ok (.getfield 10, 3) := by decide +kernel
theorem dX5_doMove_33 : decode cX5_doMove 33 = .ok (.iload_n 1, 1) := by decide +kernel
theorem dX5_doMove_34 : decode cX5_doMove 34 = .ok (.invokevirtual 101, 3) := by decide +kernel
theorem dX5_doMove_37 : decode cX5_doMove 37 = .ok (.invokevirtual 104, 3) := by decide +kernel
theorem dX5_doMove_40 : decode cX5_doMove 40 = .ok (.ireturn, 1) := by decide +kernel
theorem dX5_about_0 : decode cX5_about 0 = .ok (.iload_n 1, 1) := by decide +kernel
theorem dX5_about_1 : decode cX5_about 1 = .ok (.ifCond .lt 9, 3) := by decide +kernel
theorem dX5_about_4 : decode cX5_about 4 = .ok (.iload_n 1, 1) := by decide +kernel
theorem dX5_about_5 : decode cX5_about 5 = .ok (.bipush 11, 2) := by decide +kernel
theorem dX5_about_7 : decode cX5_about 7 = .ok (.if_icmp .le 13, 3) := by decide +kernel
theorem dX5_about_10 : decode cX5_about 10 = .ok (.new 41, 3) := by decide +kernel
theorem dX5_about_13 : decode cX5_about 13 = .ok (.dup, 1) := by decide +kernel
theorem dX5_about_14 : decode cX5_about 14 = .ok (.ldc 108, 2) := by decide +kernel
theorem dX5_about_16 : decode cX5_about 16 = .ok (.invokespecial 45, 3) := by decide +kernel
theorem dX5_about_19 : decode cX5_about 19 = .ok (.athrow, 1) := by decide +kernel
theorem dX5_about_20 : decode cX5_about 20 = .ok (.aload_n 0, 1) := by decide +kernel
theorem dX5_about_21 : decode cX5_about 21 = .ok (.getfield 19, 3) := by decide +kernel
theorem dX5_about_24 : decode cX5_about 24 = .ok (.iload_n 1, 1) := by decide +kernel
theorem dX5_about_25 : decode cX5_about 25 = .ok (.invokevirtual 110, 3) := by decide +kernel
theorem dX5_about_28 : decode cX5_about 28 = .ok (.ireturn, 1) := by decide +kernel
theorem dX5_player_0 : decode cX5_player 0 = .ok (.aload_n 0, 1) := by decide +kernel
theorem dX5_player_1 : decode cX5_player 1 = .ok (.getfield 19, 3) := by decide +kernel
theorem dX5_player_4 : decode cX5_player 4 = .ok (.iload_n 1, 1) := by decide +kernel
theorem dX5_player_5 : decode cX5_player 5 = .ok (.invokevirtual 113, 3) := by decide +kernel
theorem dX5_player_8 : decode cX5_player 8 = .ok (.ifCond .ne 13, 3) := by decide +kernel
theorem dX5_player_11 : decode cX5_player 11 = .ok (.new 116, 3) := by decide +kernel
theorem dX5_player_14 : decode cX5_player 14 = .ok (.dup, 1) := by decide +kernel
theorem dX5_player_15 : decode cX5_player 15 = .ok (.ldc 118, 2) := by decide +kernel
theorem dX5_player_17 : decode cX5_player 17 = .ok (.invokespecial 120, 3) := by decide +kernel
theorem dX5_player_20 : decode cX5_player 20 = .ok (.athrow, 1) := by decide +kernel
theorem dX5_player_21 : decode cX5_player 21 = .ok (.iload_n 2, 1) := by decide +kernel
theorem dX5_player_22 : decode cX5_player 22 = .ok (.ifCond .lt 9, 3) := by decide +kernel
theorem dX5_player_25 : decode cX5_player 25 = .ok (.iload_n 2, 1) := by decide +kernel
theorem dX5_player_26 : decode cX5_player 26 = .ok (.bipush 8, 2) := by decide +kernel
theorem dX5_player_28 : decode cX5_player 28 = .ok (.if_icmp .le 13, 3) := by decide +kernel
theorem dX5_player_31 : decode cX5_player 31 = .ok (.new 41, 3) := by decide +kernel
theorem dX5_player_34 : decode cX5_player 34 = .ok (.dup, 1) := by decide +kernel
theorem dX5_player_35 : decode cX5_player 35 = .ok (.ldc 121, 2) := by decide +kernel
theorem dX5_player_37 : decode cX5_player 37 = .ok (.invokespecial 45, 3) := by decide +kernel
theorem dX5_player_40 : decode cX5_player 40 = .ok (.athrow, 1) := by decide +kernel
theorem dX5_player_41 : decode cX5_player 41 = .ok (.aload_n 0, 1) := by decide +kernel
theorem dX5_player_42 : decode cX5_player 42 = .ok (.getfield 19, 3) := by decide +kernel
theorem dX5_player_45 : decode cX5_player 45 = .ok (.getfield 123, 3) := by decide +kernel
theorem dX5_player_48 : decode cX5_player 48 = .ok (.iload_n 1, 1) := by decide +kernel
theorem dX5_player_49 : decode cX5_player 49 = .ok (.aaload, 1) := by decide +kernel
theorem dX5_player_50 : decode cX5_player 50 = .ok (.iload_n 2, 1) := by decide +kernel
theorem dX5_player_51 : decode cX5_player 51 = .ok (.invokevirtual 126, 3) := by decide +kernel
theorem dX5_player_54 : decode cX5_player 54 = .ok (.ireturn, 1) := by decide +kernel
theorem dX5_worker_0 : decode cX5_worker 0 = .ok (.iload_n 1, 1) := by decide +kernel
theorem dX5_worker_1 : decode cX5_worker 1 = .ok (.invokestatic 129, 3) := by decide +kernel
theorem dX5_worker_4 : decode cX5_worker 4 = .ok (.ifCond .ne 13, 3) := by decide +kernel
theorem dX5_worker_7 : decode cX5_worker 7 = .ok (.new 116, 3) := by decide +kernel
theorem dX5_worker_10 : decode cX5_worker 10 = .ok (.dup, 1) := by decide +kernel
theorem dX5_worker_11 : decode cX5_worker 11 = .ok (.ldc 132, 2) := by decide +kernel
theorem dX5_worker_13 : decode cX5_worker 13 = .ok (.invokespecial 120, 3) := by decide +kernel
theorem dX5_worker_16 : decode cX5_worker 16 = .ok (.athrow, 1) := by decide +kernel
theorem dX5_worker_17 : decode cX5_worker 17 = .ok (.iload_n 2, 1) := by decide +kernel
theorem dX5_worker_18 : decode cX5_worker 18 = .ok (.ifCond .ge 13, 3) := by decide +kernel
theorem dX5_worker_21 : decode cX5_worker 21 = .ok (.new 41, 3) := by decide +kernel
theorem dX5_worker_24 : decode cX5_worker 24 = .ok (.dup, 1) := by decide +kernel
theorem dX5_worker_25 : decode cX5_worker 25 = .ok (.ldc 134, 2) := by decide +kernel
theorem dX5_worker_27 : decode cX5_worker 27 = .ok (.invokespecial 45, 3) := by decide +kernel
theorem dX5_worker_30 : decode cX5_worker 30 = .ok (.athrow, 1) := by decide +kernel
theorem dX5_worker_31 : decode cX5_worker 31 = .ok (.aload_n 0, 1) := by decide +kernel
theorem dX5_worker_32 : decode cX5_worker 32 = .ok (.getfield 19, 3) := by decide +kernel
theorem dX5_worker_35 : decode cX5_worker 35 = .ok (.getfield 136, 3) := by decide +kernel
theorem dX5_worker_38 : decode cX5_worker 38 = .ok (.iload_n 1, 1) := by decide +kernel
theorem dX5_worker_39 : decode cX5_worker 39 = .ok (.aaload, 1) := by decide +kernel
theorem dX5_worker_40 : decode cX5_worker 40 = .ok (.iload_n 2, 1) := by decide +kernel
theorem dX5_worker_41 : decode cX5_worker 41 = .ok (.invokevirtual 140, 3) := by decide +kernel
theorem dX5_worker_44 : decode cX5_worker 44 = .ok (.ireturn, 1) := by decide +kernel
theorem dX5_setting_0 : decode cX5_setting 0 = .ok (.iload_n 1, 1) := by decide +kernel
theorem dX5_setting_1 : decode cX5_setting 1 = .ok (.invokestatic 145, 3) := by decide +kernel
theorem dX5_setting_4 : decode cX5_setting 4 = .ok (.ifCond .ne 13, 3) := by decide +kernel
theorem dX5_setting_7 : decode cX5_setting 7 = .ok (.new 41, 3) := by decide +kernel
theorem dX5_setting_10 : decode cX5_setting 10 = .ok (.dup, 1) := by decide +kernel
theorem dX5_setting_11 : decode cX5_setting 11 = .ok (.ldc 148, 2) := by decide +kernel
theorem dX5_setting_13 : decode cX5_setting 13 = .ok (.invokespecial 45, 3) := by decide +kernel
theorem dX5_setting_16 : decode cX5_setting 16 = .ok (.athrow, 1) := by decide +kernel
theorem dX5_setting_17 : decode cX5_setting 17 = .ok (.aload_n 0, 1) := by decide +kernel
theorem dX5_setting_18 : decode cX5_setting 18 = .ok (.getfield 19, 3) := by decide +kernel
theorem dX5_setting_21 : decode cX5_setting 21 = .ok (.getfield 150, 3) := by decide +kernel
theorem dX5_setting_24 : decode cX5_setting 24 = .ok (.iload_n 1, 1) := by decide +kernel
theorem dX5_setting_25 : decode cX5_setting 25 = .ok (.iaload, 1) := by decide +kernel
theorem dX5_setting_26 : decode cX5_setting 26 = .ok (.ireturn, 1) := by decide +kernel
theorem dX5_begin_0 : decode cX5_begin 0 = .ok (.iload_n 1, 1) := by decide +kernel
theorem dX5_begin_1 : decode cX5_begin 1 = .ok (.iconst 2, 1) := by decide +kernel
theorem dX5_begin_2 : decode cX5_begin 2 = .ok (.if_icmp .lt 8, 3) := by decide +kernel
theorem dX5_begin_5 : decode cX5_begin 5 = .ok (.iload_n 1, 1) := by decide +kernel
theorem dX5_begin_6 : decode cX5_begin 6 = .ok (.iconst 4, 1) := by decide +kernel
theorem dX5_begin_7 : decode cX5_begin 7 = .ok (.if_icmp .le 13, 3) := by decide +kernel
theorem dX5_begin_10 : decode cX5_begin 10 = .ok (.new 41, 3) := by decide +kernel
theorem dX5_begin_13 : decode cX5_begin 13 = .ok (.dup, 1) := by decide +kernel
theorem dX5_begin_14 : decode cX5_begin 14 = .ok (.ldc 154, 2) := by decide +kernel
theorem dX5_begin_16 : decode cX5_begin 16 = .ok (.invokespecial 45, 3) := by decide +kernel
theorem dX5_begin_19 : decode cX5_begin 19 = .ok (.athrow, 1) := by decide +kernel
theorem dX5_begin_20 : decode cX5_begin 20 = .ok (.aload_n 0, 1) := by decide +kernel
theorem dX5_begin_21 : decode cX5_begin 21 = .ok (.getfield 29, 3) := by decide +kernel
theorem dX5_begin_24 : decode cX5_begin 24 = .ok (.aload_n 0, 1) := by decide +kernel
theorem dX5_begin_25 : decode cX5_begin 25 = .ok (.getfield 19, 3) := by decide +kernel
theorem dX5_begin_28 : decode cX5_begin 28 = .ok (.invokevirtual 156, 3) := by decide +kernel
theorem dX5_begin_31 : decode cX5_begin 31 = .ok (.aload_n 0, 1) := by decide +kernel
theorem dX5_begin_32 : decode cX5_begin 32 = .ok (.getfield 19, 3) := by decide +kernel
theorem dX5_begin_35 : decode cX5_begin 35 = .ok (.iload_n 1, 1) := by decide +kernel
theorem dX5_begin_36 : decode cX5_begin 36 = .ok (.lload_n 2, 1) := by decide +kernel
theorem dX5_begin_37 : decode cX5_begin 37 = .ok (.invokevirtual 79, 3) := by decide +kernel
theorem dX5_begin_40 : decode cX5_begin 40 = .ok (.aload_n 0, 1) := by decide +kernel
theorem dX5_begin_41 : decode cX5_begin 41 = .ok (.getfield 19, 3) := by decide +kernel
theorem dX5_begin_44 : decode cX5_begin 44 = .ok (.getfield 160, 3) := by decide +kernel
theorem dX5_begin_47 : decode cX5_begin 47 = .ok (.ireturn, 1) := by decide +kernel
theorem dX5_place_0 : decode cX5_place 0 = .ok (.iload_n 1, 1) := by decide +kernel
theorem dX5_place_1 : decode cX5_place 1 = .ok (.invokestatic 129, 3) := by decide +kernel
theorem dX5_place_4 : decode cX5_place 4 = .ok (.ifCond .ne 13, 3) := by decide +kernel
theorem dX5_place_7 : decode cX5_place 7 = .ok (.new 116, 3) := by decide +kernel
theorem dX5_place_10 : decode cX5_place 10 = .ok (.dup, 1) := by decide +kernel
theorem dX5_place_11 : decode cX5_place 11 = .ok (.ldc 132, 2) := by decide +kernel
theorem dX5_place_13 : decode cX5_place 13 = .ok (.invokespecial 120, 3) := by decide +kernel
theorem dX5_place_16 : decode cX5_place 16 = .ok (.athrow, 1) := by decide +kernel
theorem dX5_place_17 : decode cX5_place 17 = .ok (.iload_n 1, 1) := by decide +kernel
theorem dX5_place_18 : decode cX5_place 18 = .ok (.iload_n 2, 1) := by decide +kernel
theorem dX5_place_19 : decode cX5_place 19 = .ok (.invokestatic 163, 3) := by decide +kernel
theorem dX5_place_22 : decode cX5_place 22 = .ok (.ifCond .ne 13, 3) := by decide +kernel
theorem dX5_place_25 : decode cX5_place 25 = .ok (.new 41, 3) := by decide +kernel
theorem dX5_place_28 : decode cX5_place 28 = .ok (.dup, 1) := by decide +kernel
theorem dX5_place_29 : decode cX5_place 29 = .ok (.ldc 166, 2) := by decide +kernel
theorem dX5_place_31 : decode cX5_place 31 = .ok (.invokespecial 45, 3) := by decide +kernel
theorem dX5_place_34 : decode cX5_place 34 = .ok (.athrow, 1) := by decide +kernel
theorem dX5_place_35 : decode cX5_place 35 = .ok (.aload_n 0, 1) := by decide +kernel
theorem dX5_place_36 : decode cX5_place 36 = .ok (.getfield 19, 3) := by decide +kernel
theorem dX5_place_39 : decode cX5_place 39 = .ok (.iload_n 1, 1) := by decide +kernel
theorem dX5_place_40 : decode cX5_place 40 = .ok (.iload_n 2, 1) := by decide +kernel
theorem dX5_place_41 : decode cX5_place 41 = .ok (.invokevirtual 168, 3) := by decide +kernel
theorem dX5_place_44 : decode cX5_place 44 = .ok (.ifCond .ne 13, 3) := by decide +kernel
theorem dX5_place_47 : decode cX5_place 47 = .ok (.new 52, 3) := by decide +kernel
theorem dX5_place_50 : decode cX5_place 50 = .ok (.dup, 1) := by decide +kernel
theorem dX5_place_51 : decode cX5_place 51 = .ok (.ldc 171, 2) := by decide +kernel
theorem dX5_place_53 : decode cX5_place 53 = .ok (.invokespecial 56, 3) := by decide +kernel
theorem dX5_place_56 : decode cX5_place 56 = .ok (.athrow, 1) := by decide +kernel
theorem dX5_place_57 : decode cX5_place 57 = .ok (.aload_n 0, 1) := by decide +kernel
theorem dX5_place_58 : decode cX5_place 58 = .ok (.getfield 19, 3) := by decide +kernel
theorem dX5_place_61 : decode cX5_place 61 = .ok (.iload_n 1, 1) := by decide +kernel
theorem dX5_place_62 : decode cX5_place 62 = .ok (.invokevirtual 173, 3) := by decide +kernel
theorem dX5_place_65 : decode cX5_place 65 = .ok (.istore_n 3, 1) := by decide +kernel
theorem dX5_place_66 : decode cX5_place 66 = .ok (.aload_n 0, 1) := by decide +kernel
theorem dX5_place_67 : decode cX5_place 67 = .ok (.getfield 29, 3) := by decide +kernel
theorem dX5_place_70 : decode cX5_place 70 = .ok (.aload_n 0, 1) := by decide +kernel
theorem dX5_place_71 : decode cX5_place 71 = .ok (.getfield 19, 3) := by decide +kernel
theorem dX5_place_74 : decode cX5_place 74 = .ok (.invokevirtual 156, 3) := by decide +kernel
theorem dX5_place_77 : decode cX5_place 77 = .ok (.aload_n 0, 1) := by decide +kernel
theorem dX5_place_78 : decode cX5_place 78 = .ok (.getfield 19, 3) := by decide +kernel
theorem dX5_place_81 : decode cX5_place 81 = .ok (.iload_n 1, 1) := by decide +kernel
theorem dX5_place_82 : decode cX5_place 82 = .ok (.iload_n 2, 1) := by decide +kernel
theorem dX5_place_83 : decode cX5_place 83 = .ok (.invokevirtual 104, 3) := by decide +kernel
theorem dX5_place_86 : decode cX5_place 86 = .ok (.pop, 1) := by decide +kernel
theorem dX5_place_87 : decode cX5_place 87 = .ok (.iload_n 3, 1) := by decide +kernel
theorem dX5_place_88 : decode cX5_place 88 = .ok (.ireturn, 1) := by decide +kernel
theorem dX5_pass_0 : decode cX5_pass 0 = .ok (.aload_n 0, 1) := by decide +kernel
theorem dX5_pass_1 : decode cX5_pass 1 = .ok (.getfield 19, 3) := by decide +kernel
theorem dX5_pass_4 : decode cX5_pass 4 = .ok (.invokevirtual 176, 3) := by decide +kernel
theorem dX5_pass_7 : decode cX5_pass 7 = .ok (.ifCond .ne 13, 3) := by decide +kernel
theorem dX5_pass_10 : decode cX5_pass 10 = .ok (.new 52, 3) := by decide +kernel
theorem dX5_pass_13 : decode cX5_pass 13 = .ok (.dup, 1) := by decide +kernel
theorem dX5_pass_14 : decode cX5_pass 14 = .ok (.ldc 179, 2) := by decide +kernel
theorem dX5_pass_16 : decode cX5_pass 16 = .ok (.invokespecial 56, 3) := by decide +kernel
theorem dX5_pass_19 : decode cX5_pass 19 = .ok (.athrow, 1) := by decide +kernel
theorem dX5_pass_20 : decode cX5_pass 20 = .ok (.aload_n 0, 1) := by decide +kernel
theorem dX5_pass_21 : decode cX5_pass 21 = .ok (.getfield 29, 3) := by decide +kernel
theorem dX5_pass_24 : decode cX5_pass 24 = .ok (.aload_n 0, 1) := by decide +kernel
theorem dX5_pass_25 : decode cX5_pass 25 = .ok (.getfield 19, 3) := by decide +kernel
theorem dX5_pass_28 : decode cX5_pass 28 = .ok (.invokevirtual 156, 3) := by decide +kernel
theorem dX5_pass_31 : decode cX5_pass 31 = .ok (.aload_n 0, 1) := by decide +kernel
theorem dX5_pass_32 : decode cX5_pass 32 = .ok (.getfield 19, 3) := by decide +kernel
theorem dX5_pass_35 : decode cX5_pass 35 = .ok (.invokevirtual 97, 3) := by decide +kernel
theorem dX5_pass_38 : decode cX5_pass 38 = .ok (.pop, 1) := by decide +kernel
theorem dX5_pass_39 : decode cX5_pass 39 = .ok (.aload_n 0, 1) := by decide +kernel
theorem dX5_pass_40 : decode cX5_pass 40 = .ok (.getfield 19, 3) := by decide +kernel
theorem dX5_pass_43 : decode cX5_pass 43 = .ok (.invokevirtual 181, 3) := by decide +kernel
theorem dX5_pass_46 : decode cX5_pass 46 = .ok (.ireturn, 1) := by decide +kernel
theorem dX5_play_0 : decode cX5_play 0 = .ok (.aload_n 0, 1) := by decide +kernel
theorem dX5_play_1 : decode cX5_play 1 = .ok (.getfield 19, 3) := by decide +kernel
theorem dX5_play_4 : decode cX5_play 4 = .ok (.invokevirtual 176, 3) := by decide +kernel
theorem dX5_play_7 : decode cX5_play 7 = .ok (.ifCond .ne 13, 3) := by decide +kernel
theorem dX5_play_10 : decode cX5_play 10 = .ok (.new 52, 3) := by decide +kernel
theorem dX5_play_13 : decode cX5_play 13 = .ok (.dup, 1) := by decide +kernel
theorem dX5_play_14 : decode cX5_play 14 = .ok (.ldc 179, 2) := by decide +kernel
theorem dX5_play_16 : decode cX5_play 16 = .ok (.invokespecial 56, 3) := by decide +kernel
theorem dX5_play_19 : decode cX5_play 19 = .ok (.athrow, 1) := by decide +kernel
theorem dX5_play_20 : decode cX5_play 20 = .ok (.aload_n 0, 1) := by decide +kernel
theorem dX5_play_21 : decode cX5_play 21 = .ok (.getfield 29, 3) := by decide +kernel
theorem dX5_play_24 : decode cX5_play 24 = .ok (.aload_n 0, 1) := by decide +kernel
theorem dX5_play_25 : decode cX5_play 25 = .ok (.getfield 19, 3) := by decide +kernel
theorem dX5_play_28 : decode cX5_play 28 = .ok (.invokevirtual 156, 3) := by decide +kernel
theorem dX5_play_31 : decode cX5_play 31 = .ok (.aload_n 0, 1) := by decide +kernel
theorem dX5_play_32 : decode cX5_play 32 = .ok (.getfield 19, 3) := by decide +kernel
theorem dX5_play_35 : decode cX5_play 35 = .ok (.invokevirtual 184, 3) := by decide +kernel
theorem dX5_play_38 : decode cX5_play 38 = .ok (.ireturn, 1) := by decide +kernel
theorem dX5_set_0 : decode cX5_set 0 = .ok (.iload_n 1, 1) := by decide +kernel
theorem dX5_set_1 : decode cX5_set 1 = .ok (.iload_n 2, 1) := by decide +kernel
theorem dX5_set_2 : decode cX5_set 2 = .ok (.invokestatic 187, 3) := by decide +kernel
theorem dX5_set_5 : decode cX5_set 5 = .ok (.ifCond .ne 13, 3) := by decide +kernel
theorem dX5_set_8 : decode cX5_set 8 = .ok (.new 41, 3) := by decide +kernel
theorem dX5_set_11 : decode cX5_set 11 = .ok (.dup, 1) := by decide +kernel
theorem dX5_set_12 : decode cX5_set 12 = .ok (.ldc 190, 2) := by decide +kernel
theorem dX5_set_14 : decode cX5_set 14 = .ok (.invokespecial 45, 3) := by decide +kernel
theorem dX5_set_17 : decode cX5_set 17 = .ok (.athrow, 1) := by decide +kernel
theorem dX5_set_18 : decode cX5_set 18 = .ok (.aload_n 0, 1) := by decide +kernel
theorem dX5_set_19 : decode cX5_set 19 = .ok (.getfield 29, 3) := by decide +kernel
theorem dX5_set_22 : decode cX5_set 22 = .ok (.aload_n 0, 1) := by decide +kernel
theorem dX5_set_23 : decode cX5_set 23 = .ok (.getfield 19, 3) := by decide +kernel
theorem dX5_set_26 : decode cX5_set 26 = .ok (.invokevirtual 156, 3) := by decide +kernel
theorem dX5_set_29 : decode cX5_set 29 = .ok (.aload_n 0, 1) := by decide +kernel
theorem dX5_set_30 : decode cX5_set 30 = .ok (.getfield 19, 3) := by decide +kernel
theorem dX5_set_33 : decode cX5_set 33 = .ok (.getfield 150, 3) := by decide +kernel
theorem dX5_set_36 : decode cX5_set 36 = .ok (.iload_n 1, 1) := by decide +kernel
theorem dX5_set_37 : decode cX5_set 37 = .ok (.iaload, 1) := by decide +kernel
theorem dX5_set_38 : decode cX5_set 38 = .ok (.istore_n 3, 1) := by decide +kernel
theorem dX5_set_39 : decode cX5_set 39 = .ok (.aload_n 0, 1) := by decide +kernel
theorem dX5_set_40 : decode cX5_set 40 = .ok (.getfield 19, 3) := by decide +kernel
theorem dX5_set_43 : decode cX5_set 43 = .ok (.getfield 150, 3) := by decide +kernel
theorem dX5_set_46 : decode cX5_set 46 = .ok (.iload_n 1, 1) := by decide +kernel
theorem dX5_set_47 : decode cX5_set 47 = .ok (.iload_n 2, 1) := by decide +kernel
theorem dX5_set_48 : decode cX5_set 48 = .ok (.iastore, 1) := by decide +kernel
theorem dX5_set_49 : decode cX5_set 49 = .ok (.iload_n 3, 1) := by decide +kernel
theorem dX5_set_50 : decode cX5_set 50 = .ok (.ireturn, 1) := by decide +kernel
theorem dX5_undo_0 : decode cX5_undo 0 = .ok (.aload_n 0, 1) := by decide +kernel
theorem dX5_undo_1 : decode cX5_undo 1 = .ok (.getfield 29, 3) := by decide +kernel
theorem dX5_undo_4 : decode cX5_undo 4 = .ok (.getfield 192, 3) := by decide +kernel
theorem dX5_undo_7 : decode cX5_undo 7 = .ok (.ifCond .ne 13, 3) := by decide +kernel
theorem dX5_undo_10 : decode cX5_undo 10 = .ok (.new 52, 3) := by decide +kernel
theorem dX5_undo_13 : decode cX5_undo 13 = .ok (.dup, 1) := by decide +kernel
theorem dX5_undo_14 : decode cX5_undo 14 = .ok (.ldc 195, 2) := by decide +kernel
theorem dX5_undo_16 : decode cX5_undo 16 = .ok (.invokespecial 56, 3) := by decide +kernel
theorem dX5_undo_19 : decode cX5_undo 19 = .ok (.athrow, 1) := by decide +kernel
theorem dX5_undo_20 : decode cX5_undo 20 = .ok (.aload_n 0, 1) := by decide +kernel
theorem dX5_undo_21 : decode cX5_undo 21 = .ok (.getfield 29, 3) := by decide +kernel
theorem dX5_undo_24 : decode cX5_undo 24 = .ok (.aload_n 0, 1) := by decide +kernel
theorem dX5_undo_25 : decode cX5_undo 25 = .ok (.getfield 19, 3) := by decide +kernel
theorem dX5_undo_28 : decode cX5_undo 28 = .ok (.invokevirtual 197, 3) := by decide +kernel
theorem dX5_undo_31 : decode cX5_undo 31 = .ok (.aload_n 0, 1) := by decide +kernel
theorem dX5_undo_32 : decode cX5_undo 32 = .ok (.getfield 29, 3) := by decide +kernel
theorem dX5_undo_35 : decode cX5_undo 35 = .ok (.getfield 192, 3) := by decide +kernel
theorem dX5_undo_38 : decode cX5_undo 38 = .ok (.ireturn, 1) := by decide +kernel
theorem dX5_brings_0 : decode cX5_brings 0 = .ok (.iload_n 1, 1) := by decide +kernel
theorem dX5_brings_1 : decode cX5_brings 1 = .ok (.invokestatic 129, 3) := by decide +kernel
theorem dX5_brings_4 : decode cX5_brings 4 = .ok (.ifCond .ne 13, 3) := by decide +kernel
theorem dX5_brings_7 : decode cX5_brings 7 = .ok (.new 116, 3) := by decide +kernel
theorem dX5_brings_10 : decode cX5_brings 10 = .ok (.dup, 1) := by decide +kernel
theorem dX5_brings_11 : decode cX5_brings 11 = .ok (.ldc 132, 2) := by decide +kernel
theorem dX5_brings_13 : decode cX5_brings 13 = .ok (.invokespecial 120, 3) := by decide +kernel
theorem dX5_brings_16 : decode cX5_brings 16 = .ok (.athrow, 1) := by decide +kernel
theorem dX5_brings_17 : decode cX5_brings 17 = .ok (.iload_n 1, 1) := by decide +kernel
theorem dX5_brings_18 : decode cX5_brings 18 = .ok (.iload_n 2, 1) := by decide +kernel
theorem dX5_brings_19 : decode cX5_brings 19 = .ok (.invokestatic 163, 3) := by decide +kernel
theorem dX5_brings_22 : decode cX5_brings 22 = .ok (.ifCond .ne 13, 3) := by decide +kernel
theorem dX5_brings_25 : decode cX5_brings 25 = .ok (.new 41, 3) := by decide +kernel
theorem dX5_brings_28 : decode cX5_brings 28 = .ok (.dup, 1) := by decide +kernel
theorem dX5_brings_29 : decode cX5_brings 29 = .ok (.ldc 166, 2) := by decide +kernel
theorem dX5_brings_31 : decode cX5_brings 31 = .ok (.invokespecial 45, 3) := by decide +kernel
theorem dX5_brings_34 : decode cX5_brings 34 = .ok (.athrow, 1) := by decide +kernel
theorem dX5_brings_35 : decode cX5_brings 35 = .ok (.aload_n 0, 1) := by decide +kernel
theorem dX5_brings_36 : decode cX5_brings 36 = .ok (.getfield 19, 3) := by decide +kernel
theorem dX5_brings_39 : decode cX5_brings 39 = .ok (.iload_n 1, 1) := by decide +kernel
theorem dX5_brings_40 : decode cX5_brings 40 = .ok (.iload_n 2, 1) := by decide +kernel
theorem dX5_brings_41 : decode cX5_brings 41 = .ok (.invokevirtual 200, 3) := by decide +kernel
theorem dX5_brings_44 : decode cX5_brings 44 = .ok (.ireturn, 1) := by decide +kernel
theorem dX5_bumps_0 : decode cX5_bumps 0 = .ok (.iload_n 1, 1) := by decide +kernel
theorem dX5_bumps_1 : decode cX5_bumps 1 = .ok (.invokestatic 129, 3) := by decide +kernel
theorem dX5_bumps_4 : decode cX5_bumps 4 = .ok (.ifCond .ne 13, 3) := by decide +kernel
theorem dX5_bumps_7 : decode cX5_bumps 7 = .ok (.new 116, 3) := by decide +kernel
theorem dX5_bumps_10 : decode cX5_bumps 10 = .ok (.dup, 1) := by decide +kernel
theorem dX5_bumps_11 : decode cX5_bumps 11 = .ok (.ldc 132, 2) := by decide +kernel
theorem dX5_bumps_13 : decode cX5_bumps 13 = .ok (.invokespecial 120, 3) := by decide +kernel
theorem dX5_bumps_16 : decode cX5_bumps 16 = .ok (.athrow, 1) := by decide +kernel
theorem dX5_bumps_17 : decode cX5_bumps 17 = .ok (.aload_n 0, 1) := by decide +kernel
theorem dX5_bumps_18 : decode cX5_bumps 18 = .ok (.getfield 19, 3) := by decide +kernel
theorem dX5_bumps_21 : decode cX5_bumps 21 = .ok (.invokevirtual 176, 3) := by decide +kernel
theorem dX5_bumps_24 : decode cX5_bumps 24 = .ok (.ifCond .eq 14, 3) := by decide +kernel
theorem dX5_bumps_27 : decode cX5_bumps 27 = .ok (.aload_n 0, 1) := by decide +kernel
theorem dX5_bumps_28 : decode cX5_bumps 28 = .ok (.getfield 19, 3) := by decide +kernel
theorem dX5_bumps_31 : decode cX5_bumps 31 = .ok (.iload_n 1, 1) := by decide +kernel
theorem dX5_bumps_32 : decode cX5_bumps 32 = .ok (.invokevirtual 173, 3) := by decide +kernel
theorem dX5_bumps_35 : decode cX5_bumps 35 = .ok (.goto 4, 3) := by decide +kernel
theorem dX5_bumps_38 : decode cX5_bumps 38 = .ok (.iconst (-1), 1) := by decide +kernel
theorem dX5_bumps_39 : decode cX5_bumps 39 = .ok (.ireturn, 1) := by decide +kernel
theorem dX5_best_0 : decode cX5_best 0 = .ok (.iload_n 1, 1) := by decide +kernel
theorem dX5_best_1 : decode cX5_best 1 = .ok (.ifCond .lt 8, 3) := by decide +kernel
theorem dX5_best_4 : decode cX5_best 4 = .ok (.iload_n 1, 1) := by decide +kernel
theorem dX5_best_5 : decode cX5_best 5 = .ok (.iconst 2, 1) := by decide +kernel
theorem dX5_best_6 : decode cX5_best 6 = .ok (.if_icmp .le 13, 3) := by decide +kernel
theorem dX5_best_9 : decode cX5_best 9 = .ok (.new 41, 3) := by decide +kernel
theorem dX5_best_12 : decode cX5_best 12 = .ok (.dup, 1) := by decide +kernel
theorem dX5_best_13 : decode cX5_best 13 = .ok (.ldc 148, 2) := by decide +kernel
theorem dX5_best_15 : decode cX5_best 15 = .ok (.invokespecial 45, 3) := by decide +kernel
theorem dX5_best_18 : decode cX5_best 18 = .ok (.athrow, 1) := by decide +kernel
theorem dX5_best_19 : decode cX5_best 19 = .ok (.aload_n 0, 1) := by decide +kernel
theorem dX5_best_20 : decode cX5_best 20 = .ok (.getfield 19, 3) := by decide +kernel
theorem dX5_best_23 : decode cX5_best 23 = .ok (.invokevirtual 204, 3) := by decide +kernel
theorem dX5_best_26 : decode cX5_best 26 = .ok (.ifCond .ne 5, 3) := by decide +kernel
theorem dX5_best_29 : decode cX5_best 29 = .ok (.iconst (-1), 1) := by decide +kernel
theorem dX5_best_30 : decode cX5_best 30 = .ok (.ireturn, 1) := by decide +kernel
theorem dX5_best_31 : decode cX5_best 31 = .ok (.iload_n 1, 1) := by decide +kernel
theorem dX5_best_32 : decode cX5_best 32 = .ok (.lookupswitch 44 #[(0, 28), (1, 36)], 28) := by decide +kernel
theorem dX5_best_60 : decode cX5_best 60 = .ok (.aload_n 0, 1) := by decide +kernel
theorem dX5_best_61 : decode cX5_best 61 = .ok (.getfield 19, 3) := by decide +kernel
theorem dX5_best_64 : decode cX5_best 64 = .ok (.getfield 207, 3) := by decide +kernel
theorem dX5_best_67 : decode cX5_best 67 = .ok (.ireturn, 1) := by decide +kernel
theorem dX5_best_68 : decode cX5_best 68 = .ok (.aload_n 0, 1) := by decide +kernel
theorem dX5_best_69 : decode cX5_best 69 = .ok (.getfield 19, 3) := by decide +kernel
theorem dX5_best_72 : decode cX5_best 72 = .ok (.getfield 210, 3) := by decide +kernel
theorem dX5_best_75 : decode cX5_best 75 = .ok (.ireturn, 1) := by decide +kernel
theorem dX5_best_76 : decode cX5_best 76 = .ok (.aload_n 0, 1) := by decide +kernel
theorem dX5_best_77 : decode cX5_best 77 = .ok (.getfield 19, 3) := by decide +kernel
theorem dX5_best_80 : decode cX5_best 80 = .ok (.getfield 213, 3) := by decide +kernel
theorem dX5_best_83 : decode cX5_best 83 = .ok (.ireturn, 1) := by decide +kernel
theorem dX5_loses_0 : decode cX5_loses 0 = .ok (.aload_n 0, 1) := by decide +kernel
theorem dX5_loses_1 : decode cX5_loses 1 = .ok (.getfield 19, 3) := by decide +kernel
theorem dX5_loses_4 : decode cX5_loses 4 = .ok (.iload_n 1, 1) := by decide +kernel
theorem dX5_loses_5 : decode cX5_loses 5 = .ok (.invokevirtual 113, 3) := by decide +kernel
theorem dX5_loses_8 : decode cX5_loses 8 = .ok (.ifCond .ne 13, 3) := by decide +kernel
theorem dX5_loses_11 : decode cX5_loses 11 = .ok (.new 116, 3) := by decide +kernel
theorem dX5_loses_14 : decode cX5_loses 14 = .ok (.dup, 1) := by decide +kernel
theorem dX5_loses_15 : decode cX5_loses 15 = .ok (.ldc 118, 2) := by decide +kernel
theorem dX5_loses_17 : decode cX5_loses 17 = .ok (.invokespecial 120, 3) := by decide +kernel
theorem dX5_loses_20 : decode cX5_loses 20 = .ok (.athrow, 1) := by decide +kernel
theorem dX5_loses_21 : decode cX5_loses 21 = .ok (.iload_n 2, 1) := by decide +kernel
theorem dX5_loses_22 : decode cX5_loses 22 = .ok (.invokestatic 216, 3) := by decide +kernel
theorem dX5_loses_25 : decode cX5_loses 25 = .ok (.ifCond .ne 13, 3) := by decide +kernel
theorem dX5_loses_28 : decode cX5_loses 28 = .ok (.new 41, 3) := by decide +kernel
theorem dX5_loses_31 : decode cX5_loses 31 = .ok (.dup, 1) := by decide +kernel
theorem dX5_loses_32 : decode cX5_loses 32 = .ok (.ldc 148, 2) := by decide +kernel
theorem dX5_loses_34 : decode cX5_loses 34 = .ok (.invokespecial 45, 3) := by decide +kernel
theorem dX5_loses_37 : decode cX5_loses 37 = .ok (.athrow, 1) := by decide +kernel
theorem dX5_loses_38 : decode cX5_loses 38 = .ok (.aload_n 0, 1) := by decide +kernel
theorem dX5_loses_39 : decode cX5_loses 39 = .ok (.getfield 19, 3) := by decide +kernel
theorem dX5_loses_42 : decode cX5_loses 42 = .ok (.invokevirtual 176, 3) := by decide +kernel
theorem dX5_loses_45 : decode cX5_loses 45 = .ok (.ifCond .eq 15, 3) := by decide +kernel
theorem dX5_loses_48 : decode cX5_loses 48 = .ok (.aload_n 0, 1) := by decide +kernel
theorem dX5_loses_49 : decode cX5_loses 49 = .ok (.getfield 19, 3) := by decide +kernel
theorem dX5_loses_52 : decode cX5_loses 52 = .ok (.iload_n 1, 1) := by decide +kernel
theorem dX5_loses_53 : decode cX5_loses 53 = .ok (.iload_n 2, 1) := by decide +kernel
theorem dX5_loses_54 : decode cX5_loses 54 = .ok (.invokevirtual 219, 3) := by decide +kernel
theorem dX5_loses_57 : decode cX5_loses 57 = .ok (.goto 4, 3) := by decide +kernel
theorem dX5_loses_60 : decode cX5_loses 60 = .ok (.iconst 0, 1) := by decide +kernel
theorem dX5_loses_61 : decode cX5_loses 61 = .ok (.ireturn, 1) := by decide +kernel
theorem dX5_goesOn_0 : decode cX5_goesOn 0 = .ok (.iload_n 1, 1) := by decide +kernel
theorem dX5_goesOn_1 : decode cX5_goesOn 1 = .ok (.ifCond .lt 8, 3) := by decide +kernel
theorem dX5_goesOn_4 : decode cX5_goesOn 4 = .ok (.iload_n 1, 1) := by decide +kernel
theorem dX5_goesOn_5 : decode cX5_goesOn 5 = .ok (.iconst 4, 1) := by decide +kernel
theorem dX5_goesOn_6 : decode cX5_goesOn 6 = .ok (.if_icmp .le 13, 3) := by decide +kernel
theorem dX5_goesOn_9 : decode cX5_goesOn 9 = .ok (.new 41, 3) := by decide +kernel
theorem dX5_goesOn_12 : decode cX5_goesOn 12 = .ok (.dup, 1) := by decide +kernel
theorem dX5_goesOn_13 : decode cX5_goesOn 13 = .ok (.ldc 222, 2) := by decide +kernel
theorem dX5_goesOn_15 : decode cX5_goesOn 15 = .ok (.invokespecial 45, 3) := by decide +kernel
theorem dX5_goesOn_18 : decode cX5_goesOn 18 = .ok (.athrow, 1) := by decide +kernel
theorem dX5_goesOn_19 : decode cX5_goesOn 19 = .ok (.aload_n 0, 1) := by decide +kernel
theorem dX5_goesOn_20 : decode cX5_goesOn 20 = .ok (.getfield 23, 3) := by decide +kernel
theorem dX5_goesOn_23 : decode cX5_goesOn 23 = .ok (.aload_n 0, 1) := by decide +kernel
theorem dX5_goesOn_24 : decode cX5_goesOn 24 = .ok (.getfield 19, 3) := by decide +kernel
theorem dX5_goesOn_27 : decode cX5_goesOn 27 = .ok (.invokevirtual 224, 3) := by decide +kernel
theorem dX5_goesOn_30 : decode cX5_goesOn 30 = .ok (.aload_n 0, 1) := by decide +kernel
theorem dX5_goesOn_31 : decode cX5_goesOn 31 = .ok (.getfield 23, 3) := by decide +kernel
theorem dX5_goesOn_34 : decode cX5_goesOn 34 = .ok (.invokevirtual 227, 3) := by decide +kernel
theorem dX5_goesOn_37 : decode cX5_goesOn 37 = .ok (.iload_n 1, 1) := by decide +kernel
theorem dX5_goesOn_38 : decode cX5_goesOn 38 = .ok (.iconst 4, 1) := by decide +kernel
theorem dX5_goesOn_39 : decode cX5_goesOn 39 = .ok (.if_icmp .ne 11, 3) := by decide +kernel
theorem dX5_goesOn_42 : decode cX5_goesOn 42 = .ok (.aload_n 0, 1) := by decide +kernel
theorem dX5_goesOn_43 : decode cX5_goesOn 43 = .ok (.getfield 23, 3) := by decide +kernel
theorem dX5_goesOn_46 : decode cX5_goesOn 46 = .ok (.invokevirtual 230, 3) := by decide +kernel
theorem dX5_goesOn_49 : decode cX5_goesOn 49 = .ok (.ireturn, 1) := by decide +kernel
theorem dX5_goesOn_50 : decode cX5_goesOn 50 = .ok (.aload_n 0, 1) := by decide +kernel
theorem dX5_goesOn_51 : decode cX5_goesOn 51 = .ok (.getfield 23, 3) := by decide +kernel
theorem dX5_goesOn_54 : decode cX5_goesOn 54 = .ok (.iload_n 1, 1) := by decide +kernel
theorem dX5_goesOn_55 : decode cX5_goesOn 55 = .ok (.invokevirtual 113, 3) := by decide +kernel
theorem dX5_goesOn_58 : decode cX5_goesOn 58 = .ok (.ifCond .eq 18, 3) := by decide +kernel
theorem dX5_goesOn_61 : decode cX5_goesOn 61 = .ok (.aload_n 0, 1) := by decide +kernel
theorem dX5_goesOn_62 : decode cX5_goesOn 62 = .ok (.getfield 23, 3) := by decide +kernel
theorem dX5_goesOn_65 : decode cX5_goesOn 65 = .ok (.getfield 123, 3) := by decide +kernel
theorem dX5_goesOn_68 : decode cX5_goesOn 68 = .ok (.iload_n 1, 1) := by decide +kernel
theorem dX5_goesOn_69 : decode cX5_goesOn 69 = .ok (.aaload, 1) := by decide +kernel
theorem dX5_goesOn_70 : decode cX5_goesOn 70 = .ok (.invokevirtual 233, 3) := by decide +kernel
theorem dX5_goesOn_73 : decode cX5_goesOn 73 = .ok (.goto 4, 3) := by decide +kernel
theorem dX5_goesOn_76 : decode cX5_goesOn 76 = .ok (.iconst (-1), 1) := by decide +kernel
theorem dX5_goesOn_77 : decode cX5_goesOn 77 = .ok (.ireturn, 1) := by decide +kernel
theorem dX5_weather_0 : decode cX5_weather 0 = .ok (.iload_n 1, 1) := by decide +kernel
theorem dX5_weather_1 : decode cX5_weather 1 = .ok (.iconst 1, 1) := by decide +kernel
theorem dX5_weather_2 : decode cX5_weather 2 = .ok (.if_icmp .lt 9, 3) := by decide +kernel
theorem dX5_weather_5 : decode cX5_weather 5 = .ok (.iload_n 1, 1) := by decide +kernel
theorem dX5_weather_6 : decode cX5_weather 6 = .ok (.bipush 12, 2) := by decide +kernel
theorem dX5_weather_8 : decode cX5_weather 8 = .ok (.if_icmp .le 13, 3) := by decide +kernel
theorem dX5_weather_11 : decode cX5_weather 11 = .ok (.new 41, 3) := by decide +kernel
theorem dX5_weather_14 : decode cX5_weather 14 = .ok (.dup, 1) := by decide +kernel
theorem dX5_weather_15 : decode cX5_weather 15 = .ok (.ldc 236, 2) := by decide +kernel
theorem dX5_weather_17 : decode cX5_weather 17 = .ok (.invokespecial 45, 3) := by decide +kernel
theorem dX5_weather_20 : decode cX5_weather 20 = .ok (.athrow, 1) := by decide +kernel
theorem dX5_weather_21 : decode cX5_weather 21 = .ok (.aload_n 0, 1) := by decide +kernel
theorem dX5_weather_22 : decode cX5_weather 22 = .ok (.getfield 19, 3) := by decide +kernel
theorem dX5_weather_25 : decode cX5_weather 25 = .ok (.getfield 238, 3) := by decide +kernel
theorem dX5_weather_28 : decode cX5_weather 28 = .ok (.ifCond .ne 5, 3) := by decide +kernel
theorem dX5_weather_31 : decode cX5_weather 31 = .ok (.iconst (-1), 1) := by decide +kernel
theorem dX5_weather_32 : decode cX5_weather 32 = .ok (.ireturn, 1) := by decide +kernel
theorem dX5_weather_33 : decode cX5_weather 33 = .ok (.aload_n 0, 1) := by decide +kernel
theorem dX5_weather_34 : decode cX5_weather 34 = .ok (.getfield 19, 3) := by decide +kernel
theorem dX5_weather_37 : decode cX5_weather 37 = .ok (.getfield 239, 3) := by decide +kernel
theorem dX5_weather_40 : decode cX5_weather 40 = .ok (.lstore_n 2, 1) := by decide +kernel
theorem dX5_weather_41 : decode cX5_weather 41 = .ok (.iconst 0, 1) := by decide +kernel
theorem dX5_weather_42 : decode cX5_weather 42 = .ok (.istore 4, 2) := by decide +kernel
theorem dX5_weather_44 : decode cX5_weather 44 = .ok (.iload 4, 2) := by decide +kernel
theorem dX5_weather_46 : decode cX5_weather 46 = .ok (.iload_n 1, 1) := by decide +kernel
theorem dX5_weather_47 : decode cX5_weather 47 = .ok (.if_icmp .ge 14, 3) := by decide +kernel
theorem dX5_weather_50 : decode cX5_weather 50 = .ok (.lload_n 2, 1) := by decide +kernel
theorem dX5_weather_51 : decode cX5_weather 51 = .ok (.invokestatic 243, 3) := by decide +kernel
theorem dX5_weather_54 : decode cX5_weather 54 = .ok (.lstore_n 2, 1) := by decide +kernel
theorem dX5_weather_55 : decode cX5_weather 55 = .ok (.iinc 4 1, 3) := by decide +kernel
theorem dX5_weather_58 : decode cX5_weather 58 = .ok (.goto (-14), 3) := by decide +kernel
theorem dX5_weather_61 : decode cX5_weather 61 = .ok (.lload_n 2, 1) := by decide +kernel
theorem dX5_weather_62 : decode cX5_weather 62 = .ok (.invokestatic 247, 3) := by decide +kernel
theorem dX5_weather_65 : decode cX5_weather 65 = .ok (.ireturn, 1) := by decide +kernel
theorem dX5_runScript_0 : decode cX5_runScript 0 = .ok (.iload_n 1, 1) := by decide +kernel
theorem dX5_runScript_1 : decode cX5_runScript 1 = .ok (.iconst 1, 1) := by decide +kernel
theorem dX5_runScript_2 : decode cX5_runScript 2 = .ok (.if_icmp .lt 8, 3) := by decide +kernel
theorem dX5_runScript_5 : decode cX5_runScript 5 = .ok (.iload_n 1, 1) := by decide +kernel
theorem dX5_runScript_6 : decode cX5_runScript 6 = .ok (.iconst 3, 1) := by decide +kernel
theorem dX5_runScript_7 : decode cX5_runScript 7 = .ok (.if_icmp .le 13, 3) := by decide +kernel
theorem dX5_runScript_10 : decode cX5_runScript 10 = .ok (.new 41, 3) := by decide +kernel
theorem dX5_runScript_13 : decode cX5_runScript 13 = .ok (.dup, 1) := by decide +kernel
theorem dX5_runScript_14 : decode cX5_runScript 14 = .ok (.ldc 251, 2) := by decide +kernel
theorem dX5_runScript_16 : decode cX5_runScript 16 = .ok (.invokespecial 45, 3) := by decide +kernel
theorem dX5_runScript_19 : decode cX5_runScript 19 = .ok (.athrow, 1) := by decide +kernel
theorem dX5_runScript_20 : decode cX5_runScript 20 = .ok (.lload_n 2, 1) := by decide +kernel
theorem dX5_runScript_21 : decode cX5_runScript 21 = .ok (.lconst 0, 1) := by decide +kernel
theorem dX5_runScript_22 : decode cX5_runScript 22 = .ok (.lcmp, 1) := by decide +kernel
theorem dX5_runScript_23 : decode cX5_runScript 23 = .ok (.ifCond .lt 13, 3) := by decide +kernel
theorem dX5_runScript_26 : decode cX5_runScript 26 = .ok (.lload_n 2, 1) := by decide +kernel
theorem dX5_runScript_27 : decode cX5_runScript 27 = .ok (.iload_n 1, 1) := by decide +kernel
theorem dX5_runScript_28 : decode cX5_runScript 28 = .ok (.invokestatic 253, 3) := by decide +kernel
theorem dX5_runScript_31 : decode cX5_runScript 31 = .ok (.lconst 0, 1) := by decide +kernel
theorem dX5_runScript_32 : decode cX5_runScript 32 = .ok (.lcmp, 1) := by decide +kernel
theorem dX5_runScript_33 : decode cX5_runScript 33 = .ok (.ifCond .eq 14, 3) := by decide +kernel
theorem dX5_runScript_36 : decode cX5_runScript 36 = .ok (.new 41, 3) := by decide +kernel
theorem dX5_runScript_39 : decode cX5_runScript 39 = .ok (.dup, 1) := by decide +kernel
theorem dX5_runScript_40 : decode cX5_runScript 40 = .ok (.ldc_w 257, 3) := by decide +kernel
theorem dX5_runScript_43 : decode cX5_runScript 43 = .ok (.invokespecial 45, 3) := by decide +kernel
theorem dX5_runScript_46 : decode cX5_runScript 46 = .ok (.athrow, 1) := by decide +kernel
theorem dX5_runScript_47 : decode cX5_runScript 47 = .ok (.aload_n 0, 1) := by decide +kernel
theorem dX5_runScript_48 : decode cX5_runScript 48 = .ok (.getfield 23, 3) := by decide +kernel
theorem dX5_runScript_51 : decode cX5_runScript 51 = .ok (.aload_n 0, 1) := by decide +kernel
theorem dX5_runScript_52 : decode cX5_runScript 52 = .ok (.getfield 19, 3) := by decide +kernel
theorem dX5_runScript_55 : decode cX5_runScript 55 = .ok (.invokevirtual 224, 3) := by decide +kernel
theorem dX5_runScript_58 : decode cX5_runScript 58 = .ok (.iconst 0, 1) := by decide +kernel
theorem dX5_runScript_59 : decode cX5_runScript 59 = .ok (.istore 4, 2) := by decide +kernel
theorem dX5_runScript_61 : decode cX5_runScript 61 = .ok (.iload 4, 2) := by decide +kernel
theorem dX5_runScript_63 : decode cX5_runScript 63 = .ok (.iload_n 1, 1) := by decide +kernel
theorem dX5_runScript_64 : decode cX5_runScript 64 = .ok (.if_icmp .ge 38, 3) := by decide +kernel
theorem dX5_runScript_67 : decode cX5_runScript 67 = .ok (.lload_n 2, 1) := by decide +kernel
theorem dX5_runScript_68 : decode cX5_runScript 68 = .ok (.iload_n 1, 1) := by decide +kernel
theorem dX5_runScript_69 : decode cX5_runScript 69 = .ok (.iconst 1, 1) := by decide +kernel
theorem dX5_runScript_70 : decode cX5_runScript 70 = .ok (.isub, 1) := by decide +kernel
theorem dX5_runScript_71 : decode cX5_runScript 71 = .ok (.iload 4, 2) := by decide +kernel
theorem dX5_runScript_73 : decode cX5_runScript 73 = .ok (.isub, 1) := by decide +kernel
theorem dX5_runScript_74 : decode cX5_runScript 74 = .ok (.invokestatic 253, 3) := by decide +kernel
theorem dX5_runScript_77 : decode cX5_runScript 77 = .ok (.ldc2_w 259, 3) := by decide +kernel
theorem dX5_runScript_80 : decode cX5_runScript 80 = .ok (.lrem, 1) := by decide +kernel
theorem dX5_runScript_81 : decode cX5_runScript 81 = .ok (.l2i, 1) := by decide +kernel
theorem dX5_runScript_82 : decode cX5_runScript 82 = .ok (.istore 5, 2) := by decide +kernel
theorem dX5_runScript_84 : decode cX5_runScript 84 = .ok (.aload_n 0, 1) := by decide +kernel
theorem dX5_runScript_85 : decode cX5_runScript 85 = .ok (.iload 5, 2) := by decide +kernel
theorem dX5_runScript_87 : decode cX5_runScript 87 = .ok (.invokevirtual 261, 3) := by decide +kernel
theorem dX5_runScript_90 : decode cX5_runScript 90 = .ok (.ifCond .ne 6, 3) := by decide +kernel
theorem dX5_runScript_93 : decode cX5_runScript 93 = .ok (.iload 4, 2) := by decide +kernel
theorem dX5_runScript_95 : decode cX5_runScript 95 = .ok (.ireturn, 1) := by decide +kernel
theorem dX5_runScript_96 : decode cX5_runScript 96 = .ok (.iinc 4 1, 3) := by decide +kernel
theorem dX5_runScript_99 : decode cX5_runScript 99 = .ok (.goto (-38), 3) := by decide +kernel
theorem dX5_runScript_102 : decode cX5_runScript 102 = .ok (.iconst (-1), 1) := by decide +kernel
theorem dX5_runScript_103 : decode cX5_runScript 103 = .ok (.ireturn, 1) := by decide +kernel
theorem dX5_dropGroups_0 : decode cX5_dropGroups 0 = .ok (.lload_n 0, 1) := by decide +kernel
theorem dX5_dropGroups_1 : decode cX5_dropGroups 1 = .ok (.lstore_n 3, 1) := by decide +kernel
theorem dX5_dropGroups_2 : decode cX5_dropGroups 2 = .ok (.iconst 0, 1) := by decide +kernel
theorem dX5_dropGroups_3 : decode cX5_dropGroups 3 = .ok (.istore 5, 2) := by decide +kernel
theorem dX5_dropGroups_5 : decode cX5_dropGroups 5 = .ok (.iload 5, 2) := by decide +kernel
theorem dX5_dropGroups_7 : decode cX5_dropGroups 7 = .ok (.iload_n 2, 1) := by decide +kernel
theorem dX5_dropGroups_8 : decode cX5_dropGroups 8 = .ok (.if_icmp .ge 15, 3) := by decide +kernel
theorem dX5_dropGroups_11 : decode cX5_dropGroups 11 = .ok (.lload_n 3, 1) := by decide +kernel
theorem dX5_dropGroups_12 : decode cX5_dropGroups 12 = .ok (.ldc2_w 259, 3) := by decide +kernel
theorem dX5_dropGroups_15 : decode cX5_dropGroups 15 = .ok (.ldiv, 1) := by decide +kernel
theorem dX5_dropGroups_16 : decode cX5_dropGroups 16 = .ok (.lstore_n 3, 1) := by decide +kernel
theorem dX5_dropGroups_17 : decode cX5_dropGroups 17 = .ok (.iinc 5 1, 3) := by decide +kernel
theorem dX5_dropGroups_20 : decode cX5_dropGroups 20 = .ok (.goto (-15), 3) := by decide +kernel
theorem dX5_dropGroups_23 : decode cX5_dropGroups 23 = .ok (.lload_n 3, 1) := by decide +kernel
theorem dX5_dropGroups_24 : decode cX5_dropGroups 24 = .ok (.lreturn, 1) := by decide +kernel
theorem dX5_doCommand_0 : decode cX5_doCommand 0 = .ok (.iload_n 1, 1) := by decide +kernel
theorem dX5_doCommand_1 : decode cX5_doCommand 1 = .ok (.bipush 100, 2) := by decide +kernel
theorem dX5_doCommand_3 : decode cX5_doCommand 3 = .ok (.idiv, 1) := by decide +kernel
theorem dX5_doCommand_4 : decode cX5_doCommand 4 = .ok (.bipush 10, 2) := by decide +kernel
theorem dX5_doCommand_6 : decode cX5_doCommand 6 = .ok (.irem, 1) := by decide +kernel
theorem dX5_doCommand_7 : decode cX5_doCommand 7 = .ok (.istore_n 2, 1) := by decide +kernel
theorem dX5_doCommand_8 : decode cX5_doCommand 8 = .ok (.iload_n 1, 1) := by decide +kernel
theorem dX5_doCommand_9 : decode cX5_doCommand 9 = .ok (.bipush 10, 2) := by decide +kernel
theorem dX5_doCommand_11 : decode cX5_doCommand 11 = .ok (.idiv, 1) := by decide +kernel
theorem dX5_doCommand_12 : decode cX5_doCommand 12 = .ok (.bipush 10, 2) := by decide +kernel
theorem dX5_doCommand_14 : decode cX5_doCommand 14 = .ok (.irem, 1) := by decide +kernel
theorem dX5_doCommand_15 : decode cX5_doCommand 15 = .ok (.istore_n 3, 1) := by decide +kernel
theorem dX5_doCommand_16 : decode cX5_doCommand 16 = .ok (.iload_n 1, 1) := by decide +kernel
theorem dX5_doCommand_17 : decode cX5_doCommand 17 = .ok (.bipush 10, 2) := by decide +kernel
theorem dX5_doCommand_19 : decode cX5_doCommand 19 = .ok (.irem, 1) := by decide +kernel
theorem dX5_doCommand_20 : decode cX5_doCommand 20 = .ok (.istore 4, 2) := by decide +kernel
theorem dX5_doCommand_22 : decode cX5_doCommand 22 = .ok (.iload_n 1, 1) := by decide +kernel
theorem dX5_doCommand_23 : decode cX5_doCommand 23 = .ok (.bipush 100, 2) := by decide +kernel
theorem dX5_doCommand_25 : decode cX5_doCommand 25 = .ok (.irem, 1) := by decide +kernel
theorem dX5_doCommand_26 : decode cX5_doCommand 26 = .ok (.istore 5, 2) := by decide +kernel
theorem dX5_doCommand_28 : decode cX5_doCommand 28 = .ok (.iload_n 1, 1) := by decide +kernel
theorem dX5_doCommand_29 : decode cX5_doCommand 29 = .ok (.sipush 1000, 3) := by decide +kernel
theorem dX5_doCommand_32 : decode cX5_doCommand 32 = .ok (.idiv, 1) := by decide +kernel
theorem dX5_doCommand_33 : decode cX5_doCommand 33 = .ok (.tableswitch 337 1 9 #[51, 86, 109, 138, 146, 180, 214, 255, 294], 51) := by decide +kernel
theorem dX5_doCommand_84 : decode cX5_doCommand 84 = .ok (.iload_n 2, 1) := by decide +kernel
theorem dX5_doCommand_85 : decode cX5_doCommand 85 = .ok (.invokestatic 129, 3) := by decide +kernel
theorem dX5_doCommand_88 : decode cX5_doCommand 88 = .ok (.ifCond .eq 29, 3) := by decide +kernel
theorem dX5_doCommand_91 : decode cX5_doCommand 91 = .ok (.iload_n 2, 1) := by decide +kernel
theorem dX5_doCommand_92 : decode cX5_doCommand 92 = .ok (.iload 5, 2) := by decide +kernel
theorem dX5_doCommand_94 : decode cX5_doCommand 94 = .ok (.invokestatic 163, 3) := by decide +kernel
theorem dX5_doCommand_97 : decode cX5_doCommand 97 = .ok (.ifCond .eq 20, 3) := by decide +kernel
theorem dX5_doCommand_100 : decode cX5_doCommand 100 = .ok (.aload_n 0, 1) := by decide +kernel
theorem dX5_doCommand_101 : decode cX5_doCommand 101 = .ok (.getfield 23, 3) := by decide +kernel
theorem dX5_doCommand_104 : decode cX5_doCommand 104 = .ok (.iload_n 2, 1) := by decide +kernel
theorem dX5_doCommand_105 : decode cX5_doCommand 105 = .ok (.iload 5, 2) := by decide +kernel
theorem dX5_doCommand_107 : decode cX5_doCommand 107 = .ok (.invokevirtual 104, 3) := by decide +kernel
theorem dX5_doCommand_110 : decode cX5_doCommand 110 = .ok (.ifCond .eq 7, 3) := by decide +kernel
theorem dX5_doCommand_113 : decode cX5_doCommand 113 = .ok (.iconst 1, 1) := by decide +kernel
theorem dX5_doCommand_114 : decode cX5_doCommand 114 = .ok (.goto 4, 3) := by decide +kernel
theorem dX5_doCommand_117 : decode cX5_doCommand 117 = .ok (.iconst 0, 1) := by decide +kernel
theorem dX5_doCommand_118 : decode cX5_doCommand 118 = .ok (.ireturn, 1) := by decide +kernel
theorem dX5_doCommand_119 : decode cX5_doCommand 119 = .ok (.iload_n 1, 1) := by decide +kernel
theorem dX5_doCommand_120 : decode cX5_doCommand 120 = .ok (.sipush 2000, 3) := by decide +kernel
theorem dX5_doCommand_123 : decode cX5_doCommand 123 = .ok (.if_icmp .ne 17, 3) := by decide +kernel
theorem dX5_doCommand_126 : decode cX5_doCommand 126 = .ok (.aload_n 0, 1) := by decide +kernel
theorem dX5_doCommand_127 : decode cX5_doCommand 127 = .ok (.getfield 23, 3) := by decide +kernel
theorem dX5_doCommand_130 : decode cX5_doCommand 130 = .ok (.invokevirtual 97, 3) := by decide +kernel
theorem dX5_doCommand_133 : decode cX5_doCommand 133 = .ok (.ifCond .eq 7, 3) := by decide +kernel
theorem dX5_doCommand_136 : decode cX5_doCommand 136 = .ok (.iconst 1, 1) := by decide +kernel
theorem dX5_doCommand_137 : decode cX5_doCommand 137 = .ok (.goto 4, 3) := by decide +kernel
theorem dX5_doCommand_140 : decode cX5_doCommand 140 = .ok (.iconst 0, 1) := by decide +kernel
theorem dX5_doCommand_141 : decode cX5_doCommand 141 = .ok (.ireturn, 1) := by decide +kernel
theorem dX5_doCommand_142 : decode cX5_doCommand 142 = .ok (.iload_n 1, 1) := by decide +kernel
theorem dX5_doCommand_143 : decode cX5_doCommand 143 = .ok (.sipush 3000, 3) := by decide +kernel
theorem dX5_doCommand_146 : decode cX5_doCommand 146 = .ok (.if_icmp .ne 13, 3) := by decide +kernel
theorem dX5_doCommand_149 : decode cX5_doCommand 149 = .ok (.aload_n 0, 1) := by decide +kernel
theorem dX5_doCommand_150 : decode cX5_doCommand 150 = .ok (.getfield 23, 3) := by decide +kernel
theorem dX5_doCommand_153 : decode cX5_doCommand 153 = .ok (.invokevirtual 176, 3) := by decide +kernel
theorem dX5_doCommand_156 : decode cX5_doCommand 156 = .ok (.ifCond .ne 5, 3) := by decide +kernel
theorem dX5_doCommand_159 : decode cX5_doCommand 159 = .ok (.iconst 0, 1) := by decide +kernel
theorem dX5_doCommand_160 : decode cX5_doCommand 160 = .ok (.ireturn, 1) := by decide +kernel
theorem dX5_doCommand_161 : decode cX5_doCommand 161 = .ok (.aload_n 0, 1) := by decide +kernel
theorem dX5_doCommand_162 : decode cX5_doCommand 162 = .ok (.getfield 23, 3) := by decide +kernel
theorem dX5_doCommand_165 : decode cX5_doCommand 165 = .ok (.invokevirtual 184, 3) := by decide +kernel
theorem dX5_doCommand_168 : decode cX5_doCommand 168 = .ok (.pop, 1) := by decide +kernel
theorem dX5_doCommand_169 : decode cX5_doCommand 169 = .ok (.iconst 1, 1) := by decide +kernel
theorem dX5_doCommand_170 : decode cX5_doCommand 170 = .ok (.ireturn, 1) := by decide +kernel
theorem dX5_doCommand_171 : decode cX5_doCommand 171 = .ok (.aload_n 0, 1) := by decide +kernel
theorem dX5_doCommand_172 : decode cX5_doCommand 172 = .ok (.iload_n 2, 1) := by decide +kernel
theorem dX5_doCommand_173 : decode cX5_doCommand 173 = .ok (.iload 5, 2) := by decide +kernel
theorem dX5_doCommand_175 : decode cX5_doCommand 175 = .ok (.invokevirtual 264, 3) := by decide +kernel
theorem dX5_doCommand_178 : decode cX5_doCommand 178 = .ok (.ireturn, 1) := by decide +kernel
theorem dX5_doCommand_179 : decode cX5_doCommand 179 = .ok (.aload_n 0, 1) := by decide +kernel
theorem dX5_doCommand_180 : decode cX5_doCommand 180 = .ok (.getfield 23, 3) := by decide +kernel
theorem dX5_doCommand_183 : decode cX5_doCommand 183 = .ok (.iload_n 2, 1) := by decide +kernel
theorem dX5_doCommand_184 : decode cX5_doCommand 184 = .ok (.invokevirtual 113, 3) := by decide +kernel
theorem dX5_doCommand_187 : decode cX5_doCommand 187 = .ok (.ifCond .eq 24, 3) := by decide +kernel
theorem dX5_doCommand_190 : decode cX5_doCommand 190 = .ok (.aload_n 0, 1) := by decide +kernel
theorem dX5_doCommand_191 : decode cX5_doCommand 191 = .ok (.getfield 23, 3) := by decide +kernel
theorem dX5_doCommand_194 : decode cX5_doCommand 194 = .ok (.getfield 123, 3) := by decide +kernel
theorem dX5_doCommand_197 : decode cX5_doCommand 197 = .ok (.iload_n 2, 1) := by decide +kernel
theorem dX5_doCommand_198 : decode cX5_doCommand 198 = .ok (.aaload, 1) := by decide +kernel
theorem dX5_doCommand_199 : decode cX5_doCommand 199 = .ok (.invokevirtual 233, 3) := by decide +kernel
theorem dX5_doCommand_202 : decode cX5_doCommand 202 = .ok (.iload 5, 2) := by decide +kernel
theorem dX5_doCommand_204 : decode cX5_doCommand 204 = .ok (.if_icmp .lt 7, 3) := by decide +kernel
theorem dX5_doCommand_207 : decode cX5_doCommand 207 = .ok (.iconst 1, 1) := by decide +kernel
theorem dX5_doCommand_208 : decode cX5_doCommand 208 = .ok (.goto 4, 3) := by decide +kernel
theorem dX5_doCommand_211 : decode cX5_doCommand 211 = .ok (.iconst 0, 1) := by decide +kernel
theorem dX5_doCommand_212 : decode cX5_doCommand 212 = .ok (.ireturn, 1) := by decide +kernel
theorem dX5_doCommand_213 : decode cX5_doCommand 213 = .ok (.iload_n 2, 1) := by decide +kernel
theorem dX5_doCommand_214 : decode cX5_doCommand 214 = .ok (.invokestatic 129, 3) := by decide +kernel
theorem dX5_doCommand_217 : decode cX5_doCommand 217 = .ok (.ifCond .eq 28, 3) := by decide +kernel
theorem dX5_doCommand_220 : decode cX5_doCommand 220 = .ok (.iload 4, 2) := by decide +kernel
theorem dX5_doCommand_222 : decode cX5_doCommand 222 = .ok (.ifCond .ne 23, 3) := by decide +kernel
theorem dX5_doCommand_225 : decode cX5_doCommand 225 = .ok (.aload_n 0, 1) := by decide +kernel
theorem dX5_doCommand_226 : decode cX5_doCommand 226 = .ok (.getfield 23, 3) := by decide +kernel
theorem dX5_doCommand_229 : decode cX5_doCommand 229 = .ok (.getfield 136, 3) := by decide +kernel
theorem dX5_doCommand_232 : decode cX5_doCommand 232 = .ok (.iload_n 2, 1) := by decide +kernel
theorem dX5_doCommand_233 : decode cX5_doCommand 233 = .ok (.aaload, 1) := by decide +kernel
theorem dX5_doCommand_234 : decode cX5_doCommand 234 = .ok (.getfield 267, 3) := by decide +kernel
theorem dX5_doCommand_237 : decode cX5_doCommand 237 = .ok (.iload_n 3, 1) := by decide +kernel
theorem dX5_doCommand_238 : decode cX5_doCommand 238 = .ok (.if_icmp .lt 7, 3) := by decide +kernel
theorem dX5_doCommand_241 : decode cX5_doCommand 241 = .ok (.iconst 1, 1) := by decide +kernel
theorem dX5_doCommand_242 : decode cX5_doCommand 242 = .ok (.goto 4, 3) := by decide +kernel
theorem dX5_doCommand_245 : decode cX5_doCommand 245 = .ok (.iconst 0, 1) := by decide +kernel
theorem dX5_doCommand_246 : decode cX5_doCommand 246 = .ok (.ireturn, 1) := by decide +kernel
theorem dX5_doCommand_247 : decode cX5_doCommand 247 = .ok (.aload_n 0, 1) := by decide +kernel
theorem dX5_doCommand_248 : decode cX5_doCommand 248 = .ok (.getfield 23, 3) := by decide +kernel
theorem dX5_doCommand_251 : decode cX5_doCommand 251 = .ok (.getfield 238, 3) := by decide +kernel
theorem dX5_doCommand_254 : decode cX5_doCommand 254 = .ok (.ifCond .le 32, 3) := by decide +kernel
theorem dX5_doCommand_257 : decode cX5_doCommand 257 = .ok (.iload_n 2, 1) := by decide +kernel
theorem dX5_doCommand_258 : decode cX5_doCommand 258 = .ok (.invokestatic 216, 3) := by decide +kernel
theorem dX5_doCommand_261 : decode cX5_doCommand 261 = .ok (.ifCond .eq 25, 3) := by decide +kernel
theorem dX5_doCommand_264 : decode cX5_doCommand 264 = .ok (.iload 4, 2) := by decide +kernel
theorem dX5_doCommand_266 : decode cX5_doCommand 266 = .ok (.ifCond .ne 20, 3) := by decide +kernel
theorem dX5_doCommand_269 : decode cX5_doCommand 269 = .ok (.aload_n 0, 1) := by decide +kernel
theorem dX5_doCommand_270 : decode cX5_doCommand 270 = .ok (.getfield 23, 3) := by decide +kernel
theorem dX5_doCommand_273 : decode cX5_doCommand 273 = .ok (.getfield 268, 3) := by decide +kernel
theorem dX5_doCommand_276 : decode cX5_doCommand 276 = .ok (.iload_n 2, 1) := by decide +kernel
theorem dX5_doCommand_277 : decode cX5_doCommand 277 = .ok (.iaload, 1) := by decide +kernel
theorem dX5_doCommand_278 : decode cX5_doCommand 278 = .ok (.iload_n 3, 1) := by decide +kernel
theorem dX5_doCommand_279 : decode cX5_doCommand 279 = .ok (.if_icmp .lt 7, 3) := by decide +kernel
theorem dX5_doCommand_282 : decode cX5_doCommand 282 = .ok (.iconst 1, 1) := by decide +kernel
theorem dX5_doCommand_283 : decode cX5_doCommand 283 = .ok (.goto 4, 3) := by decide +kernel
theorem dX5_doCommand_286 : decode cX5_doCommand 286 = .ok (.iconst 0, 1) := by decide +kernel
theorem dX5_doCommand_287 : decode cX5_doCommand 287 = .ok (.ireturn, 1) := by decide +kernel
theorem dX5_doCommand_288 : decode cX5_doCommand 288 = .ok (.iload 5, 2) := by decide +kernel
theorem dX5_doCommand_290 : decode cX5_doCommand 290 = .ok (.iload 4, 2) := by decide +kernel
theorem dX5_doCommand_292 : decode cX5_doCommand 292 = .ok (.if_icmp .ne 33, 3) := by decide +kernel
theorem dX5_doCommand_295 : decode cX5_doCommand 295 = .ok (.iload_n 2, 1) := by decide +kernel
theorem dX5_doCommand_296 : decode cX5_doCommand 296 = .ok (.ifCond .ne 29, 3) := by decide +kernel
theorem dX5_doCommand_299 : decode cX5_doCommand 299 = .ok (.aload_n 0, 1) := by decide +kernel
theorem dX5_doCommand_300 : decode cX5_doCommand 300 = .ok (.getfield 23, 3) := by decide +kernel
theorem dX5_doCommand_303 : decode cX5_doCommand 303 = .ok (.invokevirtual 176, 3) := by decide +kernel
theorem dX5_doCommand_306 : decode cX5_doCommand 306 = .ok (.ifCond .eq 19, 3) := by decide +kernel
theorem dX5_doCommand_309 : decode cX5_doCommand 309 = .ok (.aload_n 0, 1) := by decide +kernel
theorem dX5_doCommand_310 : decode cX5_doCommand 310 = .ok (.getfield 23, 3) := by decide +kernel
theorem dX5_doCommand_313 : decode cX5_doCommand 313 = .ok (.getfield 271, 3) := by decide +kernel
theorem dX5_doCommand_316 : decode cX5_doCommand 316 = .ok (.iload 4, 2) := by decide +kernel
theorem dX5_doCommand_318 : decode cX5_doCommand 318 = .ok (.if_icmp .ne 7, 3) := by decide +kernel
theorem dX5_doCommand_321 : decode cX5_doCommand 321 = .ok (.iconst 1, 1) := by decide +kernel
theorem dX5_doCommand_322 : decode cX5_doCommand 322 = .ok (.goto 4, 3) := by decide +kernel
theorem dX5_doCommand_325 : decode cX5_doCommand 325 = .ok (.iconst 0, 1) := by decide +kernel
theorem dX5_doCommand_326 : decode cX5_doCommand 326 = .ok (.ireturn, 1) := by decide +kernel
theorem dX5_doCommand_327 : decode cX5_doCommand 327 = .ok (.aload_n 0, 1) := by decide +kernel
theorem dX5_doCommand_328 : decode cX5_doCommand 328 = .ok (.getfield 23, 3) := by decide +kernel
theorem dX5_doCommand_331 : decode cX5_doCommand 331 = .ok (.iload_n 2, 1) := by decide +kernel
theorem dX5_doCommand_332 : decode cX5_doCommand 332 = .ok (.invokevirtual 113, 3) := by decide +kernel
theorem dX5_doCommand_335 : decode cX5_doCommand 335 = .ok (.ifCond .eq 33, 3) := by decide +kernel
theorem dX5_doCommand_338 : decode cX5_doCommand 338 = .ok (.iload_n 3, 1) := by decide +kernel
theorem dX5_doCommand_339 : decode cX5_doCommand 339 = .ok (.invokestatic 216, 3) := by decide +kernel
theorem dX5_doCommand_342 : decode cX5_doCommand 342 = .ok (.ifCond .eq 26, 3) := by decide +kernel
theorem dX5_doCommand_345 : decode cX5_doCommand 345 = .ok (.aload_n 0, 1) := by decide +kernel
theorem dX5_doCommand_346 : decode cX5_doCommand 346 = .ok (.getfield 23, 3) := by decide +kernel
theorem dX5_doCommand_349 : decode cX5_doCommand 349 = .ok (.getfield 123, 3) := by decide +kernel
theorem dX5_doCommand_352 : decode cX5_doCommand 352 = .ok (.iload_n 2, 1) := by decide +kernel
theorem dX5_doCommand_353 : decode cX5_doCommand 353 = .ok (.aaload, 1) := by decide +kernel
theorem dX5_doCommand_354 : decode cX5_doCommand 354 = .ok (.getfield 274, 3) := by decide +kernel
theorem dX5_doCommand_357 : decode cX5_doCommand 357 = .ok (.iload_n 3, 1) := by decide +kernel
theorem dX5_doCommand_358 : decode cX5_doCommand 358 = .ok (.iaload, 1) := by decide +kernel
theorem dX5_doCommand_359 : decode cX5_doCommand 359 = .ok (.iload 4, 2) := by decide +kernel
theorem dX5_doCommand_361 : decode cX5_doCommand 361 = .ok (.if_icmp .lt 7, 3) := by decide +kernel
theorem dX5_doCommand_364 : decode cX5_doCommand 364 = .ok (.iconst 1, 1) := by decide +kernel
theorem dX5_doCommand_365 : decode cX5_doCommand 365 = .ok (.goto 4, 3) := by decide +kernel
theorem dX5_doCommand_368 : decode cX5_doCommand 368 = .ok (.iconst 0, 1) := by decide +kernel
theorem dX5_doCommand_369 : decode cX5_doCommand 369 = .ok (.ireturn, 1) := by decide +kernel
theorem dX5_doCommand_370 : decode cX5_doCommand 370 = .ok (.iconst 0, 1) := by decide +kernel
theorem dX5_doCommand_371 : decode cX5_doCommand 371 = .ok (.ireturn, 1) := by decide +kernel
theorem dX5_trialSets_0 : decode cX5_trialSets 0 = .ok (.iload_n 1, 1) := by decide +kernel
theorem dX5_trialSets_1 : decode cX5_trialSets 1 = .ok (.iload_n 2, 1) := by decide +kernel
theorem dX5_trialSets_2 : decode cX5_trialSets 2 = .ok (.invokestatic 187, 3) := by decide +kernel
theorem dX5_trialSets_5 : decode cX5_trialSets 5 = .ok (.ifCond .ne 5, 3) := by decide +kernel
theorem dX5_trialSets_8 : decode cX5_trialSets 8 = .ok (.iconst 0, 1) := by decide +kernel
theorem dX5_trialSets_9 : decode cX5_trialSets 9 = .ok (.ireturn, 1) := by decide +kernel
theorem dX5_trialSets_10 : decode cX5_trialSets 10 = .ok (.aload_n 0, 1) := by decide +kernel
theorem dX5_trialSets_11 : decode cX5_trialSets 11 = .ok (.getfield 23, 3) := by decide +kernel
theorem dX5_trialSets_14 : decode cX5_trialSets 14 = .ok (.getfield 150, 3) := by decide +kernel
theorem dX5_trialSets_17 : decode cX5_trialSets 17 = .ok (.iload_n 1, 1) := by decide +kernel
theorem dX5_trialSets_18 : decode cX5_trialSets 18 = .ok (.iload_n 2, 1) := by decide +kernel
theorem dX5_trialSets_19 : decode cX5_trialSets 19 = .ok (.iastore, 1) := by decide +kernel
theorem dX5_trialSets_20 : decode cX5_trialSets 20 = .ok (.iconst 1, 1) := by decide +kernel
theorem dX5_trialSets_21 : decode cX5_trialSets 21 = .ok (.ireturn, 1) := by decide +kernel
theorem dX5_simulate_0 : decode cX5_simulate 0 = .ok (.iload_n 3, 1) := by decide +kernel
theorem dX5_simulate_1 : decode cX5_simulate 1 = .ok (.iconst 1, 1) := by decide +kernel
theorem dX5_simulate_2 : decode cX5_simulate 2 = .ok (.if_icmp .lt 9, 3) := by decide +kernel
theorem dX5_simulate_5 : decode cX5_simulate 5 = .ok (.iload_n 3, 1) := by decide +kernel
theorem dX5_simulate_6 : decode cX5_simulate 6 = .ok (.bipush 80, 2) := by decide +kernel
theorem dX5_simulate_8 : decode cX5_simulate 8 = .ok (.if_icmp .le 14, 3) := by decide +kernel
theorem dX5_simulate_11 : decode cX5_simulate 11 = .ok (.new 41, 3) := by decide +kernel
theorem dX5_simulate_14 : decode cX5_simulate 14 = .ok (.dup, 1) := by decide +kernel
theorem dX5_simulate_15 : decode cX5_simulate 15 = .ok (.ldc_w 277, 3) := by decide +kernel
theorem dX5_simulate_18 : decode cX5_simulate 18 = .ok (.invokespecial 45, 3) := by decide +kernel
theorem dX5_simulate_21 : decode cX5_simulate 21 = .ok (.athrow, 1) := by decide +kernel
theorem dX5_simulate_22 : decode cX5_simulate 22 = .ok (.aload_n 0, 1) := by decide +kernel
theorem dX5_simulate_23 : decode cX5_simulate 23 = .ok (.getfield 19, 3) := by decide +kernel
theorem dX5_simulate_26 : decode cX5_simulate 26 = .ok (.getfield 238, 3) := by decide +kernel
theorem dX5_simulate_29 : decode cX5_simulate 29 = .ok (.ifCond .ne 5, 3) := by decide +kernel
theorem dX5_simulate_32 : decode cX5_simulate 32 = .ok (.iconst 0, 1) := by decide +kernel
theorem dX5_simulate_33 : decode cX5_simulate 33 = .ok (.ireturn, 1) := by decide +kernel
theorem dX5_simulate_34 : decode cX5_simulate 34 = .ok (.aload_n 0, 1) := by decide +kernel
theorem dX5_simulate_35 : decode cX5_simulate 35 = .ok (.getfield 23, 3) := by decide +kernel
theorem dX5_simulate_38 : decode cX5_simulate 38 = .ok (.aload_n 0, 1) := by decide +kernel
theorem dX5_simulate_39 : decode cX5_simulate 39 = .ok (.getfield 19, 3) := by decide +kernel
theorem dX5_simulate_42 : decode cX5_simulate 42 = .ok (.invokevirtual 224, 3) := by decide +kernel
theorem dX5_simulate_45 : decode cX5_simulate 45 = .ok (.lload_n 1, 1) := by decide +kernel
theorem dX5_simulate_46 : decode cX5_simulate 46 = .ok (.lstore 4, 2) := by decide +kernel
theorem dX5_simulate_48 : decode cX5_simulate 48 = .ok (.iconst 0, 1) := by decide +kernel
theorem dX5_simulate_49 : decode cX5_simulate 49 = .ok (.istore 6, 2) := by decide +kernel
theorem dX5_simulate_51 : decode cX5_simulate 51 = .ok (.iload 6, 2) := by decide +kernel
theorem dX5_simulate_53 : decode cX5_simulate 53 = .ok (.iload_n 3, 1) := by decide +kernel
theorem dX5_simulate_54 : decode cX5_simulate 54 = .ok (.if_icmp .ge 36, 3) := by decide +kernel
theorem dX5_simulate_57 : decode cX5_simulate 57 = .ok (.aload_n 0, 1) := by decide +kernel
theorem dX5_simulate_58 : decode cX5_simulate 58 = .ok (.getfield 23, 3) := by decide +kernel
theorem dX5_simulate_61 : decode cX5_simulate 61 = .ok (.invokevirtual 176, 3) := by decide +kernel
theorem dX5_simulate_64 : decode cX5_simulate 64 = .ok (.ifCond .eq 26, 3) := by decide +kernel
theorem dX5_simulate_67 : decode cX5_simulate 67 = .ok (.lload 4, 2) := by decide +kernel
theorem dX5_simulate_69 : decode cX5_simulate 69 = .ok (.invokestatic 243, 3) := by decide +kernel
theorem dX5_simulate_72 : decode cX5_simulate 72 = .ok (.lstore 4, 2) := by decide +kernel
theorem dX5_simulate_74 : decode cX5_simulate 74 = .ok (.aload_n 0, 1) := by decide +kernel
theorem dX5_simulate_75 : decode cX5_simulate 75 = .ok (.lload 4, 2) := by decide +kernel
theorem dX5_simulate_77 : decode cX5_simulate 77 = .ok (.bipush 33, 2) := by decide +kernel
theorem dX5_simulate_79 : decode cX5_simulate 79 = .ok (.lushr, 1) := by decide +kernel
theorem dX5_simulate_80 : decode cX5_simulate 80 = .ok (.l2i, 1) := by decide +kernel
theorem dX5_simulate_81 : decode cX5_simulate 81 = .ok (.invokevirtual 279, 3) := by decide +kernel
theorem dX5_simulate_84 : decode cX5_simulate 84 = .ok (.iinc 6 1, 3) := by decide +kernel
theorem dX5_simulate_87 : decode cX5_simulate 87 = .ok (.goto (-36), 3) := by decide +kernel
theorem dX5_simulate_90 : decode cX5_simulate 90 = .ok (.sipush 1000, 3) := by decide +kernel
theorem dX5_simulate_93 : decode cX5_simulate 93 = .ok (.aload_n 0, 1) := by decide +kernel
theorem dX5_simulate_94 : decode cX5_simulate 94 = .ok (.getfield 23, 3) := by decide +kernel
theorem dX5_simulate_97 : decode cX5_simulate 97 = .ok (.getfield 283, 3) := by decide +kernel
theorem dX5_simulate_100 : decode cX5_simulate 100 = .ok (.aload_n 0, 1) := by decide +kernel
theorem dX5_simulate_101 : decode cX5_simulate 101 = .ok (.getfield 19, 3) := by decide +kernel
theorem dX5_simulate_104 : decode cX5_simulate 104 = .ok (.getfield 283, 3) := by decide +kernel
theorem dX5_simulate_107 : decode cX5_simulate 107 = .ok (.isub, 1) := by decide +kernel
theorem dX5_simulate_108 : decode cX5_simulate 108 = .ok (.imul, 1) := by decide +kernel
theorem dX5_simulate_109 : decode cX5_simulate 109 = .ok (.aload_n 0, 1) := by decide +kernel
theorem dX5_simulate_110 : decode cX5_simulate 110 = .ok (.getfield 23, 3) := by decide +kernel
theorem dX5_simulate_113 : decode cX5_simulate 113 = .ok (.invokevirtual 286, 3) := by decide +kernel
theorem dX5_simulate_116 : decode cX5_simulate 116 = .ok (.iadd, 1) := by decide +kernel
theorem dX5_simulate_117 : decode cX5_simulate 117 = .ok (.ireturn, 1) := by decide +kernel
theorem dX5_simulateTurn_0 : decode cX5_simulateTurn 0 = .ok (.iload_n 1, 1) := by decide +kernel
theorem dX5_simulateTurn_1 : decode cX5_simulateTurn 1 = .ok (.bipush 8, 2) := by decide +kernel
theorem dX5_simulateTurn_3 : decode cX5_simulateTurn 3 = .ok (.irem, 1) := by decide +kernel
theorem dX5_simulateTurn_4 : decode cX5_simulateTurn 4 = .ok (.bipush 7, 2) := by decide +kernel
theorem dX5_simulateTurn_6 : decode cX5_simulateTurn 6 = .ok (.if_icmp .ne 12, 3) := by decide +kernel
theorem dX5_simulateTurn_9 : decode cX5_simulateTurn 9 = .ok (.aload_n 0, 1) := by decide +kernel
theorem dX5_simulateTurn_10 : decode cX5_simulateTurn 10 = .ok (.getfield 23, 3) := by decide +kernel
theorem dX5_simulateTurn_13 : decode cX5_simulateTurn 13 = .ok (.invokevirtual 97, 3) := by decide +kernel
theorem dX5_simulateTurn_16 : decode cX5_simulateTurn 16 = .ok (.pop, 1) := by decide +kernel
theorem dX5_simulateTurn_17 : decode cX5_simulateTurn 17 = .ok (.return_, 1) := by decide +kernel
theorem dX5_simulateTurn_18 : decode cX5_simulateTurn 18 = .ok (.iload_n 1, 1) := by decide +kernel
theorem dX5_simulateTurn_19 : decode cX5_simulateTurn 19 = .ok (.bipush 8, 2) := by decide +kernel
theorem dX5_simulateTurn_21 : decode cX5_simulateTurn 21 = .ok (.idiv, 1) := by decide +kernel
theorem dX5_simulateTurn_22 : decode cX5_simulateTurn 22 = .ok (.bipush 6, 2) := by decide +kernel
theorem dX5_simulateTurn_24 : decode cX5_simulateTurn 24 = .ok (.irem, 1) := by decide +kernel
theorem dX5_simulateTurn_25 : decode cX5_simulateTurn 25 = .ok (.istore_n 2, 1) := by decide +kernel
theorem dX5_simulateTurn_26 : decode cX5_simulateTurn 26 = .ok (.aload_n 0, 1) := by decide +kernel
theorem dX5_simulateTurn_27 : decode cX5_simulateTurn 27 = .ok (.getfield 23, 3) := by decide +kernel
theorem dX5_simulateTurn_30 : decode cX5_simulateTurn 30 = .ok (.iload_n 2, 1) := by decide +kernel
theorem dX5_simulateTurn_31 : decode cX5_simulateTurn 31 = .ok (.iload_n 2, 1) := by decide +kernel
theorem dX5_simulateTurn_32 : decode cX5_simulateTurn 32 = .ok (.iload_n 1, 1) := by decide +kernel
theorem dX5_simulateTurn_33 : decode cX5_simulateTurn 33 = .ok (.invokestatic 289, 3) := by decide +kernel
theorem dX5_simulateTurn_36 : decode cX5_simulateTurn 36 = .ok (.invokevirtual 104, 3) := by decide +kernel
theorem dX5_simulateTurn_39 : decode cX5_simulateTurn 39 = .ok (.ifCond .ne 11, 3) := by decide +kernel
theorem dX5_simulateTurn_42 : decode cX5_simulateTurn 42 = .ok (.aload_n 0, 1) := by decide +kernel
theorem dX5_simulateTurn_43 : decode cX5_simulateTurn 43 = .ok (.getfield 23, 3) := by decide +kernel
theorem dX5_simulateTurn_46 : decode cX5_simulateTurn 46 = .ok (.invokevirtual 184, 3) := by decide +kernel
theorem dX5_simulateTurn_49 : decode cX5_simulateTurn 49 = .ok (.pop, 1) := by decide +kernel
theorem dX5_simulateTurn_50 : decode cX5_simulateTurn 50 = .ok (.return_, 1) := by decide +kernel
theorem dX5_simulatedChoice_0 : decode cX5_simulatedChoice 0 = .ok (.iload_n 0, 1) := by decide +kernel
theorem dX5_simulatedChoice_1 : decode cX5_simulatedChoice 1 = .ok (.lookupswitch 56 #[(2, 27), (3, 36)], 27) := by decide +kernel
theorem dX5_simulatedChoice_28 : decode cX5_simulatedChoice 28 = .ok (.iconst 1, 1) := by decide +kernel
theorem dX5_simulatedChoice_29 : decode cX5_simulatedChoice 29 = .ok (.iload_n 1, 1) := by decide +kernel
theorem dX5_simulatedChoice_30 : decode cX5_simulatedChoice 30 = .ok (.bipush 64, 2) := by decide +kernel
theorem dX5_simulatedChoice_32 : decode cX5_simulatedChoice 32 = .ok (.idiv, 1) := by decide +kernel
theorem dX5_simulatedChoice_33 : decode cX5_simulatedChoice 33 = .ok (.iconst 3, 1) := by decide +kernel
theorem dX5_simulatedChoice_34 : decode cX5_simulatedChoice 34 = .ok (.irem, 1) := by decide +kernel
theorem dX5_simulatedChoice_35 : decode cX5_simulatedChoice 35 = .ok (.iadd, 1) := by decide +kernel
theorem dX5_simulatedChoice_36 : decode cX5_simulatedChoice 36 = .ok (.ireturn, 1) := by decide +kernel
theorem dX5_simulatedChoice_37 : decode cX5_simulatedChoice 37 = .ok (.bipush 10, 2) := by decide +kernel
theorem dX5_simulatedChoice_39 : decode cX5_simulatedChoice 39 = .ok (.iload_n 1, 1) := by decide +kernel
theorem dX5_simulatedChoice_40 : decode cX5_simulatedChoice 40 = .ok (.bipush 64, 2) := by decide +kernel
theorem dX5_simulatedChoice_42 : decode cX5_simulatedChoice 42 = .ok (.idiv, 1) := by decide +kernel
theorem dX5_simulatedChoice_43 : decode cX5_simulatedChoice 43 = .ok (.iconst 3, 1) := by decide +kernel
theorem dX5_simulatedChoice_44 : decode cX5_simulatedChoice 44 = .ok (.irem, 1) := by decide +kernel
theorem dX5_simulatedChoice_45 : decode cX5_simulatedChoice 45 = .ok (.imul, 1) := by decide +kernel
theorem dX5_simulatedChoice_46 : decode cX5_simulatedChoice 46 = .ok (.iconst 1, 1) := by decide +kernel
theorem dX5_simulatedChoice_47 : decode cX5_simulatedChoice 47 = .ok (.iadd, 1) := by decide +kernel
theorem dX5_simulatedChoice_48 : decode cX5_simulatedChoice 48 = .ok (.iload_n 1, 1) := by decide +kernel
theorem dX5_simulatedChoice_49 : decode cX5_simulatedChoice 49 = .ok (.sipush 256, 3) := by decide +kernel
theorem dX5_simulatedChoice_52 : decode cX5_simulatedChoice 52 = .ok (.idiv, 1) := by decide +kernel
theorem dX5_simulatedChoice_53 : decode cX5_simulatedChoice 53 = .ok (.iconst 3, 1) := by decide +kernel
theorem dX5_simulatedChoice_54 : decode cX5_simulatedChoice 54 = .ok (.irem, 1) := by decide +kernel
theorem dX5_simulatedChoice_55 : decode cX5_simulatedChoice 55 = .ok (.iadd, 1) := by decide +kernel
theorem dX5_simulatedChoice_56 : decode cX5_simulatedChoice 56 = .ok (.ireturn, 1) := by decide +kernel
theorem dX5_simulatedChoice_57 : decode cX5_simulatedChoice 57 = .ok (.iconst 0, 1) := by decide +kernel
theorem dX5_simulatedChoice_58 : decode cX5_simulatedChoice 58 = .ok (.ireturn, 1) := by decide +kernel
theorem dX5_save_0 : decode cX5_save 0 = .ok (.iload_n 1, 1) := by decide +kernel
theorem dX5_save_1 : decode cX5_save 1 = .ok (.ifCond .lt 8, 3) := by decide +kernel
theorem dX5_save_4 : decode cX5_save 4 = .ok (.iload_n 1, 1) := by decide +kernel
theorem dX5_save_5 : decode cX5_save 5 = .ok (.iconst 2, 1) := by decide +kernel
theorem dX5_save_6 : decode cX5_save 6 = .ok (.if_icmp .lt 14, 3) := by decide +kernel
theorem dX5_save_9 : decode cX5_save 9 = .ok (.new 116, 3) := by decide +kernel
theorem dX5_save_12 : decode cX5_save 12 = .ok (.dup, 1) := by decide +kernel
theorem dX5_save_13 : decode cX5_save 13 = .ok (.ldc_w 292, 3) := by decide +kernel
theorem dX5_save_16 : decode cX5_save 16 = .ok (.invokespecial 120, 3) := by decide +kernel
theorem dX5_save_19 : decode cX5_save 19 = .ok (.athrow, 1) := by decide +kernel
theorem dX5_save_20 : decode cX5_save 20 = .ok (.aload_n 0, 1) := by decide +kernel
theorem dX5_save_21 : decode cX5_save 21 = .ok (.getfield 33, 3) := by decide +kernel
theorem dX5_save_24 : decode cX5_save 24 = .ok (.iload_n 1, 1) := by decide +kernel
theorem dX5_save_25 : decode cX5_save 25 = .ok (.aaload, 1) := by decide +kernel
theorem dX5_save_26 : decode cX5_save 26 = .ok (.aload_n 0, 1) := by decide +kernel
theorem dX5_save_27 : decode cX5_save 27 = .ok (.getfield 19, 3) := by decide +kernel
theorem dX5_save_30 : decode cX5_save 30 = .ok (.invokevirtual 224, 3) := by decide +kernel
theorem dX5_save_33 : decode cX5_save 33 = .ok (.aload_n 0, 1) := by decide +kernel
theorem dX5_save_34 : decode cX5_save 34 = .ok (.getfield 37, 3) := by decide +kernel
theorem dX5_save_37 : decode cX5_save 37 = .ok (.iload_n 1, 1) := by decide +kernel
theorem dX5_save_38 : decode cX5_save 38 = .ok (.iconst 1, 1) := by decide +kernel
theorem dX5_save_39 : decode cX5_save 39 = .ok (.bastore, 1) := by decide +kernel
theorem dX5_save_40 : decode cX5_save 40 = .ok (.aload_n 0, 1) := by decide +kernel
theorem dX5_save_41 : decode cX5_save 41 = .ok (.getfield 19, 3) := by decide +kernel
theorem dX5_save_44 : decode cX5_save 44 = .ok (.getfield 238, 3) := by decide +kernel
theorem dX5_save_47 : decode cX5_save 47 = .ok (.ireturn, 1) := by decide +kernel
theorem dX5_restore_0 : decode cX5_restore 0 = .ok (.iload_n 1, 1) := by decide +kernel
theorem dX5_restore_1 : decode cX5_restore 1 = .ok (.ifCond .lt 8, 3) := by decide +kernel
theorem dX5_restore_4 : decode cX5_restore 4 = .ok (.iload_n 1, 1) := by decide +kernel
theorem dX5_restore_5 : decode cX5_restore 5 = .ok (.iconst 2, 1) := by decide +kernel
theorem dX5_restore_6 : decode cX5_restore 6 = .ok (.if_icmp .lt 14, 3) := by decide +kernel
theorem dX5_restore_9 : decode cX5_restore 9 = .ok (.new 116, 3) := by decide +kernel
theorem dX5_restore_12 : decode cX5_restore 12 = .ok (.dup, 1) := by decide +kernel
theorem dX5_restore_13 : decode cX5_restore 13 = .ok (.ldc_w 292, 3) := by decide +kernel
theorem dX5_restore_16 : decode cX5_restore 16 = .ok (.invokespecial 120, 3) := by decide +kernel
theorem dX5_restore_19 : decode cX5_restore 19 = .ok (.athrow, 1) := by decide +kernel
theorem dX5_restore_20 : decode cX5_restore 20 = .ok (.aload_n 0, 1) := by decide +kernel
theorem dX5_restore_21 : decode cX5_restore 21 = .ok (.getfield 37, 3) := by decide +kernel
theorem dX5_restore_24 : decode cX5_restore 24 = .ok (.iload_n 1, 1) := by decide +kernel
theorem dX5_restore_25 : decode cX5_restore 25 = .ok (.baload, 1) := by decide +kernel
theorem dX5_restore_26 : decode cX5_restore 26 = .ok (.ifCond .ne 14, 3) := by decide +kernel
theorem dX5_restore_29 : decode cX5_restore 29 = .ok (.new 52, 3) := by decide +kernel
theorem dX5_restore_32 : decode cX5_restore 32 = .ok (.dup, 1) := by decide +kernel
theorem dX5_restore_33 : decode cX5_restore 33 = .ok (.ldc_w 294, 3) := by decide +kernel
theorem dX5_restore_36 : decode cX5_restore 36 = .ok (.invokespecial 56, 3) := by decide +kernel
theorem dX5_restore_39 : decode cX5_restore 39 = .ok (.athrow, 1) := by decide +kernel
theorem dX5_restore_40 : decode cX5_restore 40 = .ok (.aload_n 0, 1) := by decide +kernel
theorem dX5_restore_41 : decode cX5_restore 41 = .ok (.getfield 19, 3) := by decide +kernel
theorem dX5_restore_44 : decode cX5_restore 44 = .ok (.aload_n 0, 1) := by decide +kernel
theorem dX5_restore_45 : decode cX5_restore 45 = .ok (.getfield 33, 3) := by decide +kernel
theorem dX5_restore_48 : decode cX5_restore 48 = .ok (.iload_n 1, 1) := by decide +kernel
theorem dX5_restore_49 : decode cX5_restore 49 = .ok (.aaload, 1) := by decide +kernel
theorem dX5_restore_50 : decode cX5_restore 50 = .ok (.invokevirtual 224, 3) := by decide +kernel
theorem dX5_restore_53 : decode cX5_restore 53 = .ok (.aload_n 0, 1) := by decide +kernel
theorem dX5_restore_54 : decode cX5_restore 54 = .ok (.getfield 29, 3) := by decide +kernel
theorem dX5_restore_57 : decode cX5_restore 57 = .ok (.invokevirtual 70, 3) := by decide +kernel
theorem dX5_restore_60 : decode cX5_restore 60 = .ok (.aload_n 0, 1) := by decide +kernel
theorem dX5_restore_61 : decode cX5_restore 61 = .ok (.getfield 19, 3) := by decide +kernel
theorem dX5_restore_64 : decode cX5_restore 64 = .ok (.getfield 238, 3) := by decide +kernel
theorem dX5_restore_67 : decode cX5_restore 67 = .ok (.ireturn, 1) := by decide +kernel
theorem dX5_isPlace_0 : decode cX5_isPlace 0 = .ok (.iload_n 0, 1) := by decide +kernel
theorem dX5_isPlace_1 : decode cX5_isPlace 1 = .ok (.ifCond .lt 13, 3) := by decide +kernel
theorem dX5_isPlace_4 : decode cX5_isPlace 4 = .ok (.iload_n 0, 1) := by decide +kernel
theorem dX5_isPlace_5 : decode cX5_isPlace 5 = .ok (.bipush 6, 2) := by decide +kernel
theorem dX5_isPlace_7 : decode cX5_isPlace 7 = .ok (.if_icmp .ge 7, 3) := by decide +kernel
theorem dX5_isPlace_10 : decode cX5_isPlace 10 = .ok (.iconst 1, 1) := by decide +kernel
theorem dX5_isPlace_11 : decode cX5_isPlace 11 = .ok (.goto 4, 3) := by decide +kernel
theorem dX5_isPlace_14 : decode cX5_isPlace 14 = .ok (.iconst 0, 1) := by decide +kernel
theorem dX5_isPlace_15 : decode cX5_isPlace 15 = .ok (.ireturn, 1) := by decide +kernel
theorem dX5_isGood_0 : decode cX5_isGood 0 = .ok (.iload_n 0, 1) := by decide +kernel
theorem dX5_isGood_1 : decode cX5_isGood 1 = .ok (.ifCond .lt 12, 3) := by decide +kernel
theorem dX5_isGood_4 : decode cX5_isGood 4 = .ok (.iload_n 0, 1) := by decide +kernel
theorem dX5_isGood_5 : decode cX5_isGood 5 = .ok (.iconst 3, 1) := by decide +kernel
theorem dX5_isGood_6 : decode cX5_isGood 6 = .ok (.if_icmp .ge 7, 3) := by decide +kernel
theorem dX5_isGood_9 : decode cX5_isGood 9 = .ok (.iconst 1, 1) := by decide +kernel
theorem dX5_isGood_10 : decode cX5_isGood 10 = .ok (.goto 4, 3) := by decide +kernel
theorem dX5_isGood_13 : decode cX5_isGood 13 = .ok (.iconst 0, 1) := by decide +kernel
theorem dX5_isGood_14 : decode cX5_isGood 14 = .ok (.ireturn, 1) := by decide +kernel
theorem dX5_isAmount_0 : decode cX5_isAmount 0 = .ok (.iload_n 0, 1) := by decide +kernel
theorem dX5_isAmount_1 : decode cX5_isAmount 1 = .ok (.iconst 1, 1) := by decide +kernel
theorem dX5_isAmount_2 : decode cX5_isAmount 2 = .ok (.if_icmp .lt 12, 3) := by decide +kernel
theorem dX5_isAmount_5 : decode cX5_isAmount 5 = .ok (.iload_n 0, 1) := by decide +kernel
theorem dX5_isAmount_6 : decode cX5_isAmount 6 = .ok (.iconst 3, 1) := by decide +kernel
theorem dX5_isAmount_7 : decode cX5_isAmount 7 = .ok (.if_icmp .gt 7, 3) := by decide +kernel
theorem dX5_isAmount_10 : decode cX5_isAmount 10 = .ok (.iconst 1, 1) := by decide +kernel
theorem dX5_isAmount_11 : decode cX5_isAmount 11 = .ok (.goto 4, 3) := by decide +kernel
theorem dX5_isAmount_14 : decode cX5_isAmount 14 = .ok (.iconst 0, 1) := by decide +kernel
theorem dX5_isAmount_15 : decode cX5_isAmount 15 = .ok (.ireturn, 1) := by decide +kernel
theorem dX5_isSetting_0 : decode cX5_isSetting 0 = .ok (.iload_n 0, 1) := by decide +kernel
theorem dX5_isSetting_1 : decode cX5_isSetting 1 = .ok (.ifCond .lt 12, 3) := by decide +kernel
theorem dX5_isSetting_4 : decode cX5_isSetting 4 = .ok (.iload_n 0, 1) := by decide +kernel
theorem dX5_isSetting_5 : decode cX5_isSetting 5 = .ok (.iconst 3, 1) := by decide +kernel
