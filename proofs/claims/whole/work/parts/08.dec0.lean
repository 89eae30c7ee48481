theorem dX0_init_0 : decode cX0_init 0 = .ok (.aload_n 0, 1) := by decide +kernel
theorem dX0_init_1 : decode cX0_init 1 = .ok (.invokespecial 3, 3) := by decide +kernel
theorem dX0_init_4 : decode cX0_init 4 = .ok (.aload_n 0, 1) := by decide +kernel
theorem dX0_init_5 : decode cX0_init 5 = .ok (.iconst 4, 1) := by decide +kernel
theorem dX0_init_6 : decode cX0_init 6 = .ok (.anewarray 9, 3) := by decide +kernel
theorem dX0_init_9 : decode cX0_init 9 = .ok (.putfield 11, 3) := by decide +kernel
theorem dX0_init_12 : decode cX0_init 12 = .ok (.aload_n 0, 1) := by decide +kernel
theorem dX0_init_13 : decode cX0_init 13 = .ok (.bipush 6, 2) := by decide +kernel
theorem dX0_init_15 : decode cX0_init 15 = .ok (.anewarray 17, 3) := by decide +kernel
theorem dX0_init_18 : decode cX0_init 18 = .ok (.putfield 19, 3) := by decide +kernel
theorem dX0_init_21 : decode cX0_init 21 = .ok (.aload_n 0, 1) := by decide +kernel
theorem dX0_init_22 : decode cX0_init 22 = .ok (.iconst 3, 1) := by decide +kernel
theorem dX0_init_23 : decode cX0_init 23 = .ok (.newarray .int, 2) := by decide +kernel
theorem dX0_init_25 : decode cX0_init 25 = .ok (.putfield 23, 3) := by decide +kernel
theorem dX0_init_28 : decode cX0_init 28 = .ok (.aload_n 0, 1) := by decide +kernel
theorem dX0_init_29 : decode cX0_init 29 = .ok (.iconst 3, 1) := by decide +kernel
theorem dX0_init_30 : decode cX0_init 30 = .ok (.newarray .int, 2) := by decide +kernel
theorem dX0_init_32 : decode cX0_init 32 = .ok (.putfield 27, 3) := by decide +kernel
theorem dX0_init_35 : decode cX0_init 35 = .ok (.aload_n 0, 1) := by decide +kernel
theorem dX0_init_36 : decode cX0_init 36 = .ok (.iconst 0, 1) := by decide +kernel
theorem dX0_init_37 : decode cX0_init 37 = .ok (.putfield 30, 3) := by decide +kernel
theorem dX0_init_40 : decode cX0_init 40 = .ok (.aload_n 0, 1) := by decide +kernel
theorem dX0_init_41 : decode cX0_init 41 = .ok (.iconst 0, 1) := by decide +kernel
theorem dX0_init_42 : decode cX0_init 42 = .ok (.putfield 34, 3) := by decide +kernel
theorem dX0_init_45 : decode cX0_init 45 = .ok (.aload_n 0, 1) := by decide +kernel
theorem dX0_init_46 : decode cX0_init 46 = .ok (.iconst 0, 1) := by decide +kernel
theorem dX0_init_47 : decode cX0_init 47 = .ok (.putfield 37, 3) := by decide +kernel
theorem dX0_init_50 : decode cX0_init 50 = .ok (.aload_n 0, 1) := by decide +kernel
theorem dX0_init_51 : decode cX0_init 51 = .ok (.iconst 0, 1) := by decide +kernel
theorem dX0_init_52 : decode cX0_init 52 = .ok (.putfield 40, 3) := by decide +kernel
theorem dX0_init_55 : decode cX0_init 55 = .ok (.aload_n 0, 1) := by decide +kernel
theorem dX0_init_56 : decode cX0_init 56 = .ok (.iconst 0, 1) := by decide +kernel
theorem dX0_init_57 : decode cX0_init 57 = .ok (.putfield 43, 3) := by decide +kernel
theorem dX0_init_60 : decode cX0_init 60 = .ok (.aload_n 0, 1) := by decide +kernel
theorem dX0_init_61 : decode cX0_init 61 = .ok (.iconst 0, 1) := by decide +kernel
theorem dX0_init_62 : decode cX0_init 62 = .ok (.putfield 46, 3) := by decide +kernel
theorem dX0_init_65 : decode cX0_init 65 = .ok (.aload_n 0, 1) := by decide +kernel
theorem dX0_init_66 : decode cX0_init 66 = .ok (.iconst 0, 1) := by decide +kernel
theorem dX0_init_67 : decode cX0_init 67 = .ok (.putfield 49, 3) := by decide +kernel
theorem dX0_init_70 : decode cX0_init 70 = .ok (.aload_n 0, 1) := by decide +kernel
theorem dX0_init_71 : decode cX0_init 71 = .ok (.lconst 0, 1) := by decide +kernel
theorem dX0_init_72 : decode cX0_init 72 = .ok (.putfield 52, 3) := by decide +kernel
theorem dX0_init_75 : decode cX0_init 75 = .ok (.aload_n 0, 1) := by decide +kernel
theorem dX0_init_76 : decode cX0_init 76 = .ok (.new 9, 3) := by decide +kernel
theorem dX0_init_79 : decode cX0_init 79 = .ok (.dup, 1) := by decide +kernel
theorem dX0_init_80 : decode cX0_init 80 = .ok (.invokespecial 56, 3) := by decide +kernel
theorem dX0_init_83 : decode cX0_init 83 = .ok (.putfield 57, 3) := by decide +kernel
theorem dX0_init_86 : decode cX0_init 86 = .ok (.aload_n 0, 1) := by decide +kernel
theorem dX0_init_87 : decode cX0_init 87 = .ok (.iconst (-1), 1) := by decide +kernel
theorem dX0_init_88 : decode cX0_init 88 = .ok (.putfield 61, 3) := by decide +kernel
theorem dX0_init_91 : decode cX0_init 91 = .ok (.aload_n 0, 1) := by decide +kernel
theorem dX0_init_92 : decode cX0_init 92 = .ok (.iconst (-1), 1) := by decide +kernel
theorem dX0_init_93 : decode cX0_init 93 = .ok (.putfield 64, 3) := by decide +kernel
theorem dX0_init_96 : decode cX0_init 96 = .ok (.aload_n 0, 1) := by decide +kernel
theorem dX0_init_97 : decode cX0_init 97 = .ok (.iconst (-1), 1) := by decide +kernel
theorem dX0_init_98 : decode cX0_init 98 = .ok (.putfield 67, 3) := by decide +kernel
theorem dX0_init_101 : decode cX0_init 101 = .ok (.iconst 0, 1) := by decide +kernel
theorem dX0_init_102 : decode cX0_init 102 = .ok (.istore_n 1, 1) := by decide +kernel
theorem dX0_init_103 : decode cX0_init 103 = .ok (.iload_n 1, 1) := by decide +kernel
theorem dX0_init_104 : decode cX0_init 104 = .ok (.iconst 4, 1) := by decide +kernel
theorem dX0_init_105 : decode cX0_init 105 = .ok (.if_icmp .ge 22, 3) := by decide +kernel
theorem dX0_init_108 : decode cX0_init 108 = .ok (.aload_n 0, 1) := by decide +kernel
theorem dX0_init_109 : decode cX0_init 109 = .ok (.getfield 11, 3) := by decide +kernel
theorem dX0_init_112 : decode cX0_init 112 = .ok (.iload_n 1, 1) := by decide +kernel
theorem dX0_init_113 : decode cX0_init 113 = .ok (.new 9, 3) := by decide +kernel
theorem dX0_init_116 : decode cX0_init 116 = .ok (.dup, 1) := by decide +kernel
theorem dX0_init_117 : decode cX0_init 117 = .ok (.invokespecial 56, 3) := by decide +kernel
theorem dX0_init_120 : decode cX0_init 120 = .ok (.aastore, 1) := by decide +kernel
theorem dX0_init_121 : decode cX0_init 121 = .ok (.iinc 1 1, 3) := by decide +kernel
theorem dX0_init_124 : decode cX0_init 124 = .ok (.goto (-21), 3) := by decide +kernel
theorem dX0_init_127 : decode cX0_init 127 = .ok (.iconst 0, 1) := by decide +kernel
theorem dX0_init_128 : decode cX0_init 128 = .ok (.istore_n 1, 1) := by decide +kernel
theorem dX0_init_129 : decode cX0_init 129 = .ok (.iload_n 1, 1) := by decide +kernel
theorem dX0_init_130 : decode cX0_init 130 = .ok (.bipush 6, 2) := by decide +kernel
theorem dX0_init_132 : decode cX0_init 132 = .ok (.if_icmp .ge 22, 3) := by decide +kernel
theorem dX0_init_135 : decode cX0_init 135 = .ok (.aload_n 0, 1) := by decide +kernel
theorem dX0_init_136 : decode cX0_init 136 = .ok (.getfield 19, 3) := by decide +kernel
theorem dX0_init_139 : decode cX0_init 139 = .ok (.iload_n 1, 1) := by decide +kernel
theorem dX0_init_140 : decode cX0_init 140 = .ok (.new 17, 3) := by decide +kernel
theorem dX0_init_143 : decode cX0_init 143 = .ok (.dup, 1) := by decide +kernel
theorem dX0_init_144 : decode cX0_init 144 = .ok (.invokespecial 70, 3) := by decide +kernel
theorem dX0_init_147 : decode cX0_init 147 = .ok (.aastore, 1) := by decide +kernel
theorem dX0_init_148 : decode cX0_init 148 = .ok (.iinc 1 1, 3) := by decide +kernel
theorem dX0_init_151 : decode cX0_init 151 = .ok (.goto (-22), 3) := by decide +kernel
theorem dX0_init_154 : decode cX0_init 154 = .ok (.iconst 0, 1) := by decide +kernel
theorem dX0_init_155 : decode cX0_init 155 = .ok (.istore_n 1, 1) := by decide +kernel
theorem dX0_init_156 : decode cX0_init 156 = .ok (.iload_n 1, 1) := by decide +kernel
theorem dX0_init_157 : decode cX0_init 157 = .ok (.iconst 3, 1) := by decide +kernel
theorem dX0_init_158 : decode cX0_init 158 = .ok (.if_icmp .ge 20, 3) := by decide +kernel
theorem dX0_init_161 : decode cX0_init 161 = .ok (.aload_n 0, 1) := by decide +kernel
theorem dX0_init_162 : decode cX0_init 162 = .ok (.getfield 27, 3) := by decide +kernel
theorem dX0_init_165 : decode cX0_init 165 = .ok (.iload_n 1, 1) := by decide +kernel
theorem dX0_init_166 : decode cX0_init 166 = .ok (.getstatic 71, 3) := by decide +kernel
theorem dX0_init_169 : decode cX0_init 169 = .ok (.iload_n 1, 1) := by decide +kernel
theorem dX0_init_170 : decode cX0_init 170 = .ok (.iaload, 1) := by decide +kernel
theorem dX0_init_171 : decode cX0_init 171 = .ok (.iastore, 1) := by decide +kernel
theorem dX0_init_172 : decode cX0_init 172 = .ok (.iinc 1 1, 3) := by decide +kernel
theorem dX0_init_175 : decode cX0_init 175 = .ok (.goto (-19), 3) := by decide +kernel
theorem dX0_init_178 : decode cX0_init 178 = .ok (.return_, 1) := by decide +kernel
theorem dX0_clearAll_0 : decode cX0_clearAll 0 = .ok (.iconst 0, 1) := by decide +kernel
theorem dX0_clearAll_1 : decode cX0_clearAll 1 = .ok (.istore_n 1, 1) := by decide +kernel
theorem dX0_clearAll_2 : decode cX0_clearAll 2 = .ok (.iload_n 1, 1) := by decide +kernel
theorem dX0_clearAll_3 : decode cX0_clearAll 3 = .ok (.iconst 3, 1) := by decide +kernel
theorem dX0_clearAll_4 : decode cX0_clearAll 4 = .ok (.if_icmp .ge 20, 3) := by decide +kernel
theorem dX0_clearAll_7 : decode cX0_clearAll 7 = .ok (.aload_n 0, 1) := by decide +kernel
theorem dX0_clearAll_8 : decode cX0_clearAll 8 = .ok (.getfield 27, 3) := by decide +kernel
theorem dX0_clearAll_11 : decode cX0_clearAll 11 = .ok (.iload_n 1, 1) := by decide +kernel
theorem dX0_clearAll_12 : decode cX0_clearAll 12 = .ok (.getstatic 71, 3) := by decide +kernel
theorem dX0_clearAll_15 : decode cX0_clearAll 15 = .ok (.iload_n 1, 1) := by decide +kernel
theorem dX0_clearAll_16 : decode cX0_clearAll 16 = .ok (.iaload, 1) := by decide +kernel
theorem dX0_clearAll_17 : decode cX0_clearAll 17 = .ok (.iastore, 1) := by decide +kernel
theorem dX0_clearAll_18 : decode cX0_clearAll 18 = .ok (.iinc 1 1, 3) := by decide +kernel
theorem dX0_clearAll_21 : decode cX0_clearAll 21 = .ok (.goto (-19), 3) := by decide +kernel
theorem dX0_clearAll_24 : decode cX0_clearAll 24 = .ok (.aload_n 0, 1) := by decide +kernel
theorem dX0_clearAll_25 : decode cX0_clearAll 25 = .ok (.iconst 0, 1) := by decide +kernel
theorem dX0_clearAll_26 : decode cX0_clearAll 26 = .ok (.putfield 30, 3) := by decide +kernel
theorem dX0_clearAll_29 : decode cX0_clearAll 29 = .ok (.return_, 1) := by decide +kernel
theorem dX0_startGame_0 : decode cX0_startGame 0 = .ok (.aload_n 0, 1) := by decide +kernel
theorem dX0_startGame_1 : decode cX0_startGame 1 = .ok (.iload_n 1, 1) := by decide +kernel
theorem dX0_startGame_2 : decode cX0_startGame 2 = .ok (.putfield 30, 3) := by decide +kernel
theorem dX0_startGame_5 : decode cX0_startGame 5 = .ok (.aload_n 0, 1) := by decide +kernel
theorem dX0_startGame_6 : decode cX0_startGame 6 = .ok (.iconst 0, 1) := by decide +kernel
theorem dX0_startGame_7 : decode cX0_startGame 7 = .ok (.putfield 34, 3) := by decide +kernel
theorem dX0_startGame_10 : decode cX0_startGame 10 = .ok (.aload_n 0, 1) := by decide +kernel
theorem dX0_startGame_11 : decode cX0_startGame 11 = .ok (.iconst 0, 1) := by decide +kernel
theorem dX0_startGame_12 : decode cX0_startGame 12 = .ok (.putfield 37, 3) := by decide +kernel
theorem dX0_startGame_15 : decode cX0_startGame 15 = .ok (.aload_n 0, 1) := by decide +kernel
theorem dX0_startGame_16 : decode cX0_startGame 16 = .ok (.iconst 0, 1) := by decide +kernel
theorem dX0_startGame_17 : decode cX0_startGame 17 = .ok (.putfield 43, 3) := by decide +kernel
theorem dX0_startGame_20 : decode cX0_startGame 20 = .ok (.aload_n 0, 1) := by decide +kernel
theorem dX0_startGame_21 : decode cX0_startGame 21 = .ok (.iconst 0, 1) := by decide +kernel
theorem dX0_startGame_22 : decode cX0_startGame 22 = .ok (.putfield 46, 3) := by decide +kernel
theorem dX0_startGame_25 : decode cX0_startGame 25 = .ok (.aload_n 0, 1) := by decide +kernel
theorem dX0_startGame_26 : decode cX0_startGame 26 = .ok (.iconst 0, 1) := by decide +kernel
theorem dX0_startGame_27 : decode cX0_startGame 27 = .ok (.putfield 49, 3) := by decide +kernel
theorem dX0_startGame_30 : decode cX0_startGame 30 = .ok (.iconst 0, 1) := by decide +kernel
theorem dX0_startGame_31 : decode cX0_startGame 31 = .ok (.istore 4, 2) := by decide +kernel
theorem dX0_startGame_33 : decode cX0_startGame 33 = .ok (.iload 4, 2) := by decide +kernel
theorem dX0_startGame_35 : decode cX0_startGame 35 = .ok (.iconst 4, 1) := by decide +kernel
theorem dX0_startGame_36 : decode cX0_startGame 36 = .ok (.if_icmp .ge 19, 3) := by decide +kernel
theorem dX0_startGame_39 : decode cX0_startGame 39 = .ok (.aload_n 0, 1) := by decide +kernel
theorem dX0_startGame_40 : decode cX0_startGame 40 = .ok (.getfield 11, 3) := by decide +kernel
theorem dX0_startGame_43 : decode cX0_startGame 43 = .ok (.iload 4, 2) := by decide +kernel
theorem dX0_startGame_45 : decode cX0_startGame 45 = .ok (.aaload, 1) := by decide +kernel
theorem dX0_startGame_46 : decode cX0_startGame 46 = .ok (.invokevirtual 74, 3) := by decide +kernel
theorem dX0_startGame_49 : decode cX0_startGame 49 = .ok (.iinc 4 1, 3) := by decide +kernel
theorem dX0_startGame_52 : decode cX0_startGame 52 = .ok (.goto (-19), 3) := by decide +kernel
theorem dX0_startGame_55 : decode cX0_startGame 55 = .ok (.iconst 0, 1) := by decide +kernel
theorem dX0_startGame_56 : decode cX0_startGame 56 = .ok (.istore 4, 2) := by decide +kernel
theorem dX0_startGame_58 : decode cX0_startGame 58 = .ok (.iload 4, 2) := by decide +kernel
theorem dX0_startGame_60 : decode cX0_startGame 60 = .ok (.bipush 6, 2) := by decide +kernel
theorem dX0_startGame_62 : decode cX0_startGame 62 = .ok (.if_icmp .ge 20, 3) := by decide +kernel
theorem dX0_startGame_65 : decode cX0_startGame 65 = .ok (.aload_n 0, 1) := by decide +kernel
theorem dX0_startGame_66 : decode cX0_startGame 66 = .ok (.getfield 19, 3) := by decide +kernel
theorem dX0_startGame_69 : decode cX0_startGame 69 = .ok (.iload 4, 2) := by decide +kernel
theorem dX0_startGame_71 : decode cX0_startGame 71 = .ok (.aaload, 1) := by decide +kernel
theorem dX0_startGame_72 : decode cX0_startGame 72 = .ok (.iconst 0, 1) := by decide +kernel
theorem dX0_startGame_73 : decode cX0_startGame 73 = .ok (.putfield 77, 3) := by decide +kernel
theorem dX0_startGame_76 : decode cX0_startGame 76 = .ok (.iinc 4 1, 3) := by decide +kernel
theorem dX0_startGame_79 : decode cX0_startGame 79 = .ok (.goto (-21), 3) := by decide +kernel
theorem dX0_startGame_82 : decode cX0_startGame 82 = .ok (.iconst 0, 1) := by decide +kernel
theorem dX0_startGame_83 : decode cX0_startGame 83 = .ok (.istore 4, 2) := by decide +kernel
theorem dX0_startGame_85 : decode cX0_startGame 85 = .ok (.iload 4, 2) := by decide +kernel
theorem dX0_startGame_87 : decode cX0_startGame 87 = .ok (.iconst 3, 1) := by decide +kernel
theorem dX0_startGame_88 : decode cX0_startGame 88 = .ok (.if_icmp .ge 22, 3) := by decide +kernel
theorem dX0_startGame_91 : decode cX0_startGame 91 = .ok (.aload_n 0, 1) := by decide +kernel
theorem dX0_startGame_92 : decode cX0_startGame 92 = .ok (.getfield 23, 3) := by decide +kernel
theorem dX0_startGame_95 : decode cX0_startGame 95 = .ok (.iload 4, 2) := by decide +kernel
theorem dX0_startGame_97 : decode cX0_startGame 97 = .ok (.getstatic 78, 3) := by decide +kernel
theorem dX0_startGame_100 : decode cX0_startGame 100 = .ok (.iload 4, 2) := by decide +kernel
theorem dX0_startGame_102 : decode cX0_startGame 102 = .ok (.iaload, 1) := by decide +kernel
theorem dX0_startGame_103 : decode cX0_startGame 103 = .ok (.iastore, 1) := by decide +kernel
theorem dX0_startGame_104 : decode cX0_startGame 104 = .ok (.iinc 4 1, 3) := by decide +kernel
theorem dX0_startGame_107 : decode cX0_startGame 107 = .ok (.goto (-22), 3) := by decide +kernel
theorem dX0_startGame_110 : decode cX0_startGame 110 = .ok (.aload_n 0, 1) := by decide +kernel
theorem dX0_startGame_111 : decode cX0_startGame 111 = .ok (.lload_n 2, 1) := by decide +kernel
theorem dX0_startGame_112 : decode cX0_startGame 112 = .ok (.invokestatic 81, 3) := by decide +kernel
theorem dX0_startGame_115 : decode cX0_startGame 115 = .ok (.putfield 52, 3) := by decide +kernel
theorem dX0_startGame_118 : decode cX0_startGame 118 = .ok (.aload_n 0, 1) := by decide +kernel
theorem dX0_startGame_119 : decode cX0_startGame 119 = .ok (.aload_n 0, 1) := by decide +kernel
theorem dX0_startGame_120 : decode cX0_startGame 120 = .ok (.getfield 52, 3) := by decide +kernel
theorem dX0_startGame_123 : decode cX0_startGame 123 = .ok (.invokestatic 85, 3) := by decide +kernel
theorem dX0_startGame_126 : decode cX0_startGame 126 = .ok (.putfield 40, 3) := by decide +kernel
theorem dX0_startGame_129 : decode cX0_startGame 129 = .ok (.return_, 1) := by decide +kernel
theorem dX0_copyFrom_0 : decode cX0_copyFrom 0 = .ok (.iconst 0, 1) := by decide +kernel
theorem dX0_copyFrom_1 : decode cX0_copyFrom 1 = .ok (.istore_n 2, 1) := by decide +kernel
theorem dX0_copyFrom_2 : decode cX0_copyFrom 2 = .ok (.iload_n 2, 1) := by decide +kernel
theorem dX0_copyFrom_3 : decode cX0_copyFrom 3 = .ok (.iconst 4, 1) := by decide +kernel
theorem dX0_copyFrom_4 : decode cX0_copyFrom 4 = .ok (.if_icmp .ge 24, 3) := by decide +kernel
theorem dX0_copyFrom_7 : decode cX0_copyFrom 7 = .ok (.aload_n 0, 1) := by decide +kernel
theorem dX0_copyFrom_8 : decode cX0_copyFrom 8 = .ok (.getfield 11, 3) := by decide +kernel
theorem dX0_copyFrom_11 : decode cX0_copyFrom 11 = .ok (.iload_n 2, 1) := by decide +kernel
theorem dX0_copyFrom_12 : decode cX0_copyFrom 12 = .ok (.aaload, 1) := by decide +kernel
theorem dX0_copyFrom_13 : decode cX0_copyFrom 13 = .ok (.aload_n 1, 1) := by decide +kernel
theorem dX0_copyFrom_14 : decode cX0_copyFrom 14 = .ok (.getfield 11, 3) := by decide +kernel
theorem dX0_copyFrom_17 : decode cX0_copyFrom 17 = .ok (.iload_n 2, 1) := by decide +kernel
theorem dX0_copyFrom_18 : decode cX0_copyFrom 18 = .ok (.aaload, 1) := by decide +kernel
theorem dX0_copyFrom_19 : decode cX0_copyFrom 19 = .ok (.invokevirtual 89, 3) := by decide +kernel
theorem dX0_copyFrom_22 : decode cX0_copyFrom 22 = .ok (.iinc 2 1, 3) := by decide +kernel
theorem dX0_copyFrom_25 : decode cX0_copyFrom 25 = .ok (.goto (-23), 3) := by decide +kernel
theorem dX0_copyFrom_28 : decode cX0_copyFrom 28 = .ok (.iconst 0, 1) := by decide +kernel
theorem dX0_copyFrom_29 : decode cX0_copyFrom 29 = .ok (.istore_n 2, 1) := by decide +kernel
theorem dX0_copyFrom_30 : decode cX0_copyFrom 30 = .ok (.iload_n 2, 1) := by decide +kernel
theorem dX0_copyFrom_31 : decode cX0_copyFrom 31 = .ok (.bipush 6, 2) := by decide +kernel
theorem dX0_copyFrom_33 : decode cX0_copyFrom 33 = .ok (.if_icmp .ge 24, 3) := by decide +kernel
theorem dX0_copyFrom_36 : decode cX0_copyFrom 36 = .ok (.aload_n 0, 1) := by decide +kernel
theorem dX0_copyFrom_37 : decode cX0_copyFrom 37 = .ok (.getfield 19, 3) := by decide +kernel
theorem dX0_copyFrom_40 : decode cX0_copyFrom 40 = .ok (.iload_n 2, 1) := by decide +kernel
theorem dX0_copyFrom_41 : decode cX0_copyFrom 41 = .ok (.aaload, 1) := by decide +kernel
theorem dX0_copyFrom_42 : decode cX0_copyFrom 42 = .ok (.aload_n 1, 1) := by decide +kernel
theorem dX0_copyFrom_43 : decode cX0_copyFrom 43 = .ok (.getfield 19, 3) := by decide +kernel
theorem dX0_copyFrom_46 : decode cX0_copyFrom 46 = .ok (.iload_n 2, 1) := by decide +kernel
theorem dX0_copyFrom_47 : decode cX0_copyFrom 47 = .ok (.aaload, 1) := by decide +kernel
theorem dX0_copyFrom_48 : decode cX0_copyFrom 48 = .ok (.invokevirtual 93, 3) := by decide +kernel
theorem dX0_copyFrom_51 : decode cX0_copyFrom 51 = .ok (.iinc 2 1, 3) := by decide +kernel
theorem dX0_copyFrom_54 : decode cX0_copyFrom 54 = .ok (.goto (-24), 3) := by decide +kernel
theorem dX0_copyFrom_57 : decode cX0_copyFrom 57 = .ok (.iconst 0, 1) := by decide +kernel
theorem dX0_copyFrom_58 : decode cX0_copyFrom 58 = .ok (.istore_n 2, 1) := by decide +kernel
theorem dX0_copyFrom_59 : decode cX0_copyFrom 59 = .ok (.iload_n 2, 1) := by decide +kernel
theorem dX0_copyFrom_60 : decode cX0_copyFrom 60 = .ok (.iconst 3, 1) := by decide +kernel
theorem dX0_copyFrom_61 : decode cX0_copyFrom 61 = .ok (.if_icmp .ge 21, 3) := by decide +kernel
theorem dX0_copyFrom_64 : decode cX0_copyFrom 64 = .ok (.aload_n 0, 1) := by decide +kernel
theorem dX0_copyFrom_65 : decode cX0_copyFrom 65 = .ok (.getfield 23, 3) := by decide +kernel
theorem dX0_copyFrom_68 : decode cX0_copyFrom 68 = .ok (.iload_n 2, 1) := by decide +kernel
theorem dX0_copyFrom_69 : decode cX0_copyFrom 69 = .ok (.aload_n 1, 1) := by decide +kernel
theorem dX0_copyFrom_70 : decode cX0_copyFrom 70 = .ok (.getfield 23, 3) := by decide +kernel
theorem dX0_copyFrom_73 : decode cX0_copyFrom 73 = .ok (.iload_n 2, 1) := by decide +kernel
theorem dX0_copyFrom_74 : decode cX0_copyFrom 74 = .ok (.iaload, 1) := by decide +kernel
theorem dX0_copyFrom_75 : decode cX0_copyFrom 75 = .ok (.iastore, 1) := by decide +kernel
theorem dX0_copyFrom_76 : decode cX0_copyFrom 76 = .ok (.iinc 2 1, 3) := by decide +kernel
theorem dX0_copyFrom_79 : decode cX0_copyFrom 79 = .ok (.goto (-20), 3) := by decide +kernel
theorem dX0_copyFrom_82 : decode cX0_copyFrom 82 = .ok (.iconst 0, 1) := by decide +kernel
theorem dX0_copyFrom_83 : decode cX0_copyFrom 83 = .ok (.istore_n 2, 1) := by decide +kernel
theorem dX0_copyFrom_84 : decode cX0_copyFrom 84 = .ok (.iload_n 2, 1) := by decide +kernel
theorem dX0_copyFrom_85 : decode cX0_copyFrom 85 = .ok (.iconst 3, 1) := by decide +kernel
theorem dX0_copyFrom_86 : decode cX0_copyFrom 86 = .ok (.if_icmp .ge 21, 3) := by decide +kernel
theorem dX0_copyFrom_89 : decode cX0_copyFrom 89 = .ok (.aload_n 0, 1) := by decide +kernel
theorem dX0_copyFrom_90 : decode cX0_copyFrom 90 = .ok (.getfield 27, 3) := by decide +kernel
theorem dX0_copyFrom_93 : decode cX0_copyFrom 93 = .ok (.iload_n 2, 1) := by decide +kernel
theorem dX0_copyFrom_94 : decode cX0_copyFrom 94 = .ok (.aload_n 1, 1) := by decide +kernel
theorem dX0_copyFrom_95 : decode cX0_copyFrom 95 = .ok (.getfield 27, 3) := by decide +kernel
theorem dX0_copyFrom_98 : decode cX0_copyFrom 98 = .ok (.iload_n 2, 1) := by decide +kernel
theorem dX0_copyFrom_99 : decode cX0_copyFrom 99 = .ok (.iaload, 1) := by decide +kernel
theorem dX0_copyFrom_100 : decode cX0_copyFrom 100 = .ok (.iastore, 1) := by decide +kernel
theorem dX0_copyFrom_101 : decode cX0_copyFrom 101 = .ok (.iinc 2 1, 3) := by decide +kernel
theorem dX0_copyFrom_104 : decode cX0_copyFrom 104 = .ok (.goto (-20), 3) := by decide +kernel
theorem dX0_copyFrom_107 : decode cX0_copyFrom 107 = .ok (.aload_n 0, 1) := by decide +kernel
theorem dX0_copyFrom_108 : decode cX0_copyFrom 108 = .ok (.aload_n 1, 1) := by decide +kernel
theorem dX0_copyFrom_109 : decode cX0_copyFrom 109 = .ok (.getfield 30, 3) := by decide +kernel
theorem dX0_copyFrom_112 : decode cX0_copyFrom 112 = .ok (.putfield 30, 3) := by decide +kernel
theorem dX0_copyFrom_115 : decode cX0_copyFrom 115 = .ok (.aload_n 0, 1) := by decide +kernel
theorem dX0_copyFrom_116 : decode cX0_copyFrom 116 = .ok (.aload_n 1, 1) := by decide +kernel
theorem dX0_copyFrom_117 : decode cX0_copyFrom 117 = .ok (.getfield 34, 3) := by decide +kernel
theorem dX0_copyFrom_120 : decode cX0_copyFrom 120 = .ok (.putfield 34, 3) := by decide +kernel
theorem dX0_copyFrom_123 : decode cX0_copyFrom 123 = .ok (.aload_n 0, 1) := by decide +kernel
theorem dX0_copyFrom_124 : decode cX0_copyFrom 124 = .ok (.aload_n 1, 1) := by decide +kernel
theorem dX0_copyFrom_125 : decode cX0_copyFrom 125 = .ok (.getfield 37, 3) := by decide +kernel
theorem dX0_copyFrom_128 : decode cX0_copyFrom 128 = .ok (.putfield 37, 3) := by decide +kernel
theorem dX0_copyFrom_131 : decode cX0_copyFrom 131 = .ok (.aload_n 0, 1) := by decide +kernel
theorem dX0_copyFrom_132 : decode cX0_copyFrom 132 = .ok (.aload_n 1, 1) := by decide +kernel
theorem dX0_copyFrom_133 : decode cX0_copyFrom 133 = .ok (.getfield 40, 3) := by decide +kernel
theorem dX0_copyFrom_136 : decode cX0_copyFrom 136 = .ok (.putfield 40, 3) := by decide +kernel
theorem dX0_copyFrom_139 : decode cX0_copyFrom 139 = .ok (.aload_n 0, 1) := by decide +kernel
theorem dX0_copyFrom_140 : decode cX0_copyFrom 140 = .ok (.aload_n 1, 1) := by decide +kernel
theorem dX0_copyFrom_141 : decode cX0_copyFrom 141 = .ok (.getfield 43, 3) := by decide +kernel
theorem dX0_copyFrom_144 : decode cX0_copyFrom 144 = .ok (.putfield 43, 3) := by decide +kernel
theorem dX0_copyFrom_147 : decode cX0_copyFrom 147 = .ok (.aload_n 0, 1) := by decide +kernel
theorem dX0_copyFrom_148 : decode cX0_copyFrom 148 = .ok (.aload_n 1, 1) := by decide +kernel
theorem dX0_copyFrom_149 : decode cX0_copyFrom 149 = .ok (.getfield 46, 3) := by decide +kernel
theorem dX0_copyFrom_152 : decode cX0_copyFrom 152 = .ok (.putfield 46, 3) := by decide +kernel
theorem dX0_copyFrom_155 : decode cX0_copyFrom 155 = .ok (.aload_n 0, 1) := by decide +kernel
theorem dX0_copyFrom_156 : decode cX0_copyFrom 156 = .ok (.aload_n 1, 1) := by decide +kernel
theorem dX0_copyFrom_157 : decode cX0_copyFrom 157 = .ok (.getfield 49, 3) := by decide +kernel
theorem dX0_copyFrom_160 : decode cX0_copyFrom 160 = .ok (.putfield 49, 3) := by decide +kernel
theorem dX0_copyFrom_163 : decode cX0_copyFrom 163 = .ok (.aload_n 0, 1) := by decide +kernel
theorem dX0_copyFrom_164 : decode cX0_copyFrom 164 = .ok (.aload_n 1, 1) := by decide +kernel
theorem dX0_copyFrom_165 : decode cX0_copyFrom 165 = .ok (.getfield 52, 3) := by decide +kernel
theorem dX0_copyFrom_168 : decode cX0_copyFrom 168 = .ok (.putfield 52, 3) := by decide +kernel
theorem dX0_copyFrom_171 : decode cX0_copyFrom 171 = .ok (.return_, 1) := by decide +kernel
theorem dX0_hasPlayer_0 : decode cX0_hasPlayer 0 = .ok (.iload_n 1, 1) := by decide +kernel
theorem dX0_hasPlayer_1 : decode cX0_hasPlayer 1 = .ok (.ifCond .lt 15, 3) := by decide +kernel
theorem dX0_hasPlayer_4 : decode cX0_hasPlayer 4 = .ok (.iload_n 1, 1) := by decide +kernel
theorem dX0_hasPlayer_5 : decode cX0_hasPlayer 5 = .ok (.aload_n 0, 1) := by decide +kernel
theorem dX0_hasPlayer_6 : decode cX0_hasPlayer 6 = .ok (.getfield 30, 3) := by decide +kernel
theorem dX0_hasPlayer_9 : decode cX0_hasPlayer 9 = .ok (.if_icmp .ge 7, 3) := by decide +kernel
theorem dX0_hasPlayer_12 : decode cX0_hasPlayer 12 = .ok (.iconst 1, 1) := by decide +kernel
theorem dX0_hasPlayer_13 : decode cX0_hasPlayer 13 = .ok (.goto 4, 3) := by decide +kernel
theorem dX0_hasPlayer_16 : decode cX0_hasPlayer 16 = .ok (.iconst 0, 1) := by decide +kernel
theorem dX0_hasPlayer_17 : decode cX0_hasPlayer 17 = .ok (.ireturn, 1) := by decide +kernel
theorem dX0_hasTurn_0 : decode cX0_hasTurn 0 = .ok (.aload_n 0, 1) := by decide +kernel
theorem dX0_hasTurn_1 : decode cX0_hasTurn 1 = .ok (.getfield 30, 3) := by decide +kernel
theorem dX0_hasTurn_4 : decode cX0_hasTurn 4 = .ok (.ifCond .le 20, 3) := by decide +kernel
theorem dX0_hasTurn_7 : decode cX0_hasTurn 7 = .ok (.aload_n 0, 1) := by decide +kernel
theorem dX0_hasTurn_8 : decode cX0_hasTurn 8 = .ok (.getfield 43, 3) := by decide +kernel
theorem dX0_hasTurn_11 : decode cX0_hasTurn 11 = .ok (.aload_n 0, 1) := by decide +kernel
theorem dX0_hasTurn_12 : decode cX0_hasTurn 12 = .ok (.getfield 27, 3) := by decide +kernel
theorem dX0_hasTurn_15 : decode cX0_hasTurn 15 = .ok (.iconst 0, 1) := by decide +kernel
theorem dX0_hasTurn_16 : decode cX0_hasTurn 16 = .ok (.iaload, 1) := by decide +kernel
theorem dX0_hasTurn_17 : decode cX0_hasTurn 17 = .ok (.if_icmp .ge 7, 3) := by decide +kernel
theorem dX0_hasTurn_20 : decode cX0_hasTurn 20 = .ok (.iconst 1, 1) := by decide +kernel
theorem dX0_hasTurn_21 : decode cX0_hasTurn 21 = .ok (.goto 4, 3) := by decide +kernel
theorem dX0_hasTurn_24 : decode cX0_hasTurn 24 = .ok (.iconst 0, 1) := by decide +kernel
theorem dX0_hasTurn_25 : decode cX0_hasTurn 25 = .ok (.ireturn, 1) := by decide +kernel
theorem dX0_whoseTurn_0 : decode cX0_whoseTurn 0 = .ok (.aload_n 0, 1) := by decide +kernel
theorem dX0_whoseTurn_1 : decode cX0_whoseTurn 1 = .ok (.invokevirtual 96, 3) := by decide +kernel
theorem dX0_whoseTurn_4 : decode cX0_whoseTurn 4 = .ok (.ifCond .eq 10, 3) := by decide +kernel
theorem dX0_whoseTurn_7 : decode cX0_whoseTurn 7 = .ok (.aload_n 0, 1) := by decide +kernel
theorem dX0_whoseTurn_8 : decode cX0_whoseTurn 8 = .ok (.getfield 34, 3) := by decide +kernel
theorem dX0_whoseTurn_11 : decode cX0_whoseTurn 11 = .ok (.goto 4, 3) := by decide +kernel
theorem dX0_whoseTurn_14 : decode cX0_whoseTurn 14 = .ok (.iconst (-1), 1) := by decide +kernel
theorem dX0_whoseTurn_15 : decode cX0_whoseTurn 15 = .ok (.ireturn, 1) := by decide +kernel
theorem dX0_number_0 : decode cX0_number 0 = .ok (.aload_n 0, 1) := by decide +kernel
theorem dX0_number_1 : decode cX0_number 1 = .ok (.getfield 30, 3) := by decide +kernel
theorem dX0_number_4 : decode cX0_number 4 = .ok (.ifCond .ne 5, 3) := by decide +kernel
theorem dX0_number_7 : decode cX0_number 7 = .ok (.iconst 0, 1) := by decide +kernel
theorem dX0_number_8 : decode cX0_number 8 = .ok (.ireturn, 1) := by decide +kernel
theorem dX0_number_9 : decode cX0_number 9 = .ok (.iload_n 1, 1) := by decide +kernel
theorem dX0_number_10 : decode cX0_number 10 = .ok (.tableswitch 127 0 10 #[58, 63, 68, 73, 78, 91, 98, 105, 112, 117, 122], 58) := by decide +kernel
theorem dX0_number_68 : decode cX0_number 68 = .ok (.aload_n 0, 1) := by decide +kernel
theorem dX0_number_69 : decode cX0_number 69 = .ok (.getfield 30, 3) := by decide +kernel
theorem dX0_number_72 : decode cX0_number 72 = .ok (.ireturn, 1) := by decide +kernel
theorem dX0_number_73 : decode cX0_number 73 = .ok (.aload_n 0, 1) := by decide +kernel
theorem dX0_number_74 : decode cX0_number 74 = .ok (.invokevirtual 100, 3) := by decide +kernel
theorem dX0_number_77 : decode cX0_number 77 = .ok (.ireturn, 1) := by decide +kernel
theorem dX0_number_78 : decode cX0_number 78 = .ok (.aload_n 0, 1) := by decide +kernel
theorem dX0_number_79 : decode cX0_number 79 = .ok (.getfield 40, 3) := by decide +kernel
theorem dX0_number_82 : decode cX0_number 82 = .ok (.ireturn, 1) := by decide +kernel
theorem dX0_number_83 : decode cX0_number 83 = .ok (.aload_n 0, 1) := by decide +kernel
theorem dX0_number_84 : decode cX0_number 84 = .ok (.getfield 43, 3) := by decide +kernel
theorem dX0_number_87 : decode cX0_number 87 = .ok (.ireturn, 1) := by decide +kernel
theorem dX0_number_88 : decode cX0_number 88 = .ok (.aload_n 0, 1) := by decide +kernel
theorem dX0_number_89 : decode cX0_number 89 = .ok (.invokevirtual 96, 3) := by decide +kernel
theorem dX0_number_92 : decode cX0_number 92 = .ok (.ifCond .eq 7, 3) := by decide +kernel
theorem dX0_number_95 : decode cX0_number 95 = .ok (.iconst 0, 1) := by decide +kernel
theorem dX0_number_96 : decode cX0_number 96 = .ok (.goto 4, 3) := by decide +kernel
theorem dX0_number_99 : decode cX0_number 99 = .ok (.iconst 1, 1) := by decide +kernel
theorem dX0_number_100 : decode cX0_number 100 = .ok (.ireturn, 1) := by decide +kernel
theorem dX0_number_101 : decode cX0_number 101 = .ok (.aload_n 0, 1) := by decide +kernel
theorem dX0_number_102 : decode cX0_number 102 = .ok (.getfield 23, 3) := by decide +kernel
theorem dX0_number_105 : decode cX0_number 105 = .ok (.iconst 0, 1) := by decide +kernel
theorem dX0_number_106 : decode cX0_number 106 = .ok (.iaload, 1) := by decide +kernel
theorem dX0_number_107 : decode cX0_number 107 = .ok (.ireturn, 1) := by decide +kernel
theorem dX0_number_108 : decode cX0_number 108 = .ok (.aload_n 0, 1) := by decide +kernel
theorem dX0_number_109 : decode cX0_number 109 = .ok (.getfield 23, 3) := by decide +kernel
theorem dX0_number_112 : decode cX0_number 112 = .ok (.iconst 1, 1) := by decide +kernel
theorem dX0_number_113 : decode cX0_number 113 = .ok (.iaload, 1) := by decide +kernel
theorem dX0_number_114 : decode cX0_number 114 = .ok (.ireturn, 1) := by decide +kernel
theorem dX0_number_115 : decode cX0_number 115 = .ok (.aload_n 0, 1) := by decide +kernel
theorem dX0_number_116 : decode cX0_number 116 = .ok (.getfield 23, 3) := by decide +kernel
theorem dX0_number_119 : decode cX0_number 119 = .ok (.iconst 2, 1) := by decide +kernel
theorem dX0_number_120 : decode cX0_number 120 = .ok (.iaload, 1) := by decide +kernel
theorem dX0_number_121 : decode cX0_number 121 = .ok (.ireturn, 1) := by decide +kernel
theorem dX0_number_122 : decode cX0_number 122 = .ok (.aload_n 0, 1) := by decide +kernel
theorem dX0_number_123 : decode cX0_number 123 = .ok (.getfield 37, 3) := by decide +kernel
theorem dX0_number_126 : decode cX0_number 126 = .ok (.ireturn, 1) := by decide +kernel
theorem dX0_number_127 : decode cX0_number 127 = .ok (.aload_n 0, 1) := by decide +kernel
theorem dX0_number_128 : decode cX0_number 128 = .ok (.invokevirtual 104, 3) := by decide +kernel
theorem dX0_number_131 : decode cX0_number 131 = .ok (.ireturn, 1) := by decide +kernel
theorem dX0_number_132 : decode cX0_number 132 = .ok (.aload_n 0, 1) := by decide +kernel
theorem dX0_number_133 : decode cX0_number 133 = .ok (.getfield 46, 3) := by decide +kernel
theorem dX0_number_136 : decode cX0_number 136 = .ok (.ireturn, 1) := by decide +kernel
theorem dX0_number_137 : decode cX0_number 137 = .ok (.aload_n 0, 1) := by decide +kernel
theorem dX0_number_138 : decode cX0_number 138 = .ok (.getfield 49, 3) := by decide +kernel
theorem dX0_number_141 : decode cX0_number 141 = .ok (.ireturn, 1) := by decide +kernel
theorem dX0_countPlaced_0 : decode cX0_countPlaced 0 = .ok (.iconst 0, 1) := by decide +kernel
theorem dX0_countPlaced_1 : decode cX0_countPlaced 1 = .ok (.istore_n 1, 1) := by decide +kernel
theorem dX0_countPlaced_2 : decode cX0_countPlaced 2 = .ok (.iconst 0, 1) := by decide +kernel
theorem dX0_countPlaced_3 : decode cX0_countPlaced 3 = .ok (.istore_n 2, 1) := by decide +kernel
theorem dX0_countPlaced_4 : decode cX0_countPlaced 4 = .ok (.iload_n 2, 1) := by decide +kernel
theorem dX0_countPlaced_5 : decode cX0_countPlaced 5 = .ok (.bipush 6, 2) := by decide +kernel
theorem dX0_countPlaced_7 : decode cX0_countPlaced 7 = .ok (.if_icmp .ge 21, 3) := by decide +kernel
theorem dX0_countPlaced_10 : decode cX0_countPlaced 10 = .ok (.iload_n 1, 1) := by decide +kernel
theorem dX0_countPlaced_11 : decode cX0_countPlaced 11 = .ok (.aload_n 0, 1) := by decide +kernel
theorem dX0_countPlaced_12 : decode cX0_countPlaced 12 = .ok (.getfield 19, 3) := by decide +kernel
theorem dX0_countPlaced_15 : decode cX0_countPlaced 15 = .ok (.iload_n 2, 1) := by decide +kernel
theorem dX0_countPlaced_16 : decode cX0_countPlaced 16 = .ok (.aaload, 1) := by decide +kernel
theorem dX0_countPlaced_17 : decode cX0_countPlaced 17 = .ok (.getfield 77, 3) := by decide +kernel
theorem dX0_countPlaced_20 : decode cX0_countPlaced 20 = .ok (.iadd, 1) := by decide +kernel
theorem dX0_countPlaced_21 : decode cX0_countPlaced 21 = .ok (.istore_n 1, 1) := by decide +kernel
theorem dX0_countPlaced_22 : decode cX0_countPlaced 22 = .ok (.iinc 2 1, 3) := by decide +kernel
theorem dX0_countPlaced_25 : decode cX0_countPlaced 25 = .ok (.goto (-21), 3) := by decide +kernel
theorem dX0_countPlaced_28 : decode cX0_countPlaced 28 = .ok (.iload_n 1, 1) := by decide +kernel
theorem dX0_countPlaced_29 : decode cX0_countPlaced 29 = .ok (.ireturn, 1) := by decide +kernel
theorem dX0_sumOfTotals_0 : decode cX0_sumOfTotals 0 = .ok (.iconst 0, 1) := by decide +kernel
theorem dX0_sumOfTotals_1 : decode cX0_sumOfTotals 1 = .ok (.istore_n 1, 1) := by decide +kernel
theorem dX0_sumOfTotals_2 : decode cX0_sumOfTotals 2 = .ok (.iconst 0, 1) := by decide +kernel
theorem dX0_sumOfTotals_3 : decode cX0_sumOfTotals 3 = .ok (.istore_n 2, 1) := by decide +kernel
theorem dX0_sumOfTotals_4 : decode cX0_sumOfTotals 4 = .ok (.iload_n 2, 1) := by decide +kernel
theorem dX0_sumOfTotals_5 : decode cX0_sumOfTotals 5 = .ok (.aload_n 0, 1) := by decide +kernel
theorem dX0_sumOfTotals_6 : decode cX0_sumOfTotals 6 = .ok (.getfield 30, 3) := by decide +kernel
theorem dX0_sumOfTotals_9 : decode cX0_sumOfTotals 9 = .ok (.if_icmp .ge 26, 3) := by decide +kernel
theorem dX0_sumOfTotals_12 : decode cX0_sumOfTotals 12 = .ok (.iload_n 2, 1) := by decide +kernel
theorem dX0_sumOfTotals_13 : decode cX0_sumOfTotals 13 = .ok (.iconst 4, 1) := by decide +kernel
theorem dX0_sumOfTotals_14 : decode cX0_sumOfTotals 14 = .ok (.if_icmp .ge 21, 3) := by decide +kernel
theorem dX0_sumOfTotals_17 : decode cX0_sumOfTotals 17 = .ok (.iload_n 1, 1) := by decide +kernel
theorem dX0_sumOfTotals_18 : decode cX0_sumOfTotals 18 = .ok (.aload_n 0, 1) := by decide +kernel
theorem dX0_sumOfTotals_19 : decode cX0_sumOfTotals 19 = .ok (.getfield 11, 3) := by decide +kernel
theorem dX0_sumOfTotals_22 : decode cX0_sumOfTotals 22 = .ok (.iload_n 2, 1) := by decide +kernel
theorem dX0_sumOfTotals_23 : decode cX0_sumOfTotals 23 = .ok (.aaload, 1) := by decide +kernel
theorem dX0_sumOfTotals_24 : decode cX0_sumOfTotals 24 = .ok (.invokevirtual 107, 3) := by decide +kernel
theorem dX0_sumOfTotals_27 : decode cX0_sumOfTotals 27 = .ok (.iadd, 1) := by decide +kernel
theorem dX0_sumOfTotals_28 : decode cX0_sumOfTotals 28 = .ok (.istore_n 1, 1) := by decide +kernel
theorem dX0_sumOfTotals_29 : decode cX0_sumOfTotals 29 = .ok (.iinc 2 1, 3) := by decide +kernel
theorem dX0_sumOfTotals_32 : decode cX0_sumOfTotals 32 = .ok (.goto (-28), 3) := by decide +kernel
theorem dX0_sumOfTotals_35 : decode cX0_sumOfTotals 35 = .ok (.iload_n 1, 1) := by decide +kernel
theorem dX0_sumOfTotals_36 : decode cX0_sumOfTotals 36 = .ok (.ireturn, 1) := by decide +kernel
theorem dX0_findLeader_0 : decode cX0_findLeader 0 = .ok (.iconst (-1), 1) := by decide +kernel
theorem dX0_findLeader_1 : decode cX0_findLeader 1 = .ok (.istore_n 1, 1) := by decide +kernel
theorem dX0_findLeader_2 : decode cX0_findLeader 2 = .ok (.iconst 0, 1) := by decide +kernel
theorem dX0_findLeader_3 : decode cX0_findLeader 3 = .ok (.istore_n 2, 1) := by decide +kernel
theorem dX0_findLeader_4 : decode cX0_findLeader 4 = .ok (.iconst 0, 1) := by decide +kernel
theorem dX0_findLeader_5 : decode cX0_findLeader 5 = .ok (.istore_n 3, 1) := by decide +kernel
theorem dX0_findLeader_6 : decode cX0_findLeader 6 = .ok (.iload_n 3, 1) := by decide +kernel
theorem dX0_findLeader_7 : decode cX0_findLeader 7 = .ok (.aload_n 0, 1) := by decide +kernel
theorem dX0_findLeader_8 : decode cX0_findLeader 8 = .ok (.getfield 30, 3) := by decide +kernel
theorem dX0_findLeader_11 : decode cX0_findLeader 11 = .ok (.if_icmp .ge 41, 3) := by decide +kernel
theorem dX0_findLeader_14 : decode cX0_findLeader 14 = .ok (.iload_n 3, 1) := by decide +kernel
theorem dX0_findLeader_15 : decode cX0_findLeader 15 = .ok (.iconst 4, 1) := by decide +kernel
theorem dX0_findLeader_16 : decode cX0_findLeader 16 = .ok (.if_icmp .ge 36, 3) := by decide +kernel
theorem dX0_findLeader_19 : decode cX0_findLeader 19 = .ok (.aload_n 0, 1) := by decide +kernel
theorem dX0_findLeader_20 : decode cX0_findLeader 20 = .ok (.getfield 11, 3) := by decide +kernel
theorem dX0_findLeader_23 : decode cX0_findLeader 23 = .ok (.iload_n 3, 1) := by decide +kernel
theorem dX0_findLeader_24 : decode cX0_findLeader 24 = .ok (.aaload, 1) := by decide +kernel
theorem dX0_findLeader_25 : decode cX0_findLeader 25 = .ok (.invokevirtual 107, 3) := by decide +kernel
theorem dX0_findLeader_28 : decode cX0_findLeader 28 = .ok (.istore 4, 2) := by decide +kernel
theorem dX0_findLeader_30 : decode cX0_findLeader 30 = .ok (.iload_n 1, 1) := by decide +kernel
theorem dX0_findLeader_31 : decode cX0_findLeader 31 = .ok (.iconst (-1), 1) := by decide +kernel
theorem dX0_findLeader_32 : decode cX0_findLeader 32 = .ok (.if_icmp .eq 9, 3) := by decide +kernel
theorem dX0_findLeader_35 : decode cX0_findLeader 35 = .ok (.iload 4, 2) := by decide +kernel
theorem dX0_findLeader_37 : decode cX0_findLeader 37 = .ok (.iload_n 2, 1) := by decide +kernel
theorem dX0_findLeader_38 : decode cX0_findLeader 38 = .ok (.if_icmp .le 8, 3) := by decide +kernel
theorem dX0_findLeader_41 : decode cX0_findLeader 41 = .ok (.iload_n 3, 1) := by decide +kernel
theorem dX0_findLeader_42 : decode cX0_findLeader 42 = .ok (.istore_n 1, 1) := by decide +kernel
theorem dX0_findLeader_43 : decode cX0_findLeader 43 = .ok (.iload 4, 2) := by decide +kernel
theorem dX0_findLeader_45 : decode cX0_findLeader 45 = .ok (.istore_n 2, 1) := by decide +kernel
theorem dX0_findLeader_46 : decode cX0_findLeader 46 = .ok (.iinc 3 1, 3) := by decide +kernel
theorem dX0_findLeader_49 : decode cX0_findLeader 49 = .ok (.goto (-43), 3) := by decide +kernel
theorem dX0_findLeader_52 : decode cX0_findLeader 52 = .ok (.iload_n 1, 1) := by decide +kernel
theorem dX0_findLeader_53 : decode cX0_findLeader 53 = .ok (.ireturn, 1) := by decide +kernel
theorem dX0_findBumped_0 : decode cX0_findBumped 0 = .ok (.aload_n 0, 1) := by decide +kernel
theorem dX0_findBumped_1 : decode cX0_findBumped 1 = .ok (.getfield 19, 3) := by decide +kernel
theorem dX0_findBumped_4 : decode cX0_findBumped 4 = .ok (.iload_n 1, 1) := by decide +kernel
theorem dX0_findBumped_5 : decode cX0_findBumped 5 = .ok (.aaload, 1) := by decide +kernel
theorem dX0_findBumped_6 : decode cX0_findBumped 6 = .ok (.astore_n 2, 1) := by decide +kernel
theorem dX0_findBumped_7 : decode cX0_findBumped 7 = .ok (.aload_n 2, 1) := by decide +kernel
theorem dX0_findBumped_8 : decode cX0_findBumped 8 = .ok (.getfield 77, 3) := by decide +kernel
theorem dX0_findBumped_11 : decode cX0_findBumped 11 = .ok (.aload_n 0, 1) := by decide +kernel
theorem dX0_findBumped_12 : decode cX0_findBumped 12 = .ok (.getfield 27, 3) := by decide +kernel
theorem dX0_findBumped_15 : decode cX0_findBumped 15 = .ok (.iconst 2, 1) := by decide +kernel
theorem dX0_findBumped_16 : decode cX0_findBumped 16 = .ok (.iaload, 1) := by decide +kernel
theorem dX0_findBumped_17 : decode cX0_findBumped 17 = .ok (.if_icmp .ge 7, 3) := by decide +kernel
theorem dX0_findBumped_20 : decode cX0_findBumped 20 = .ok (.iconst (-1), 1) := by decide +kernel
theorem dX0_findBumped_21 : decode cX0_findBumped 21 = .ok (.goto 15, 3) := by decide +kernel
theorem dX0_findBumped_24 : decode cX0_findBumped 24 = .ok (.aload_n 2, 1) := by decide +kernel
theorem dX0_findBumped_25 : decode cX0_findBumped 25 = .ok (.aload_n 2, 1) := by decide +kernel
theorem dX0_findBumped_26 : decode cX0_findBumped 26 = .ok (.aload_n 0, 1) := by decide +kernel
theorem dX0_findBumped_27 : decode cX0_findBumped 27 = .ok (.getfield 34, 3) := by decide +kernel
theorem dX0_findBumped_30 : decode cX0_findBumped 30 = .ok (.invokevirtual 110, 3) := by decide +kernel
theorem dX0_findBumped_33 : decode cX0_findBumped 33 = .ok (.invokevirtual 114, 3) := by decide +kernel
theorem dX0_findBumped_36 : decode cX0_findBumped 36 = .ok (.ireturn, 1) := by decide +kernel
theorem dX0_tryPlacing_0 : decode cX0_tryPlacing 0 = .ok (.aload_n 0, 1) := by decide +kernel
theorem dX0_tryPlacing_1 : decode cX0_tryPlacing 1 = .ok (.invokevirtual 96, 3) := by decide +kernel
theorem dX0_tryPlacing_4 : decode cX0_tryPlacing 4 = .ok (.ifCond .ne 5, 3) := by decide +kernel
theorem dX0_tryPlacing_7 : decode cX0_tryPlacing 7 = .ok (.iconst 0, 1) := by decide +kernel
theorem dX0_tryPlacing_8 : decode cX0_tryPlacing 8 = .ok (.ireturn, 1) := by decide +kernel
theorem dX0_tryPlacing_9 : decode cX0_tryPlacing 9 = .ok (.aload_n 0, 1) := by decide +kernel
theorem dX0_tryPlacing_10 : decode cX0_tryPlacing 10 = .ok (.getfield 57, 3) := by decide +kernel
theorem dX0_tryPlacing_13 : decode cX0_tryPlacing 13 = .ok (.aload_n 0, 1) := by decide +kernel
theorem dX0_tryPlacing_14 : decode cX0_tryPlacing 14 = .ok (.getfield 11, 3) := by decide +kernel
theorem dX0_tryPlacing_17 : decode cX0_tryPlacing 17 = .ok (.aload_n 0, 1) := by decide +kernel
theorem dX0_tryPlacing_18 : decode cX0_tryPlacing 18 = .ok (.getfield 34, 3) := by decide +kernel
theorem dX0_tryPlacing_21 : decode cX0_tryPlacing 21 = .ok (.aaload, 1) := by decide +kernel
theorem dX0_tryPlacing_22 : decode cX0_tryPlacing 22 = .ok (.invokevirtual 89, 3) := by decide +kernel
theorem dX0_tryPlacing_25 : decode cX0_tryPlacing 25 = .ok (.aload_n 0, 1) := by decide +kernel
theorem dX0_tryPlacing_26 : decode cX0_tryPlacing 26 = .ok (.getfield 57, 3) := by decide +kernel
theorem dX0_tryPlacing_29 : decode cX0_tryPlacing 29 = .ok (.dup, 1) := by decide +kernel
theorem dX0_tryPlacing_30 : decode cX0_tryPlacing 30 = .ok (.getfield 117, 3) := by decide +kernel
theorem dX0_tryPlacing_33 : decode cX0_tryPlacing 33 = .ok (.iconst 1, 1) := by decide +kernel
theorem dX0_tryPlacing_34 : decode cX0_tryPlacing 34 = .ok (.isub, 1) := by decide +kernel
theorem dX0_tryPlacing_35 : decode cX0_tryPlacing 35 = .ok (.putfield 117, 3) := by decide +kernel
theorem dX0_tryPlacing_38 : decode cX0_tryPlacing 38 = .ok (.aload_n 0, 1) := by decide +kernel
theorem dX0_tryPlacing_39 : decode cX0_tryPlacing 39 = .ok (.getfield 19, 3) := by decide +kernel
theorem dX0_tryPlacing_42 : decode cX0_tryPlacing 42 = .ok (.iload_n 1, 1) := by decide +kernel
theorem dX0_tryPlacing_43 : decode cX0_tryPlacing 43 = .ok (.aaload, 1) := by decide +kernel
theorem dX0_tryPlacing_44 : decode cX0_tryPlacing 44 = .ok (.getfield 77, 3) := by decide +kernel
theorem dX0_tryPlacing_47 : decode cX0_tryPlacing 47 = .ok (.aload_n 0, 1) := by decide +kernel
theorem dX0_tryPlacing_48 : decode cX0_tryPlacing 48 = .ok (.getfield 27, 3) := by decide +kernel
theorem dX0_tryPlacing_51 : decode cX0_tryPlacing 51 = .ok (.iconst 2, 1) := by decide +kernel
theorem dX0_tryPlacing_52 : decode cX0_tryPlacing 52 = .ok (.iaload, 1) := by decide +kernel
theorem dX0_tryPlacing_53 : decode cX0_tryPlacing 53 = .ok (.if_icmp .lt 7, 3) := by decide +kernel
theorem dX0_tryPlacing_56 : decode cX0_tryPlacing 56 = .ok (.iconst 1, 1) := by decide +kernel
theorem dX0_tryPlacing_57 : decode cX0_tryPlacing 57 = .ok (.goto 4, 3) := by decide +kernel
theorem dX0_tryPlacing_60 : decode cX0_tryPlacing 60 = .ok (.iconst 0, 1) := by decide +kernel
theorem dX0_tryPlacing_61 : decode cX0_tryPlacing 61 = .ok (.istore_n 3, 1) := by decide +kernel
theorem dX0_tryPlacing_62 : decode cX0_tryPlacing 62 = .ok (.iload_n 3, 1) := by decide +kernel
theorem dX0_tryPlacing_63 : decode cX0_tryPlacing 63 = .ok (.ifCond .eq 30, 3) := by decide +kernel
theorem dX0_tryPlacing_66 : decode cX0_tryPlacing 66 = .ok (.aload_n 0, 1) := by decide +kernel
theorem dX0_tryPlacing_67 : decode cX0_tryPlacing 67 = .ok (.iload_n 1, 1) := by decide +kernel
theorem dX0_tryPlacing_68 : decode cX0_tryPlacing 68 = .ok (.invokevirtual 120, 3) := by decide +kernel
theorem dX0_tryPlacing_71 : decode cX0_tryPlacing 71 = .ok (.iconst (-1), 1) := by decide +kernel
theorem dX0_tryPlacing_72 : decode cX0_tryPlacing 72 = .ok (.if_icmp .eq 19, 3) := by decide +kernel
theorem dX0_tryPlacing_75 : decode cX0_tryPlacing 75 = .ok (.aload_n 0, 1) := by decide +kernel
theorem dX0_tryPlacing_76 : decode cX0_tryPlacing 76 = .ok (.getfield 57, 3) := by decide +kernel
theorem dX0_tryPlacing_79 : decode cX0_tryPlacing 79 = .ok (.aload_n 0, 1) := by decide +kernel
theorem dX0_tryPlacing_80 : decode cX0_tryPlacing 80 = .ok (.getfield 27, 3) := by decide +kernel
theorem dX0_tryPlacing_83 : decode cX0_tryPlacing 83 = .ok (.iconst 1, 1) := by decide +kernel
theorem dX0_tryPlacing_84 : decode cX0_tryPlacing 84 = .ok (.iaload, 1) := by decide +kernel
theorem dX0_tryPlacing_85 : decode cX0_tryPlacing 85 = .ok (.invokevirtual 123, 3) := by decide +kernel
theorem dX0_tryPlacing_88 : decode cX0_tryPlacing 88 = .ok (.ifCond .ne 5, 3) := by decide +kernel
theorem dX0_tryPlacing_91 : decode cX0_tryPlacing 91 = .ok (.iconst 0, 1) := by decide +kernel
theorem dX0_tryPlacing_92 : decode cX0_tryPlacing 92 = .ok (.ireturn, 1) := by decide +kernel
theorem dX0_tryPlacing_93 : decode cX0_tryPlacing 93 = .ok (.iload_n 1, 1) := by decide +kernel
theorem dX0_tryPlacing_94 : decode cX0_tryPlacing 94 = .ok (.tableswitch 107 0 4 #[34, 48, 65, 74, 99], 34) := by decide +kernel
theorem dX0_tryPlacing_128 : decode cX0_tryPlacing 128 = .ok (.aload_n 0, 1) := by decide +kernel
theorem dX0_tryPlacing_129 : decode cX0_tryPlacing 129 = .ok (.getfield 57, 3) := by decide +kernel
theorem dX0_tryPlacing_132 : decode cX0_tryPlacing 132 = .ok (.iconst 0, 1) := by decide +kernel
theorem dX0_tryPlacing_133 : decode cX0_tryPlacing 133 = .ok (.aload_n 0, 1) := by decide +kernel
theorem dX0_tryPlacing_134 : decode cX0_tryPlacing 134 = .ok (.getfield 40, 3) := by decide +kernel
theorem dX0_tryPlacing_137 : decode cX0_tryPlacing 137 = .ok (.invokevirtual 127, 3) := by decide +kernel
theorem dX0_tryPlacing_140 : decode cX0_tryPlacing 140 = .ok (.iconst 1, 1) := by decide +kernel
theorem dX0_tryPlacing_141 : decode cX0_tryPlacing 141 = .ok (.ireturn, 1) := by decide +kernel
theorem dX0_tryPlacing_142 : decode cX0_tryPlacing 142 = .ok (.aload_n 0, 1) := by decide +kernel
theorem dX0_tryPlacing_143 : decode cX0_tryPlacing 143 = .ok (.getfield 57, 3) := by decide +kernel
theorem dX0_tryPlacing_146 : decode cX0_tryPlacing 146 = .ok (.iconst 1, 1) := by decide +kernel
theorem dX0_tryPlacing_147 : decode cX0_tryPlacing 147 = .ok (.bipush 7, 2) := by decide +kernel
theorem dX0_tryPlacing_149 : decode cX0_tryPlacing 149 = .ok (.aload_n 0, 1) := by decide +kernel
theorem dX0_tryPlacing_150 : decode cX0_tryPlacing 150 = .ok (.getfield 40, 3) := by decide +kernel
theorem dX0_tryPlacing_153 : decode cX0_tryPlacing 153 = .ok (.isub, 1) := by decide +kernel
theorem dX0_tryPlacing_154 : decode cX0_tryPlacing 154 = .ok (.invokevirtual 127, 3) := by decide +kernel
theorem dX0_tryPlacing_157 : decode cX0_tryPlacing 157 = .ok (.iconst 1, 1) := by decide +kernel
theorem dX0_tryPlacing_158 : decode cX0_tryPlacing 158 = .ok (.ireturn, 1) := by decide +kernel
theorem dX0_tryPlacing_159 : decode cX0_tryPlacing 159 = .ok (.aload_n 0, 1) := by decide +kernel
theorem dX0_tryPlacing_160 : decode cX0_tryPlacing 160 = .ok (.getfield 57, 3) := by decide +kernel
theorem dX0_tryPlacing_163 : decode cX0_tryPlacing 163 = .ok (.iload_n 2, 1) := by decide +kernel
theorem dX0_tryPlacing_164 : decode cX0_tryPlacing 164 = .ok (.invokevirtual 131, 3) := by decide +kernel
theorem dX0_tryPlacing_167 : decode cX0_tryPlacing 167 = .ok (.ireturn, 1) := by decide +kernel
theorem dX0_tryPlacing_168 : decode cX0_tryPlacing 168 = .ok (.aload_n 0, 1) := by decide +kernel
theorem dX0_tryPlacing_169 : decode cX0_tryPlacing 169 = .ok (.getfield 57, 3) := by decide +kernel
theorem dX0_tryPlacing_172 : decode cX0_tryPlacing 172 = .ok (.iload_n 2, 1) := by decide +kernel
theorem dX0_tryPlacing_173 : decode cX0_tryPlacing 173 = .ok (.bipush 10, 2) := by decide +kernel
theorem dX0_tryPlacing_175 : decode cX0_tryPlacing 175 = .ok (.idiv, 1) := by decide +kernel
theorem dX0_tryPlacing_176 : decode cX0_tryPlacing 176 = .ok (.iload_n 2, 1) := by decide +kernel
theorem dX0_tryPlacing_177 : decode cX0_tryPlacing 177 = .ok (.bipush 10, 2) := by decide +kernel
theorem dX0_tryPlacing_179 : decode cX0_tryPlacing 179 = .ok (.irem, 1) := by decide +kernel
theorem dX0_tryPlacing_180 : decode cX0_tryPlacing 180 = .ok (.aload_n 0, 1) := by decide +kernel
theorem dX0_tryPlacing_181 : decode cX0_tryPlacing 181 = .ok (.getfield 23, 3) := by decide +kernel
theorem dX0_tryPlacing_184 : decode cX0_tryPlacing 184 = .ok (.iload_n 2, 1) := by decide +kernel
theorem dX0_tryPlacing_185 : decode cX0_tryPlacing 185 = .ok (.bipush 10, 2) := by decide +kernel
theorem dX0_tryPlacing_187 : decode cX0_tryPlacing 187 = .ok (.idiv, 1) := by decide +kernel
theorem dX0_tryPlacing_188 : decode cX0_tryPlacing 188 = .ok (.iaload, 1) := by decide +kernel
theorem dX0_tryPlacing_189 : decode cX0_tryPlacing 189 = .ok (.invokevirtual 134, 3) := by decide +kernel
theorem dX0_tryPlacing_192 : decode cX0_tryPlacing 192 = .ok (.ireturn, 1) := by decide +kernel
theorem dX0_tryPlacing_193 : decode cX0_tryPlacing 193 = .ok (.aload_n 0, 1) := by decide +kernel
theorem dX0_tryPlacing_194 : decode cX0_tryPlacing 194 = .ok (.getfield 57, 3) := by decide +kernel
theorem dX0_tryPlacing_197 : decode cX0_tryPlacing 197 = .ok (.invokevirtual 138, 3) := by decide +kernel
theorem dX0_tryPlacing_200 : decode cX0_tryPlacing 200 = .ok (.ireturn, 1) := by decide +kernel
theorem dX0_tryPlacing_201 : decode cX0_tryPlacing 201 = .ok (.aload_n 0, 1) := by decide +kernel
theorem dX0_tryPlacing_202 : decode cX0_tryPlacing 202 = .ok (.getfield 57, 3) := by decide +kernel
theorem dX0_tryPlacing_205 : decode cX0_tryPlacing 205 = .ok (.invokevirtual 141, 3) := by decide +kernel
theorem dX0_tryPlacing_208 : decode cX0_tryPlacing 208 = .ok (.ireturn, 1) := by decide +kernel
theorem dX0_putWorker_0 : decode cX0_putWorker 0 = .ok (.aload_n 0, 1) := by decide +kernel
theorem dX0_putWorker_1 : decode cX0_putWorker 1 = .ok (.iload_n 1, 1) := by decide +kernel
theorem dX0_putWorker_2 : decode cX0_putWorker 2 = .ok (.iload_n 2, 1) := by decide +kernel
theorem dX0_putWorker_3 : decode cX0_putWorker 3 = .ok (.invokevirtual 144, 3) := by decide +kernel
theorem dX0_putWorker_6 : decode cX0_putWorker 6 = .ok (.ifCond .ne 5, 3) := by decide +kernel
theorem dX0_putWorker_9 : decode cX0_putWorker 9 = .ok (.iconst 0, 1) := by decide +kernel
theorem dX0_putWorker_10 : decode cX0_putWorker 10 = .ok (.ireturn, 1) := by decide +kernel
theorem dX0_putWorker_11 : decode cX0_putWorker 11 = .ok (.aload_n 0, 1) := by decide +kernel
theorem dX0_putWorker_12 : decode cX0_putWorker 12 = .ok (.iload_n 1, 1) := by decide +kernel
theorem dX0_putWorker_13 : decode cX0_putWorker 13 = .ok (.invokevirtual 120, 3) := by decide +kernel
theorem dX0_putWorker_16 : decode cX0_putWorker 16 = .ok (.istore_n 3, 1) := by decide +kernel
theorem dX0_putWorker_17 : decode cX0_putWorker 17 = .ok (.iload_n 3, 1) := by decide +kernel
theorem dX0_putWorker_18 : decode cX0_putWorker 18 = .ok (.iconst (-1), 1) := by decide +kernel
theorem dX0_putWorker_19 : decode cX0_putWorker 19 = .ok (.if_icmp .eq 55, 3) := by decide +kernel
theorem dX0_putWorker_22 : decode cX0_putWorker 22 = .ok (.aload_n 0, 1) := by decide +kernel
theorem dX0_putWorker_23 : decode cX0_putWorker 23 = .ok (.getfield 11, 3) := by decide +kernel
theorem dX0_putWorker_26 : decode cX0_putWorker 26 = .ok (.iload_n 3, 1) := by decide +kernel
theorem dX0_putWorker_27 : decode cX0_putWorker 27 = .ok (.aaload, 1) := by decide +kernel
theorem dX0_putWorker_28 : decode cX0_putWorker 28 = .ok (.dup, 1) := by decide +kernel
theorem dX0_putWorker_29 : decode cX0_putWorker 29 = .ok (.getfield 148, 3) := by decide +kernel
theorem dX0_putWorker_32 : decode cX0_putWorker 32 = .ok (.aload_n 0, 1) := by decide +kernel
theorem dX0_putWorker_33 : decode cX0_putWorker 33 = .ok (.getfield 27, 3) := by decide +kernel
theorem dX0_putWorker_36 : decode cX0_putWorker 36 = .ok (.iconst 1, 1) := by decide +kernel
theorem dX0_putWorker_37 : decode cX0_putWorker 37 = .ok (.iaload, 1) := by decide +kernel
theorem dX0_putWorker_38 : decode cX0_putWorker 38 = .ok (.iadd, 1) := by decide +kernel
theorem dX0_putWorker_39 : decode cX0_putWorker 39 = .ok (.putfield 148, 3) := by decide +kernel
theorem dX0_putWorker_42 : decode cX0_putWorker 42 = .ok (.aload_n 0, 1) := by decide +kernel
theorem dX0_putWorker_43 : decode cX0_putWorker 43 = .ok (.getfield 19, 3) := by decide +kernel
theorem dX0_putWorker_46 : decode cX0_putWorker 46 = .ok (.iload_n 1, 1) := by decide +kernel
theorem dX0_putWorker_47 : decode cX0_putWorker 47 = .ok (.aaload, 1) := by decide +kernel
theorem dX0_putWorker_48 : decode cX0_putWorker 48 = .ok (.aload_n 0, 1) := by decide +kernel
theorem dX0_putWorker_49 : decode cX0_putWorker 49 = .ok (.getfield 19, 3) := by decide +kernel
theorem dX0_putWorker_52 : decode cX0_putWorker 52 = .ok (.iload_n 1, 1) := by decide +kernel
theorem dX0_putWorker_53 : decode cX0_putWorker 53 = .ok (.aaload, 1) := by decide +kernel
theorem dX0_putWorker_54 : decode cX0_putWorker 54 = .ok (.aload_n 0, 1) := by decide +kernel
theorem dX0_putWorker_55 : decode cX0_putWorker 55 = .ok (.getfield 34, 3) := by decide +kernel
theorem dX0_putWorker_58 : decode cX0_putWorker 58 = .ok (.invokevirtual 110, 3) := by decide +kernel
theorem dX0_putWorker_61 : decode cX0_putWorker 61 = .ok (.invokevirtual 151, 3) := by decide +kernel
theorem dX0_putWorker_64 : decode cX0_putWorker 64 = .ok (.aload_n 0, 1) := by decide +kernel
theorem dX0_putWorker_65 : decode cX0_putWorker 65 = .ok (.dup, 1) := by decide +kernel
theorem dX0_putWorker_66 : decode cX0_putWorker 66 = .ok (.getfield 46, 3) := by decide +kernel
theorem dX0_putWorker_69 : decode cX0_putWorker 69 = .ok (.iconst 1, 1) := by decide +kernel
theorem dX0_putWorker_70 : decode cX0_putWorker 70 = .ok (.iadd, 1) := by decide +kernel
theorem dX0_putWorker_71 : decode cX0_putWorker 71 = .ok (.putfield 46, 3) := by decide +kernel
theorem dX0_putWorker_74 : decode cX0_putWorker 74 = .ok (.aload_n 0, 1) := by decide +kernel
theorem dX0_putWorker_75 : decode cX0_putWorker 75 = .ok (.getfield 19, 3) := by decide +kernel
theorem dX0_putWorker_78 : decode cX0_putWorker 78 = .ok (.iload_n 1, 1) := by decide +kernel
theorem dX0_putWorker_79 : decode cX0_putWorker 79 = .ok (.aaload, 1) := by decide +kernel
theorem dX0_putWorker_80 : decode cX0_putWorker 80 = .ok (.aload_n 0, 1) := by decide +kernel
theorem dX0_putWorker_81 : decode cX0_putWorker 81 = .ok (.getfield 34, 3) := by decide +kernel
theorem dX0_putWorker_84 : decode cX0_putWorker 84 = .ok (.invokevirtual 155, 3) := by decide +kernel
theorem dX0_putWorker_87 : decode cX0_putWorker 87 = .ok (.aload_n 0, 1) := by decide +kernel
theorem dX0_putWorker_88 : decode cX0_putWorker 88 = .ok (.getfield 11, 3) := by decide +kernel
theorem dX0_putWorker_91 : decode cX0_putWorker 91 = .ok (.aload_n 0, 1) := by decide +kernel
theorem dX0_putWorker_92 : decode cX0_putWorker 92 = .ok (.getfield 34, 3) := by decide +kernel
theorem dX0_putWorker_95 : decode cX0_putWorker 95 = .ok (.aaload, 1) := by decide +kernel
theorem dX0_putWorker_96 : decode cX0_putWorker 96 = .ok (.aload_n 0, 1) := by decide +kernel
theorem dX0_putWorker_97 : decode cX0_putWorker 97 = .ok (.getfield 57, 3) := by decide +kernel
theorem dX0_putWorker_100 : decode cX0_putWorker 100 = .ok (.invokevirtual 89, 3) := by decide +kernel
theorem dX0_putWorker_103 : decode cX0_putWorker 103 = .ok (.iload_n 1, 1) := by decide +kernel
theorem dX0_putWorker_104 : decode cX0_putWorker 104 = .ok (.iconst 3, 1) := by decide +kernel
theorem dX0_putWorker_105 : decode cX0_putWorker 105 = .ok (.if_icmp .ne 32, 3) := by decide +kernel
theorem dX0_putWorker_108 : decode cX0_putWorker 108 = .ok (.iload_n 2, 1) := by decide +kernel
theorem dX0_putWorker_109 : decode cX0_putWorker 109 = .ok (.bipush 10, 2) := by decide +kernel
theorem dX0_putWorker_111 : decode cX0_putWorker 111 = .ok (.idiv, 1) := by decide +kernel
theorem dX0_putWorker_112 : decode cX0_putWorker 112 = .ok (.istore 4, 2) := by decide +kernel
theorem dX0_putWorker_114 : decode cX0_putWorker 114 = .ok (.aload_n 0, 1) := by decide +kernel
theorem dX0_putWorker_115 : decode cX0_putWorker 115 = .ok (.getfield 23, 3) := by decide +kernel
theorem dX0_putWorker_118 : decode cX0_putWorker 118 = .ok (.iload 4, 2) := by decide +kernel
theorem dX0_putWorker_120 : decode cX0_putWorker 120 = .ok (.iconst 1, 1) := by decide +kernel
theorem dX0_putWorker_121 : decode cX0_putWorker 121 = .ok (.aload_n 0, 1) := by decide +kernel
theorem dX0_putWorker_122 : decode cX0_putWorker 122 = .ok (.getfield 23, 3) := by decide +kernel
theorem dX0_putWorker_125 : decode cX0_putWorker 125 = .ok (.iload 4, 2) := by decide +kernel
theorem dX0_putWorker_127 : decode cX0_putWorker 127 = .ok (.iaload, 1) := by decide +kernel
theorem dX0_putWorker_128 : decode cX0_putWorker 128 = .ok (.iload_n 2, 1) := by decide +kernel
theorem dX0_putWorker_129 : decode cX0_putWorker 129 = .ok (.bipush 10, 2) := by decide +kernel
theorem dX0_putWorker_131 : decode cX0_putWorker 131 = .ok (.irem, 1) := by decide +kernel
theorem dX0_putWorker_132 : decode cX0_putWorker 132 = .ok (.isub, 1) := by decide +kernel
theorem dX0_putWorker_133 : decode cX0_putWorker 133 = .ok (.invokestatic 158, 3) := by decide +kernel
theorem dX0_putWorker_136 : decode cX0_putWorker 136 = .ok (.iastore, 1) := by decide +kernel
theorem dX0_putWorker_137 : decode cX0_putWorker 137 = .ok (.aload_n 0, 1) := by decide +kernel
theorem dX0_putWorker_138 : decode cX0_putWorker 138 = .ok (.invokevirtual 164, 3) := by decide +kernel
theorem dX0_putWorker_141 : decode cX0_putWorker 141 = .ok (.iconst 1, 1) := by decide +kernel
theorem dX0_putWorker_142 : decode cX0_putWorker 142 = .ok (.ireturn, 1) := by decide +kernel
theorem dX0_worth_0 : decode cX0_worth 0 = .ok (.aload_n 0, 1) := by decide +kernel
theorem dX0_worth_1 : decode cX0_worth 1 = .ok (.iload_n 1, 1) := by decide +kernel
theorem dX0_worth_2 : decode cX0_worth 2 = .ok (.iload_n 2, 1) := by decide +kernel
theorem dX0_worth_3 : decode cX0_worth 3 = .ok (.invokevirtual 144, 3) := by decide +kernel
theorem dX0_worth_6 : decode cX0_worth 6 = .ok (.ifCond .eq 10, 3) := by decide +kernel
theorem dX0_worth_9 : decode cX0_worth 9 = .ok (.aload_n 0, 1) := by decide +kernel
theorem dX0_worth_10 : decode cX0_worth 10 = .ok (.invokevirtual 167, 3) := by decide +kernel
theorem dX0_worth_13 : decode cX0_worth 13 = .ok (.goto 4, 3) := by decide +kernel
theorem dX0_worth_16 : decode cX0_worth 16 = .ok (.iconst (-1), 1) := by decide +kernel
theorem dX0_worth_17 : decode cX0_worth 17 = .ok (.ireturn, 1) := by decide +kernel
theorem dX0_worthOfTried_0 : decode cX0_worthOfTried 0 = .ok (.bipush 100, 2) := by decide +kernel
theorem dX0_worthOfTried_2 : decode cX0_worthOfTried 2 = .ok (.aload_n 0, 1) := by decide +kernel
theorem dX0_worthOfTried_3 : decode cX0_worthOfTried 3 = .ok (.getfield 57, 3) := by decide +kernel
theorem dX0_worthOfTried_6 : decode cX0_worthOfTried 6 = .ok (.invokevirtual 107, 3) := by decide +kernel
theorem dX0_worthOfTried_9 : decode cX0_worthOfTried 9 = .ok (.iadd, 1) := by decide +kernel
theorem dX0_worthOfTried_10 : decode cX0_worthOfTried 10 = .ok (.aload_n 0, 1) := by decide +kernel
theorem dX0_worthOfTried_11 : decode cX0_worthOfTried 11 = .ok (.getfield 11, 3) := by decide +kernel
theorem dX0_worthOfTried_14 : decode cX0_worthOfTried 14 = .ok (.aload_n 0, 1) := by decide +kernel
theorem dX0_worthOfTried_15 : decode cX0_worthOfTried 15 = .ok (.getfield 34, 3) := by decide +kernel
theorem dX0_worthOfTried_18 : decode cX0_worthOfTried 18 = .ok (.aaload, 1) := by decide +kernel
theorem dX0_worthOfTried_19 : decode cX0_worthOfTried 19 = .ok (.invokevirtual 107, 3) := by decide +kernel
theorem dX0_worthOfTried_22 : decode cX0_worthOfTried 22 = .ok (.isub, 1) := by decide +kernel
theorem dX0_worthOfTried_23 : decode cX0_worthOfTried 23 = .ok (.ireturn, 1) := by decide +kernel
theorem dX0_findBest_0 : decode cX0_findBest 0 = .ok (.aload_n 0, 1) := by decide +kernel
theorem dX0_findBest_1 : decode cX0_findBest 1 = .ok (.iconst (-1), 1) := by decide +kernel
theorem dX0_findBest_2 : decode cX0_findBest 2 = .ok (.putfield 61, 3) := by decide +kernel
theorem dX0_findBest_5 : decode cX0_findBest 5 = .ok (.iconst 0, 1) := by decide +kernel
theorem dX0_findBest_6 : decode cX0_findBest 6 = .ok (.istore_n 1, 1) := by decide +kernel
theorem dX0_findBest_7 : decode cX0_findBest 7 = .ok (.iload_n 1, 1) := by decide +kernel
theorem dX0_findBest_8 : decode cX0_findBest 8 = .ok (.getstatic 170, 3) := by decide +kernel
theorem dX0_findBest_11 : decode cX0_findBest 11 = .ok (.arraylength, 1) := by decide +kernel
theorem dX0_findBest_12 : decode cX0_findBest 12 = .ok (.if_icmp .ge 71, 3) := by decide +kernel
theorem dX0_findBest_15 : decode cX0_findBest 15 = .ok (.iload_n 1, 1) := by decide +kernel
theorem dX0_findBest_16 : decode cX0_findBest 16 = .ok (.getstatic 173, 3) := by decide +kernel
theorem dX0_findBest_19 : decode cX0_findBest 19 = .ok (.arraylength, 1) := by decide +kernel
theorem dX0_findBest_20 : decode cX0_findBest 20 = .ok (.if_icmp .ge 63, 3) := by decide +kernel
theorem dX0_findBest_23 : decode cX0_findBest 23 = .ok (.aload_n 0, 1) := by decide +kernel
theorem dX0_findBest_24 : decode cX0_findBest 24 = .ok (.getstatic 170, 3) := by decide +kernel
theorem dX0_findBest_27 : decode cX0_findBest 27 = .ok (.iload_n 1, 1) := by decide +kernel
theorem dX0_findBest_28 : decode cX0_findBest 28 = .ok (.iaload, 1) := by decide +kernel
theorem dX0_findBest_29 : decode cX0_findBest 29 = .ok (.getstatic 173, 3) := by decide +kernel
theorem dX0_findBest_32 : decode cX0_findBest 32 = .ok (.iload_n 1, 1) := by decide +kernel
theorem dX0_findBest_33 : decode cX0_findBest 33 = .ok (.iaload, 1) := by decide +kernel
theorem dX0_findBest_34 : decode cX0_findBest 34 = .ok (.invokevirtual 144, 3) := by decide +kernel
theorem dX0_findBest_37 : decode cX0_findBest 37 = .ok (.ifCond .eq 40, 3) := by decide +kernel
theorem dX0_findBest_40 : decode cX0_findBest 40 = .ok (.aload_n 0, 1) := by decide +kernel
theorem dX0_findBest_41 : decode cX0_findBest 41 = .ok (.invokevirtual 167, 3) := by decide +kernel
theorem dX0_findBest_44 : decode cX0_findBest 44 = .ok (.aload_n 0, 1) := by decide +kernel
theorem dX0_findBest_45 : decode cX0_findBest 45 = .ok (.getfield 61, 3) := by decide +kernel
theorem dX0_findBest_48 : decode cX0_findBest 48 = .ok (.if_icmp .le 29, 3) := by decide +kernel
theorem dX0_findBest_51 : decode cX0_findBest 51 = .ok (.aload_n 0, 1) := by decide +kernel
theorem dX0_findBest_52 : decode cX0_findBest 52 = .ok (.aload_n 0, 1) := by decide +kernel
theorem dX0_findBest_53 : decode cX0_findBest 53 = .ok (.invokevirtual 167, 3) := by decide +kernel
theorem dX0_findBest_56 : decode cX0_findBest 56 = .ok (.putfield 61, 3) := by decide +kernel
theorem dX0_findBest_59 : decode cX0_findBest 59 = .ok (.aload_n 0, 1) := by decide +kernel
theorem dX0_findBest_60 : decode cX0_findBest 60 = .ok (.getstatic 170, 3) := by decide +kernel
theorem dX0_findBest_63 : decode cX0_findBest 63 = .ok (.iload_n 1, 1) := by decide +kernel
theorem dX0_findBest_64 : decode cX0_findBest 64 = .ok (.iaload, 1) := by decide +kernel
theorem dX0_findBest_65 : decode cX0_findBest 65 = .ok (.putfield 64, 3) := by decide +kernel
theorem dX0_findBest_68 : decode cX0_findBest 68 = .ok (.aload_n 0, 1) := by decide +kernel
theorem dX0_findBest_69 : decode cX0_findBest 69 = .ok (.getstatic 173, 3) := by decide +kernel
theorem dX0_findBest_72 : decode cX0_findBest 72 = .ok (.iload_n 1, 1) := by decide +kernel
theorem dX0_findBest_73 : decode cX0_findBest 73 = .ok (.iaload, 1) := by decide +kernel
theorem dX0_findBest_74 : decode cX0_findBest 74 = .ok (.putfield 67, 3) := by decide +kernel
theorem dX0_findBest_77 : decode cX0_findBest 77 = .ok (.iinc 1 1, 3) := by decide +kernel
theorem dX0_findBest_80 : decode cX0_findBest 80 = .ok (.goto (-73), 3) := by decide +kernel
theorem dX0_findBest_83 : decode cX0_findBest 83 = .ok (.aload_n 0, 1) := by decide +kernel
theorem dX0_findBest_84 : decode cX0_findBest 84 = .ok (.getfield 61, 3) := by decide +kernel
theorem dX0_findBest_87 : decode cX0_findBest 87 = .ok (.iconst (-1), 1) := by decide +kernel
theorem dX0_findBest_88 : decode cX0_findBest 88 = .ok (.if_icmp .eq 7, 3) := by decide +kernel
theorem dX0_findBest_91 : decode cX0_findBest 91 = .ok (.iconst 1, 1) := by decide +kernel
theorem dX0_findBest_92 : decode cX0_findBest 92 = .ok (.goto 4, 3) := by decide +kernel
theorem dX0_findBest_95 : decode cX0_findBest 95 = .ok (.iconst 0, 1) := by decide +kernel
theorem dX0_findBest_96 : decode cX0_findBest 96 = .ok (.ireturn, 1) := by decide +kernel
theorem dX0_passTurn_0 : decode cX0_passTurn 0 = .ok (.aload_n 0, 1) := by decide +kernel
theorem dX0_passTurn_1 : decode cX0_passTurn 1 = .ok (.invokevirtual 96, 3) := by decide +kernel
theorem dX0_passTurn_4 : decode cX0_passTurn 4 = .ok (.ifCond .ne 5, 3) := by decide +kernel
theorem dX0_passTurn_7 : decode cX0_passTurn 7 = .ok (.iconst 0, 1) := by decide +kernel
theorem dX0_passTurn_8 : decode cX0_passTurn 8 = .ok (.ireturn, 1) := by decide +kernel
theorem dX0_passTurn_9 : decode cX0_passTurn 9 = .ok (.aload_n 0, 1) := by decide +kernel
theorem dX0_passTurn_10 : decode cX0_passTurn 10 = .ok (.getfield 11, 3) := by decide +kernel
theorem dX0_passTurn_13 : decode cX0_passTurn 13 = .ok (.aload_n 0, 1) := by decide +kernel
theorem dX0_passTurn_14 : decode cX0_passTurn 14 = .ok (.getfield 34, 3) := by decide +kernel
theorem dX0_passTurn_17 : decode cX0_passTurn 17 = .ok (.aaload, 1) := by decide +kernel
theorem dX0_passTurn_18 : decode cX0_passTurn 18 = .ok (.iconst 1, 1) := by decide +kernel
theorem dX0_passTurn_19 : decode cX0_passTurn 19 = .ok (.putfield 176, 3) := by decide +kernel
theorem dX0_passTurn_22 : decode cX0_passTurn 22 = .ok (.aload_n 0, 1) := by decide +kernel
theorem dX0_passTurn_23 : decode cX0_passTurn 23 = .ok (.invokevirtual 164, 3) := by decide +kernel
theorem dX0_passTurn_26 : decode cX0_passTurn 26 = .ok (.iconst 1, 1) := by decide +kernel
theorem dX0_passTurn_27 : decode cX0_passTurn 27 = .ok (.ireturn, 1) := by decide +kernel
theorem dX0_playTurn_0 : decode cX0_playTurn 0 = .ok (.aload_n 0, 1) := by decide +kernel
theorem dX0_playTurn_1 : decode cX0_playTurn 1 = .ok (.invokevirtual 180, 3) := by decide +kernel
theorem dX0_playTurn_4 : decode cX0_playTurn 4 = .ok (.ifCond .eq 30, 3) := by decide +kernel
theorem dX0_playTurn_7 : decode cX0_playTurn 7 = .ok (.aload_n 0, 1) := by decide +kernel
theorem dX0_playTurn_8 : decode cX0_playTurn 8 = .ok (.getfield 61, 3) := by decide +kernel
theorem dX0_playTurn_11 : decode cX0_playTurn 11 = .ok (.bipush 100, 2) := by decide +kernel
theorem dX0_playTurn_13 : decode cX0_playTurn 13 = .ok (.if_icmp .le 21, 3) := by decide +kernel
theorem dX0_playTurn_16 : decode cX0_playTurn 16 = .ok (.aload_n 0, 1) := by decide +kernel
theorem dX0_playTurn_17 : decode cX0_playTurn 17 = .ok (.aload_n 0, 1) := by decide +kernel
theorem dX0_playTurn_18 : decode cX0_playTurn 18 = .ok (.getfield 64, 3) := by decide +kernel
theorem dX0_playTurn_21 : decode cX0_playTurn 21 = .ok (.aload_n 0, 1) := by decide +kernel
theorem dX0_playTurn_22 : decode cX0_playTurn 22 = .ok (.getfield 67, 3) := by decide +kernel
theorem dX0_playTurn_25 : decode cX0_playTurn 25 = .ok (.invokevirtual 183, 3) := by decide +kernel
theorem dX0_playTurn_28 : decode cX0_playTurn 28 = .ok (.pop, 1) := by decide +kernel
theorem dX0_playTurn_29 : decode cX0_playTurn 29 = .ok (.aload_n 0, 1) := by decide +kernel
theorem dX0_playTurn_30 : decode cX0_playTurn 30 = .ok (.getfield 61, 3) := by decide +kernel
theorem dX0_playTurn_33 : decode cX0_playTurn 33 = .ok (.ireturn, 1) := by decide +kernel
theorem dX0_playTurn_34 : decode cX0_playTurn 34 = .ok (.aload_n 0, 1) := by decide +kernel
theorem dX0_playTurn_35 : decode cX0_playTurn 35 = .ok (.invokevirtual 186, 3) := by decide +kernel
theorem dX0_playTurn_38 : decode cX0_playTurn 38 = .ok (.pop, 1) := by decide +kernel
theorem dX0_playTurn_39 : decode cX0_playTurn 39 = .ok (.iconst (-1), 1) := by decide +kernel
theorem dX0_playTurn_40 : decode cX0_playTurn 40 = .ok (.ireturn, 1) := by decide +kernel
theorem dX0_playToEnd_0 : decode cX0_playToEnd 0 = .ok (.iconst 0, 1) := by decide +kernel
theorem dX0_playToEnd_1 : decode cX0_playToEnd 1 = .ok (.istore_n 1, 1) := by decide +kernel
theorem dX0_playToEnd_2 : decode cX0_playToEnd 2 = .ok (.iload_n 1, 1) := by decide +kernel
theorem dX0_playToEnd_3 : decode cX0_playToEnd 3 = .ok (.ldc 189, 2) := by decide +kernel
theorem dX0_playToEnd_5 : decode cX0_playToEnd 5 = .ok (.if_icmp .ge 21, 3) := by decide +kernel
theorem dX0_playToEnd_8 : decode cX0_playToEnd 8 = .ok (.aload_n 0, 1) := by decide +kernel
theorem dX0_playToEnd_9 : decode cX0_playToEnd 9 = .ok (.invokevirtual 96, 3) := by decide +kernel
theorem dX0_playToEnd_12 : decode cX0_playToEnd 12 = .ok (.ifCond .eq 14, 3) := by decide +kernel
theorem dX0_playToEnd_15 : decode cX0_playToEnd 15 = .ok (.aload_n 0, 1) := by decide +kernel
theorem dX0_playToEnd_16 : decode cX0_playToEnd 16 = .ok (.invokevirtual 190, 3) := by decide +kernel
theorem dX0_playToEnd_19 : decode cX0_playToEnd 19 = .ok (.pop, 1) := by decide +kernel
theorem dX0_playToEnd_20 : decode cX0_playToEnd 20 = .ok (.iinc 1 1, 3) := by decide +kernel
theorem dX0_playToEnd_23 : decode cX0_playToEnd 23 = .ok (.goto (-21), 3) := by decide +kernel
theorem dX0_playToEnd_26 : decode cX0_playToEnd 26 = .ok (.return_, 1) := by decide +kernel
theorem dX0_lossOf_0 : decode cX0_lossOf 0 = .ok (.aload_n 0, 1) := by decide +kernel
theorem dX0_lossOf_1 : decode cX0_lossOf 1 = .ok (.getfield 57, 3) := by decide +kernel
theorem dX0_lossOf_4 : decode cX0_lossOf 4 = .ok (.aload_n 0, 1) := by decide +kernel
theorem dX0_lossOf_5 : decode cX0_lossOf 5 = .ok (.getfield 11, 3) := by decide +kernel
theorem dX0_lossOf_8 : decode cX0_lossOf 8 = .ok (.iload_n 1, 1) := by decide +kernel
theorem dX0_lossOf_9 : decode cX0_lossOf 9 = .ok (.aaload, 1) := by decide +kernel
theorem dX0_lossOf_10 : decode cX0_lossOf 10 = .ok (.invokevirtual 89, 3) := by decide +kernel
theorem dX0_lossOf_13 : decode cX0_lossOf 13 = .ok (.aload_n 0, 1) := by decide +kernel
theorem dX0_lossOf_14 : decode cX0_lossOf 14 = .ok (.getfield 57, 3) := by decide +kernel
theorem dX0_lossOf_17 : decode cX0_lossOf 17 = .ok (.aload_n 0, 1) := by decide +kernel
theorem dX0_lossOf_18 : decode cX0_lossOf 18 = .ok (.getfield 40, 3) := by decide +kernel
theorem dX0_lossOf_21 : decode cX0_lossOf 21 = .ok (.invokevirtual 193, 3) := by decide +kernel
theorem dX0_lossOf_24 : decode cX0_lossOf 24 = .ok (.pop, 1) := by decide +kernel
theorem dX0_lossOf_25 : decode cX0_lossOf 25 = .ok (.aload_n 0, 1) := by decide +kernel
theorem dX0_lossOf_26 : decode cX0_lossOf 26 = .ok (.getfield 11, 3) := by decide +kernel
theorem dX0_lossOf_29 : decode cX0_lossOf 29 = .ok (.iload_n 1, 1) := by decide +kernel
theorem dX0_lossOf_30 : decode cX0_lossOf 30 = .ok (.aaload, 1) := by decide +kernel
theorem dX0_lossOf_31 : decode cX0_lossOf 31 = .ok (.getfield 196, 3) := by decide +kernel
theorem dX0_lossOf_34 : decode cX0_lossOf 34 = .ok (.iload_n 2, 1) := by decide +kernel
theorem dX0_lossOf_35 : decode cX0_lossOf 35 = .ok (.iaload, 1) := by decide +kernel
theorem dX0_lossOf_36 : decode cX0_lossOf 36 = .ok (.aload_n 0, 1) := by decide +kernel
theorem dX0_lossOf_37 : decode cX0_lossOf 37 = .ok (.getfield 57, 3) := by decide +kernel
theorem dX0_lossOf_40 : decode cX0_lossOf 40 = .ok (.getfield 196, 3) := by decide +kernel
theorem dX0_lossOf_43 : decode cX0_lossOf 43 = .ok (.iload_n 2, 1) := by decide +kernel
theorem dX0_lossOf_44 : decode cX0_lossOf 44 = .ok (.iaload, 1) := by decide +kernel
theorem dX0_lossOf_45 : decode cX0_lossOf 45 = .ok (.isub, 1) := by decide +kernel
theorem dX0_lossOf_46 : decode cX0_lossOf 46 = .ok (.ireturn, 1) := by decide +kernel
theorem dX0_playerBehind_0 : decode cX0_playerBehind 0 = .ok (.iload_n 1, 1) := by decide +kernel
theorem dX0_playerBehind_1 : decode cX0_playerBehind 1 = .ok (.iconst 1, 1) := by decide +kernel
theorem dX0_playerBehind_2 : decode cX0_playerBehind 2 = .ok (.iadd, 1) := by decide +kernel
theorem dX0_playerBehind_3 : decode cX0_playerBehind 3 = .ok (.aload_n 0, 1) := by decide +kernel
theorem dX0_playerBehind_4 : decode cX0_playerBehind 4 = .ok (.getfield 30, 3) := by decide +kernel
theorem dX0_playerBehind_7 : decode cX0_playerBehind 7 = .ok (.if_icmp .ge 9, 3) := by decide +kernel
theorem dX0_playerBehind_10 : decode cX0_playerBehind 10 = .ok (.iload_n 1, 1) := by decide +kernel
theorem dX0_playerBehind_11 : decode cX0_playerBehind 11 = .ok (.iconst 1, 1) := by decide +kernel
theorem dX0_playerBehind_12 : decode cX0_playerBehind 12 = .ok (.iadd, 1) := by decide +kernel
theorem dX0_playerBehind_13 : decode cX0_playerBehind 13 = .ok (.goto 4, 3) := by decide +kernel
theorem dX0_playerBehind_16 : decode cX0_playerBehind 16 = .ok (.iconst 0, 1) := by decide +kernel
theorem dX0_playerBehind_17 : decode cX0_playerBehind 17 = .ok (.ireturn, 1) := by decide +kernel
theorem dX0_endTurn_0 : decode cX0_endTurn 0 = .ok (.aload_n 0, 1) := by decide +kernel
theorem dX0_endTurn_1 : decode cX0_endTurn 1 = .ok (.getfield 34, 3) := by decide +kernel
theorem dX0_endTurn_4 : decode cX0_endTurn 4 = .ok (.istore_n 1, 1) := by decide +kernel
theorem dX0_endTurn_5 : decode cX0_endTurn 5 = .ok (.iconst 0, 1) := by decide +kernel
theorem dX0_endTurn_6 : decode cX0_endTurn 6 = .ok (.istore_n 2, 1) := by decide +kernel
theorem dX0_endTurn_7 : decode cX0_endTurn 7 = .ok (.iload_n 2, 1) := by decide +kernel
theorem dX0_endTurn_8 : decode cX0_endTurn 8 = .ok (.aload_n 0, 1) := by decide +kernel
theorem dX0_endTurn_9 : decode cX0_endTurn 9 = .ok (.getfield 30, 3) := by decide +kernel
theorem dX0_endTurn_12 : decode cX0_endTurn 12 = .ok (.if_icmp .ge 33, 3) := by decide +kernel
theorem dX0_endTurn_15 : decode cX0_endTurn 15 = .ok (.aload_n 0, 1) := by decide +kernel
theorem dX0_endTurn_16 : decode cX0_endTurn 16 = .ok (.iload_n 1, 1) := by decide +kernel
theorem dX0_endTurn_17 : decode cX0_endTurn 17 = .ok (.invokevirtual 199, 3) := by decide +kernel
theorem dX0_endTurn_20 : decode cX0_endTurn 20 = .ok (.istore_n 1, 1) := by decide +kernel
theorem dX0_endTurn_21 : decode cX0_endTurn 21 = .ok (.aload_n 0, 1) := by decide +kernel
theorem dX0_endTurn_22 : decode cX0_endTurn 22 = .ok (.getfield 11, 3) := by decide +kernel
theorem dX0_endTurn_25 : decode cX0_endTurn 25 = .ok (.iload_n 1, 1) := by decide +kernel
theorem dX0_endTurn_26 : decode cX0_endTurn 26 = .ok (.aaload, 1) := by decide +kernel
theorem dX0_endTurn_27 : decode cX0_endTurn 27 = .ok (.invokevirtual 202, 3) := by decide +kernel
theorem dX0_endTurn_30 : decode cX0_endTurn 30 = .ok (.ifCond .eq 9, 3) := by decide +kernel
theorem dX0_endTurn_33 : decode cX0_endTurn 33 = .ok (.aload_n 0, 1) := by decide +kernel
theorem dX0_endTurn_34 : decode cX0_endTurn 34 = .ok (.iload_n 1, 1) := by decide +kernel
theorem dX0_endTurn_35 : decode cX0_endTurn 35 = .ok (.putfield 34, 3) := by decide +kernel
theorem dX0_endTurn_38 : decode cX0_endTurn 38 = .ok (.return_, 1) := by decide +kernel
theorem dX0_endTurn_39 : decode cX0_endTurn 39 = .ok (.iinc 2 1, 3) := by decide +kernel
theorem dX0_endTurn_42 : decode cX0_endTurn 42 = .ok (.goto (-35), 3) := by decide +kernel
theorem dX0_endTurn_45 : decode cX0_endTurn 45 = .ok (.aload_n 0, 1) := by decide +kernel
theorem dX0_endTurn_46 : decode cX0_endTurn 46 = .ok (.invokevirtual 205, 3) := by decide +kernel
theorem dX0_endTurn_49 : decode cX0_endTurn 49 = .ok (.return_, 1) := by decide +kernel
theorem dX0_endRound_0 : decode cX0_endRound 0 = .ok (.iconst 0, 1) := by decide +kernel
theorem dX0_endRound_1 : decode cX0_endRound 1 = .ok (.istore_n 1, 1) := by decide +kernel
theorem dX0_endRound_2 : decode cX0_endRound 2 = .ok (.iload_n 1, 1) := by decide +kernel
theorem dX0_endRound_3 : decode cX0_endRound 3 = .ok (.aload_n 0, 1) := by decide +kernel
theorem dX0_endRound_4 : decode cX0_endRound 4 = .ok (.getfield 30, 3) := by decide +kernel
theorem dX0_endRound_7 : decode cX0_endRound 7 = .ok (.if_icmp .ge 45, 3) := by decide +kernel
theorem dX0_endRound_10 : decode cX0_endRound 10 = .ok (.iload_n 1, 1) := by decide +kernel
theorem dX0_endRound_11 : decode cX0_endRound 11 = .ok (.iconst 4, 1) := by decide +kernel
theorem dX0_endRound_12 : decode cX0_endRound 12 = .ok (.if_icmp .ge 40, 3) := by decide +kernel
theorem dX0_endRound_15 : decode cX0_endRound 15 = .ok (.aload_n 0, 1) := by decide +kernel
theorem dX0_endRound_16 : decode cX0_endRound 16 = .ok (.dup, 1) := by decide +kernel
theorem dX0_endRound_17 : decode cX0_endRound 17 = .ok (.getfield 49, 3) := by decide +kernel
theorem dX0_endRound_20 : decode cX0_endRound 20 = .ok (.aload_n 0, 1) := by decide +kernel
theorem dX0_endRound_21 : decode cX0_endRound 21 = .ok (.getfield 11, 3) := by decide +kernel
theorem dX0_endRound_24 : decode cX0_endRound 24 = .ok (.iload_n 1, 1) := by decide +kernel
theorem dX0_endRound_25 : decode cX0_endRound 25 = .ok (.aaload, 1) := by decide +kernel
theorem dX0_endRound_26 : decode cX0_endRound 26 = .ok (.aload_n 0, 1) := by decide +kernel
theorem dX0_endRound_27 : decode cX0_endRound 27 = .ok (.getfield 40, 3) := by decide +kernel
theorem dX0_endRound_30 : decode cX0_endRound 30 = .ok (.invokevirtual 193, 3) := by decide +kernel
theorem dX0_endRound_33 : decode cX0_endRound 33 = .ok (.iadd, 1) := by decide +kernel
theorem dX0_endRound_34 : decode cX0_endRound 34 = .ok (.putfield 49, 3) := by decide +kernel
theorem dX0_endRound_37 : decode cX0_endRound 37 = .ok (.aload_n 0, 1) := by decide +kernel
theorem dX0_endRound_38 : decode cX0_endRound 38 = .ok (.getfield 11, 3) := by decide +kernel
theorem dX0_endRound_41 : decode cX0_endRound 41 = .ok (.iload_n 1, 1) := by decide +kernel
theorem dX0_endRound_42 : decode cX0_endRound 42 = .ok (.aaload, 1) := by decide +kernel
theorem dX0_endRound_43 : decode cX0_endRound 43 = .ok (.invokevirtual 208, 3) := by decide +kernel
theorem dX0_endRound_46 : decode cX0_endRound 46 = .ok (.iinc 1 1, 3) := by decide +kernel
theorem dX0_endRound_49 : decode cX0_endRound 49 = .ok (.goto (-47), 3) := by decide +kernel
theorem dX0_endRound_52 : decode cX0_endRound 52 = .ok (.iconst 0, 1) := by decide +kernel
theorem dX0_endRound_53 : decode cX0_endRound 53 = .ok (.istore_n 1, 1) := by decide +kernel
theorem dX0_endRound_54 : decode cX0_endRound 54 = .ok (.iload_n 1, 1) := by decide +kernel
theorem dX0_endRound_55 : decode cX0_endRound 55 = .ok (.bipush 6, 2) := by decide +kernel
theorem dX0_endRound_57 : decode cX0_endRound 57 = .ok (.if_icmp .ge 19, 3) := by decide +kernel
theorem dX0_endRound_60 : decode cX0_endRound 60 = .ok (.aload_n 0, 1) := by decide +kernel
theorem dX0_endRound_61 : decode cX0_endRound 61 = .ok (.getfield 19, 3) := by decide +kernel
theorem dX0_endRound_64 : decode cX0_endRound 64 = .ok (.iload_n 1, 1) := by decide +kernel
theorem dX0_endRound_65 : decode cX0_endRound 65 = .ok (.aaload, 1) := by decide +kernel
theorem dX0_endRound_66 : decode cX0_endRound 66 = .ok (.iconst 0, 1) := by decide +kernel
theorem dX0_endRound_67 : decode cX0_endRound 67 = .ok (.putfield 77, 3) := by decide +kernel
theorem dX0_endRound_70 : decode cX0_endRound 70 = .ok (.iinc 1 1, 3) := by decide +kernel
theorem dX0_endRound_73 : decode cX0_endRound 73 = .ok (.goto (-19), 3) := by decide +kernel
theorem dX0_endRound_76 : decode cX0_endRound 76 = .ok (.iconst 0, 1) := by decide +kernel
theorem dX0_endRound_77 : decode cX0_endRound 77 = .ok (.istore_n 1, 1) := by decide +kernel
theorem dX0_endRound_78 : decode cX0_endRound 78 = .ok (.iload_n 1, 1) := by decide +kernel
theorem dX0_endRound_79 : decode cX0_endRound 79 = .ok (.iconst 3, 1) := by decide +kernel
theorem dX0_endRound_80 : decode cX0_endRound 80 = .ok (.if_icmp .ge 28, 3) := by decide +kernel
theorem dX0_endRound_83 : decode cX0_endRound 83 = .ok (.aload_n 0, 1) := by decide +kernel
theorem dX0_endRound_84 : decode cX0_endRound 84 = .ok (.getfield 23, 3) := by decide +kernel
theorem dX0_endRound_87 : decode cX0_endRound 87 = .ok (.iload_n 1, 1) := by decide +kernel
theorem dX0_endRound_88 : decode cX0_endRound 88 = .ok (.bipush 9, 2) := by decide +kernel
theorem dX0_endRound_90 : decode cX0_endRound 90 = .ok (.aload_n 0, 1) := by decide +kernel
theorem dX0_endRound_91 : decode cX0_endRound 91 = .ok (.getfield 23, 3) := by decide +kernel
theorem dX0_endRound_94 : decode cX0_endRound 94 = .ok (.iload_n 1, 1) := by decide +kernel
theorem dX0_endRound_95 : decode cX0_endRound 95 = .ok (.iaload, 1) := by decide +kernel
theorem dX0_endRound_96 : decode cX0_endRound 96 = .ok (.iconst 1, 1) := by decide +kernel
theorem dX0_endRound_97 : decode cX0_endRound 97 = .ok (.iadd, 1) := by decide +kernel
theorem dX0_endRound_98 : decode cX0_endRound 98 = .ok (.invokestatic 211, 3) := by decide +kernel
theorem dX0_endRound_101 : decode cX0_endRound 101 = .ok (.iastore, 1) := by decide +kernel
theorem dX0_endRound_102 : decode cX0_endRound 102 = .ok (.iinc 1 1, 3) := by decide +kernel
theorem dX0_endRound_105 : decode cX0_endRound 105 = .ok (.goto (-27), 3) := by decide +kernel
theorem dX0_endRound_108 : decode cX0_endRound 108 = .ok (.aload_n 0, 1) := by decide +kernel
theorem dX0_endRound_109 : decode cX0_endRound 109 = .ok (.aload_n 0, 1) := by decide +kernel
theorem dX0_endRound_110 : decode cX0_endRound 110 = .ok (.getfield 52, 3) := by decide +kernel
theorem dX0_endRound_113 : decode cX0_endRound 113 = .ok (.invokestatic 81, 3) := by decide +kernel
theorem dX0_endRound_116 : decode cX0_endRound 116 = .ok (.putfield 52, 3) := by decide +kernel
theorem dX0_endRound_119 : decode cX0_endRound 119 = .ok (.aload_n 0, 1) := by decide +kernel
theorem dX0_endRound_120 : decode cX0_endRound 120 = .ok (.aload_n 0, 1) := by decide +kernel
theorem dX0_endRound_121 : decode cX0_endRound 121 = .ok (.getfield 52, 3) := by decide +kernel
theorem dX0_endRound_124 : decode cX0_endRound 124 = .ok (.invokestatic 85, 3) := by decide +kernel
theorem dX0_endRound_127 : decode cX0_endRound 127 = .ok (.putfield 40, 3) := by decide +kernel
theorem dX0_endRound_130 : decode cX0_endRound 130 = .ok (.aload_n 0, 1) := by decide +kernel
theorem dX0_endRound_131 : decode cX0_endRound 131 = .ok (.dup, 1) := by decide +kernel
theorem dX0_endRound_132 : decode cX0_endRound 132 = .ok (.getfield 43, 3) := by decide +kernel
theorem dX0_endRound_135 : decode cX0_endRound 135 = .ok (.iconst 1, 1) := by decide +kernel
theorem dX0_endRound_136 : decode cX0_endRound 136 = .ok (.iadd, 1) := by decide +kernel
theorem dX0_endRound_137 : decode cX0_endRound 137 = .ok (.putfield 43, 3) := by decide +kernel
theorem dX0_endRound_140 : decode cX0_endRound 140 = .ok (.aload_n 0, 1) := by decide +kernel
theorem dX0_endRound_141 : decode cX0_endRound 141 = .ok (.aload_n 0, 1) := by decide +kernel
theorem dX0_endRound_142 : decode cX0_endRound 142 = .ok (.aload_n 0, 1) := by decide +kernel
theorem dX0_endRound_143 : decode cX0_endRound 143 = .ok (.getfield 37, 3) := by decide +kernel
theorem dX0_endRound_146 : decode cX0_endRound 146 = .ok (.invokevirtual 199, 3) := by decide +kernel
theorem dX0_endRound_149 : decode cX0_endRound 149 = .ok (.putfield 37, 3) := by decide +kernel
theorem dX0_endRound_152 : decode cX0_endRound 152 = .ok (.aload_n 0, 1) := by decide +kernel
theorem dX0_endRound_153 : decode cX0_endRound 153 = .ok (.aload_n 0, 1) := by decide +kernel
theorem dX0_endRound_154 : decode cX0_endRound 154 = .ok (.getfield 37, 3) := by decide +kernel
theorem dX0_endRound_157 : decode cX0_endRound 157 = .ok (.putfield 34, 3) := by decide +kernel
theorem dX0_endRound_160 : decode cX0_endRound 160 = .ok (.return_, 1) := by decide +kernel
theorem dX1_init_0 : decode cX1_init 0 = .ok (.aload_n 0, 1) := by decide +kernel
theorem dX1_init_1 : decode cX1_init 1 = .ok (.invokespecial 1, 3) := by decide +kernel
theorem dX1_init_4 : decode cX1_init 4 = .ok (.aload_n 0, 1) := by decide +kernel
theorem dX1_init_5 : decode cX1_init 5 = .ok (.bipush 14, 2) := by decide +kernel
theorem dX1_init_7 : decode cX1_init 7 = .ok (.anewarray 9, 3) := by decide +kernel
theorem dX1_init_10 : decode cX1_init 10 = .ok (.putfield 11, 3) := by decide +kernel
theorem dX1_init_13 : decode cX1_init 13 = .ok (.aload_n 0, 1) := by decide +kernel
theorem dX1_init_14 : decode cX1_init 14 = .ok (.iconst 0, 1) := by decide +kernel
theorem dX1_init_15 : decode cX1_init 15 = .ok (.putfield 15, 3) := by decide +kernel
theorem dX1_init_18 : decode cX1_init 18 = .ok (.aload_n 0, 1) := by decide +kernel
theorem dX1_init_19 : decode cX1_init 19 = .ok (.iconst 0, 1) := by decide +kernel
theorem dX1_init_20 : decode cX1_init 20 = .ok (.putfield 19, 3) := by decide +kernel
theorem dX1_init_23 : decode cX1_init 23 = .ok (.iconst 0, 1) := by decide +kernel
theorem dX1_init_24 : decode cX1_init 24 = .ok (.istore_n 1, 1) := by decide +kernel
theorem dX1_init_25 : decode cX1_init 25 = .ok (.iload_n 1, 1) := by decide +kernel
theorem dX1_init_26 : decode cX1_init 26 = .ok (.bipush 14, 2) := by decide +kernel
theorem dX1_init_28 : decode cX1_init 28 = .ok (.if_icmp .ge 22, 3) := by decide +kernel
theorem dX1_init_31 : decode cX1_init 31 = .ok (.aload_n 0, 1) := by decide +kernel
theorem dX1_init_32 : decode cX1_init 32 = .ok (.getfield 11, 3) := by decide +kernel
theorem dX1_init_35 : decode cX1_init 35 = .ok (.iload_n 1, 1) := by decide +kernel
theorem dX1_init_36 : decode cX1_init 36 = .ok (.new 9, 3) := by decide +kernel
theorem dX1_init_39 : decode cX1_init 39 = .ok (.dup, 1) := by decide +kernel
theorem dX1_init_40 : decode cX1_init 40 = .ok (.invokespecial 22, 3) := by decide +kernel
theorem dX1_init_43 : decode cX1_init 43 = .ok (.aastore, 1) := by decide +kernel
theorem dX1_init_44 : decode cX1_init 44 = .ok (.iinc 1 1, 3) := by decide +kernel
theorem dX1_init_47 : decode cX1_init 47 = .ok (.goto (-22), 3) := by decide +kernel
theorem dX1_init_50 : decode cX1_init 50 = .ok (.return_, 1) := by decide +kernel
theorem dX1_forget_0 : decode cX1_forget 0 = .ok (.aload_n 0, 1) := by decide +kernel
theorem dX1_forget_1 : decode cX1_forget 1 = .ok (.iconst 0, 1) := by decide +kernel
theorem dX1_forget_2 : decode cX1_forget 2 = .ok (.putfield 15, 3) := by decide +kernel
theorem dX1_forget_5 : decode cX1_forget 5 = .ok (.return_, 1) := by decide +kernel
theorem dX1_remember_0 : decode cX1_remember 0 = .ok (.aload_n 0, 1) := by decide +kernel
theorem dX1_remember_1 : decode cX1_remember 1 = .ok (.getfield 11, 3) := by decide +kernel
theorem dX1_remember_4 : decode cX1_remember 4 = .ok (.aload_n 0, 1) := by decide +kernel
theorem dX1_remember_5 : decode cX1_remember 5 = .ok (.getfield 19, 3) := by decide +kernel
theorem dX1_remember_8 : decode cX1_remember 8 = .ok (.aaload, 1) := by decide +kernel
theorem dX1_remember_9 : decode cX1_remember 9 = .ok (.aload_n 1, 1) := by decide +kernel
theorem dX1_remember_10 : decode cX1_remember 10 = .ok (.invokevirtual 23, 3) := by decide +kernel
theorem dX1_remember_13 : decode cX1_remember 13 = .ok (.aload_n 0, 1) := by decide +kernel
theorem dX1_remember_14 : decode cX1_remember 14 = .ok (.aload_n 0, 1) := by decide +kernel
theorem dX1_remember_15 : decode cX1_remember 15 = .ok (.getfield 19, 3) := by decide +kernel
theorem dX1_remember_18 : decode cX1_remember 18 = .ok (.iconst 1, 1) := by decide +kernel
theorem dX1_remember_19 : decode cX1_remember 19 = .ok (.iadd, 1) := by decide +kernel
theorem dX1_remember_20 : decode cX1_remember 20 = .ok (.bipush 14, 2) := by decide +kernel
theorem dX1_remember_22 : decode cX1_remember 22 = .ok (.if_icmp .ge 12, 3) := by decide +kernel
theorem dX1_remember_25 : decode cX1_remember 25 = .ok (.aload_n 0, 1) := by decide +kernel
theorem dX1_remember_26 : decode cX1_remember 26 = .ok (.getfield 19, 3) := by decide +kernel
theorem dX1_remember_29 : decode cX1_remember 29 = .ok (.iconst 1, 1) := by decide +kernel
theorem dX1_remember_30 : decode cX1_remember 30 = .ok (.iadd, 1) := by decide +kernel
theorem dX1_remember_31 : decode cX1_remember 31 = .ok (.goto 4, 3) := by decide +kernel
theorem dX1_remember_34 : decode cX1_remember 34 = .ok (.iconst 0, 1) := by decide +kernel
theorem dX1_remember_35 : decode cX1_remember 35 = .ok (.putfield 19, 3) := by decide +kernel
theorem dX1_remember_38 : decode cX1_remember 38 = .ok (.aload_n 0, 1) := by decide +kernel
theorem dX1_remember_39 : decode cX1_remember 39 = .ok (.getfield 15, 3) := by decide +kernel
theorem dX1_remember_42 : decode cX1_remember 42 = .ok (.bipush 14, 2) := by decide +kernel
theorem dX1_remember_44 : decode cX1_remember 44 = .ok (.if_icmp .ge 13, 3) := by decide +kernel
theorem dX1_remember_47 : decode cX1_remember 47 = .ok (.aload_n 0, 1) := by decide +kernel
theorem dX1_remember_48 : decode cX1_remember 48 = .ok (.dup, 1) := by decide +kernel
theorem dX1_remember_49 : decode cX1_remember 49 = .ok (.getfield 15, 3) := by decide +kernel
theorem dX1_remember_52 : decode cX1_remember 52 = .ok (.iconst 1, 1) := by decide +kernel
theorem dX1_remember_53 : decode cX1_remember 53 = .ok (.iadd, 1) := by decide +kernel
theorem dX1_remember_54 : decode cX1_remember 54 = .ok (.putfield 15, 3) := by decide +kernel
theorem dX1_remember_57 : decode cX1_remember 57 = .ok (.return_, 1) := by decide +kernel
theorem dX1_takeBack_0 : decode cX1_takeBack 0 = .ok (.aload_n 0, 1) := by decide +kernel
theorem dX1_takeBack_1 : decode cX1_takeBack 1 = .ok (.getfield 15, 3) := by decide +kernel
theorem dX1_takeBack_4 : decode cX1_takeBack 4 = .ok (.ifCond .ne 4, 3) := by decide +kernel
theorem dX1_takeBack_7 : decode cX1_takeBack 7 = .ok (.return_, 1) := by decide +kernel
theorem dX1_takeBack_8 : decode cX1_takeBack 8 = .ok (.aload_n 0, 1) := by decide +kernel
theorem dX1_takeBack_9 : decode cX1_takeBack 9 = .ok (.aload_n 0, 1) := by decide +kernel
theorem dX1_takeBack_10 : decode cX1_takeBack 10 = .ok (.getfield 19, 3) := by decide +kernel
theorem dX1_takeBack_13 : decode cX1_takeBack 13 = .ok (.ifCond .le 12, 3) := by decide +kernel
theorem dX1_takeBack_16 : decode cX1_takeBack 16 = .ok (.aload_n 0, 1) := by decide +kernel
theorem dX1_takeBack_17 : decode cX1_takeBack 17 = .ok (.getfield 19, 3) := by decide +kernel
theorem dX1_takeBack_20 : decode cX1_takeBack 20 = .ok (.iconst 1, 1) := by decide +kernel
theorem dX1_takeBack_21 : decode cX1_takeBack 21 = .ok (.isub, 1) := by decide +kernel
theorem dX1_takeBack_22 : decode cX1_takeBack 22 = .ok (.goto 5, 3) := by decide +kernel
theorem dX1_takeBack_25 : decode cX1_takeBack 25 = .ok (.bipush 13, 2) := by decide +kernel
theorem dX1_takeBack_27 : decode cX1_takeBack 27 = .ok (.putfield 19, 3) := by decide +kernel
theorem dX1_takeBack_30 : decode cX1_takeBack 30 = .ok (.aload_n 0, 1) := by decide +kernel
theorem dX1_takeBack_31 : decode cX1_takeBack 31 = .ok (.dup, 1) := by decide +kernel
theorem dX1_takeBack_32 : decode cX1_takeBack 32 = .ok (.getfield 15, 3) := by decide +kernel
theorem dX1_takeBack_35 : decode cX1_takeBack 35 = .ok (.iconst 1, 1) := by decide +kernel
theorem dX1_takeBack_36 : decode cX1_takeBack 36 = .ok (.isub, 1) := by decide +kernel
theorem dX1_takeBack_37 : decode cX1_takeBack 37 = .ok (.putfield 15, 3) := by decide +kernel
theorem dX1_takeBack_40 : decode cX1_takeBack 40 = .ok (.aload_n 1, 1) := by decide +kernel
theorem dX1_takeBack_41 : decode cX1_takeBack 41 = .ok (.aload_n 0, 1) := by decide +kernel
theorem dX1_takeBack_42 : decode cX1_takeBack 42 = .ok (.getfield 11, 3) := by decide +kernel
theorem dX1_takeBack_45 : decode cX1_takeBack 45 = .ok (.aload_n 0, 1) := by decide +kernel
theorem dX1_takeBack_46 : decode cX1_takeBack 46 = .ok (.getfield 19, 3) := by decide +kernel
theorem dX1_takeBack_49 : decode cX1_takeBack 49 = .ok (.aaload, 1) := by decide +kernel
theorem dX1_takeBack_50 : decode cX1_takeBack 50 = .ok (.invokevirtual 23, 3) := by decide +kernel
theorem dX1_takeBack_53 : decode cX1_takeBack 53 = .ok (.return_, 1) := by decide +kernel
theorem dX2_init_0 : decode cX2_init 0 = .ok (.aload_n 0, 1) := by decide +kernel
theorem dX2_init_1 : decode cX2_init 1 = .ok (.invokespecial 3, 3) := by decide +kernel
theorem dX2_init_4 : decode cX2_init 4 = .ok (.aload_n 0, 1) := by decide +kernel
theorem dX2_init_5 : decode cX2_init 5 = .ok (.iconst 3, 1) := by decide +kernel
theorem dX2_init_6 : decode cX2_init 6 = .ok (.newarray .int, 2) := by decide +kernel
theorem dX2_init_8 : decode cX2_init 8 = .ok (.putfield 11, 3) := by decide +kernel
theorem dX2_init_11 : decode cX2_init 11 = .ok (.aload_n 0, 1) := by decide +kernel
theorem dX2_init_12 : decode cX2_init 12 = .ok (.iconst 0, 1) := by decide +kernel
theorem dX2_init_13 : decode cX2_init 13 = .ok (.putfield 15, 3) := by decide +kernel
theorem dX2_init_16 : decode cX2_init 16 = .ok (.return_, 1) := by decide +kernel
theorem dX2_copyFrom_0 : decode cX2_copyFrom 0 = .ok (.iconst 0, 1) := by decide +kernel
theorem dX2_copyFrom_1 : decode cX2_copyFrom 1 = .ok (.istore_n 2, 1) := by decide +kernel
theorem dX2_copyFrom_2 : decode cX2_copyFrom 2 = .ok (.iload_n 2, 1) := by decide +kernel
theorem dX2_copyFrom_3 : decode cX2_copyFrom 3 = .ok (.iconst 3, 1) := by decide +kernel
theorem dX2_copyFrom_4 : decode cX2_copyFrom 4 = .ok (.if_icmp .ge 21, 3) := by decide +kernel
theorem dX2_copyFrom_7 : decode cX2_copyFrom 7 = .ok (.aload_n 0, 1) := by decide +kernel
theorem dX2_copyFrom_8 : decode cX2_copyFrom 8 = .ok (.getfield 11, 3) := by decide +kernel
theorem dX2_copyFrom_11 : decode cX2_copyFrom 11 = .ok (.iload_n 2, 1) := by decide +kernel
theorem dX2_copyFrom_12 : decode cX2_copyFrom 12 = .ok (.aload_n 1, 1) := by decide +kernel
theorem dX2_copyFrom_13 : decode cX2_copyFrom 13 = .ok (.getfield 11, 3) := by decide +kernel
theorem dX2_copyFrom_16 : decode cX2_copyFrom 16 = .ok (.iload_n 2, 1) := by decide +kernel
theorem dX2_copyFrom_17 : decode cX2_copyFrom 17 = .ok (.iaload, 1) := by decide +kernel
theorem dX2_copyFrom_18 : decode cX2_copyFrom 18 = .ok (.iastore, 1) := by decide +kernel
theorem dX2_copyFrom_19 : decode cX2_copyFrom 19 = .ok (.iinc 2 1, 3) := by decide +kernel
theorem dX2_copyFrom_22 : decode cX2_copyFrom 22 = .ok (.goto (-20), 3) := by decide +kernel
theorem dX2_copyFrom_25 : decode cX2_copyFrom 25 = .ok (.aload_n 0, 1) := by decide +kernel
theorem dX2_copyFrom_26 : decode cX2_copyFrom 26 = .ok (.aload_n 1, 1) := by decide +kernel
theorem dX2_copyFrom_27 : decode cX2_copyFrom 27 = .ok (.getfield 15, 3) := by decide +kernel
theorem dX2_copyFrom_30 : decode cX2_copyFrom 30 = .ok (.putfield 15, 3) := by decide +kernel
theorem dX2_copyFrom_33 : decode cX2_copyFrom 33 = .ok (.return_, 1) := by decide +kernel
theorem dX2_ownerAt_0 : decode cX2_ownerAt 0 = .ok (.iload_n 1, 1) := by decide +kernel
theorem dX2_ownerAt_1 : decode cX2_ownerAt 1 = .ok (.ifCond .lt 25, 3) := by decide +kernel
theorem dX2_ownerAt_4 : decode cX2_ownerAt 4 = .ok (.iload_n 1, 1) := by decide +kernel
theorem dX2_ownerAt_5 : decode cX2_ownerAt 5 = .ok (.aload_n 0, 1) := by decide +kernel
theorem dX2_ownerAt_6 : decode cX2_ownerAt 6 = .ok (.getfield 15, 3) := by decide +kernel
theorem dX2_ownerAt_9 : decode cX2_ownerAt 9 = .ok (.if_icmp .ge 17, 3) := by decide +kernel
theorem dX2_ownerAt_12 : decode cX2_ownerAt 12 = .ok (.iload_n 1, 1) := by decide +kernel
theorem dX2_ownerAt_13 : decode cX2_ownerAt 13 = .ok (.iconst 3, 1) := by decide +kernel
theorem dX2_ownerAt_14 : decode cX2_ownerAt 14 = .ok (.if_icmp .ge 12, 3) := by decide +kernel
theorem dX2_ownerAt_17 : decode cX2_ownerAt 17 = .ok (.aload_n 0, 1) := by decide +kernel
theorem dX2_ownerAt_18 : decode cX2_ownerAt 18 = .ok (.getfield 11, 3) := by decide +kernel
theorem dX2_ownerAt_21 : decode cX2_ownerAt 21 = .ok (.iload_n 1, 1) := by decide +kernel
theorem dX2_ownerAt_22 : decode cX2_ownerAt 22 = .ok (.iaload, 1) := by decide +kernel
theorem dX2_ownerAt_23 : decode cX2_ownerAt 23 = .ok (.goto 4, 3) := by decide +kernel
theorem dX2_ownerAt_26 : decode cX2_ownerAt 26 = .ok (.iconst (-1), 1) := by decide +kernel
theorem dX2_ownerAt_27 : decode cX2_ownerAt 27 = .ok (.ireturn, 1) := by decide +kernel
theorem dX2_findOther_0 : decode cX2_findOther 0 = .ok (.iconst 0, 1) := by decide +kernel
theorem dX2_findOther_1 : decode cX2_findOther 1 = .ok (.istore_n 2, 1) := by decide +kernel
theorem dX2_findOther_2 : decode cX2_findOther 2 = .ok (.iload_n 2, 1) := by decide +kernel
theorem dX2_findOther_3 : decode cX2_findOther 3 = .ok (.aload_n 0, 1) := by decide +kernel
theorem dX2_findOther_4 : decode cX2_findOther 4 = .ok (.getfield 15, 3) := by decide +kernel
theorem dX2_findOther_7 : decode cX2_findOther 7 = .ok (.if_icmp .ge 26, 3) := by decide +kernel
theorem dX2_findOther_10 : decode cX2_findOther 10 = .ok (.iload_n 2, 1) := by decide +kernel
theorem dX2_findOther_11 : decode cX2_findOther 11 = .ok (.iconst 3, 1) := by decide +kernel
theorem dX2_findOther_12 : decode cX2_findOther 12 = .ok (.if_icmp .ge 21, 3) := by decide +kernel
theorem dX2_findOther_15 : decode cX2_findOther 15 = .ok (.aload_n 0, 1) := by decide +kernel
theorem dX2_findOther_16 : decode cX2_findOther 16 = .ok (.getfield 11, 3) := by decide +kernel
theorem dX2_findOther_19 : decode cX2_findOther 19 = .ok (.iload_n 2, 1) := by decide +kernel
theorem dX2_findOther_20 : decode cX2_findOther 20 = .ok (.iaload, 1) := by decide +kernel
theorem dX2_findOther_21 : decode cX2_findOther 21 = .ok (.iload_n 1, 1) := by decide +kernel
theorem dX2_findOther_22 : decode cX2_findOther 22 = .ok (.if_icmp .eq 5, 3) := by decide +kernel
theorem dX2_findOther_25 : decode cX2_findOther 25 = .ok (.iload_n 2, 1) := by decide +kernel
theorem dX2_findOther_26 : decode cX2_findOther 26 = .ok (.ireturn, 1) := by decide +kernel
theorem dX2_findOther_27 : decode cX2_findOther 27 = .ok (.iinc 2 1, 3) := by decide +kernel
theorem dX2_findOther_30 : decode cX2_findOther 30 = .ok (.goto (-28), 3) := by decide +kernel
theorem dX2_findOther_33 : decode cX2_findOther 33 = .ok (.iconst (-1), 1) := by decide +kernel
theorem dX2_findOther_34 : decode cX2_findOther 34 = .ok (.ireturn, 1) := by decide +kernel
theorem dX2_add_0 : decode cX2_add 0 = .ok (.aload_n 0, 1) := by decide +kernel
theorem dX2_add_1 : decode cX2_add 1 = .ok (.getfield 15, 3) := by decide +kernel
theorem dX2_add_4 : decode cX2_add 4 = .ok (.iconst 3, 1) := by decide +kernel
theorem dX2_add_5 : decode cX2_add 5 = .ok (.if_icmp .ge 23, 3) := by decide +kernel
theorem dX2_add_8 : decode cX2_add 8 = .ok (.aload_n 0, 1) := by decide +kernel
theorem dX2_add_9 : decode cX2_add 9 = .ok (.getfield 11, 3) := by decide +kernel
theorem dX2_add_12 : decode cX2_add 12 = .ok (.aload_n 0, 1) := by decide +kernel
theorem dX2_add_13 : decode cX2_add 13 = .ok (.getfield 15, 3) := by decide +kernel
theorem dX2_add_16 : decode cX2_add 16 = .ok (.iload_n 1, 1) := by decide +kernel
theorem dX2_add_17 : decode cX2_add 17 = .ok (.iastore, 1) := by decide +kernel
theorem dX2_add_18 : decode cX2_add 18 = .ok (.aload_n 0, 1) := by decide +kernel
theorem dX2_add_19 : decode cX2_add 19 = .ok (.dup, 1) := by decide +kernel
theorem dX2_add_20 : decode cX2_add 20 = .ok (.getfield 15, 3) := by decide +kernel
theorem dX2_add_23 : decode cX2_add 23 = .ok (.iconst 1, 1) := by decide +kernel
theorem dX2_add_24 : decode cX2_add 24 = .ok (.iadd, 1) := by decide +kernel
theorem dX2_add_25 : decode cX2_add 25 = .ok (.putfield 15, 3) := by decide +kernel
theorem dX2_add_28 : decode cX2_add 28 = .ok (.return_, 1) := by decide +kernel
theorem dX2_remove_0 : decode cX2_remove 0 = .ok (.iload_n 1, 1) := by decide +kernel
theorem dX2_remove_1 : decode cX2_remove 1 = .ok (.ifCond .lt 11, 3) := by decide +kernel
theorem dX2_remove_4 : decode cX2_remove 4 = .ok (.iload_n 1, 1) := by decide +kernel
theorem dX2_remove_5 : decode cX2_remove 5 = .ok (.aload_n 0, 1) := by decide +kernel
theorem dX2_remove_6 : decode cX2_remove 6 = .ok (.getfield 15, 3) := by decide +kernel
theorem dX2_remove_9 : decode cX2_remove 9 = .ok (.if_icmp .lt 4, 3) := by decide +kernel
theorem dX2_remove_12 : decode cX2_remove 12 = .ok (.return_, 1) := by decide +kernel
theorem dX2_remove_13 : decode cX2_remove 13 = .ok (.iload_n 1, 1) := by decide +kernel
theorem dX2_remove_14 : decode cX2_remove 14 = .ok (.istore_n 2, 1) := by decide +kernel
theorem dX2_remove_15 : decode cX2_remove 15 = .ok (.iload_n 2, 1) := by decide +kernel
theorem dX2_remove_16 : decode cX2_remove 16 = .ok (.iconst 1, 1) := by decide +kernel
theorem dX2_remove_17 : decode cX2_remove 17 = .ok (.iadd, 1) := by decide +kernel
theorem dX2_remove_18 : decode cX2_remove 18 = .ok (.aload_n 0, 1) := by decide +kernel
theorem dX2_remove_19 : decode cX2_remove 19 = .ok (.getfield 15, 3) := by decide +kernel
theorem dX2_remove_22 : decode cX2_remove 22 = .ok (.if_icmp .ge 30, 3) := by decide +kernel
theorem dX2_remove_25 : decode cX2_remove 25 = .ok (.iload_n 2, 1) := by decide +kernel
theorem dX2_remove_26 : decode cX2_remove 26 = .ok (.iconst 1, 1) := by decide +kernel
theorem dX2_remove_27 : decode cX2_remove 27 = .ok (.iadd, 1) := by decide +kernel
theorem dX2_remove_28 : decode cX2_remove 28 = .ok (.iconst 3, 1) := by decide +kernel
theorem dX2_remove_29 : decode cX2_remove 29 = .ok (.if_icmp .ge 23, 3) := by decide +kernel
theorem dX2_remove_32 : decode cX2_remove 32 = .ok (.aload_n 0, 1) := by decide +kernel
theorem dX2_remove_33 : decode cX2_remove 33 = .ok (.getfield 11, 3) := by decide +kernel
theorem dX2_remove_36 : decode cX2_remove 36 = .ok (.iload_n 2, 1) := by decide +kernel
theorem dX2_remove_37 : decode cX2_remove 37 = .ok (.aload_n 0, 1) := by decide +kernel
theorem dX2_remove_38 : decode cX2_remove 38 = .ok (.getfield 11, 3) := by decide +kernel
theorem dX2_remove_41 : decode cX2_remove 41 = .ok (.iload_n 2, 1) := by decide +kernel
theorem dX2_remove_42 : decode cX2_remove 42 = .ok (.iconst 1, 1) := by decide +kernel
theorem dX2_remove_43 : decode cX2_remove 43 = .ok (.iadd, 1) := by decide +kernel
theorem dX2_remove_44 : decode cX2_remove 44 = .ok (.iaload, 1) := by decide +kernel
theorem dX2_remove_45 : decode cX2_remove 45 = .ok (.iastore, 1) := by decide +kernel
theorem dX2_remove_46 : decode cX2_remove 46 = .ok (.iinc 2 1, 3) := by decide +kernel
theorem dX2_remove_49 : decode cX2_remove 49 = .ok (.goto (-34), 3) := by decide +kernel
theorem dX2_remove_52 : decode cX2_remove 52 = .ok (.aload_n 0, 1) := by decide +kernel
theorem dX2_remove_53 : decode cX2_remove 53 = .ok (.dup, 1) := by decide +kernel
theorem dX2_remove_54 : decode cX2_remove 54 = .ok (.getfield 15, 3) := by decide +kernel
theorem dX2_remove_57 : decode cX2_remove 57 = .ok (.iconst 1, 1) := by decide +kernel
theorem dX2_remove_58 : decode cX2_remove 58 = .ok (.isub, 1) := by decide +kernel
theorem dX2_remove_59 : decode cX2_remove 59 = .ok (.putfield 15, 3) := by decide +kernel
theorem dX2_remove_62 : decode cX2_remove 62 = .ok (.return_, 1) := by decide +kernel
theorem dX3_init_0 : decode cX3_init 0 = .ok (.aload_n 0, 1) := by decide +kernel
theorem dX3_init_1 : decode cX3_init 1 = .ok (.invokespecial 3, 3) := by decide +kernel
theorem dX3_init_4 : decode cX3_init 4 = .ok (.aload_n 0, 1) := by decide +kernel
theorem dX3_init_5 : decode cX3_init 5 = .ok (.iconst 3, 1) := by decide +kernel
theorem dX3_init_6 : decode cX3_init 6 = .ok (.newarray .int, 2) := by decide +kernel
theorem dX3_init_8 : decode cX3_init 8 = .ok (.putfield 9, 3) := by decide +kernel
theorem dX3_init_11 : decode cX3_init 11 = .ok (.aload_n 0, 1) := by decide +kernel
theorem dX3_init_12 : decode cX3_init 12 = .ok (.iconst 0, 1) := by decide +kernel
theorem dX3_init_13 : decode cX3_init 13 = .ok (.putfield 15, 3) := by decide +kernel
theorem dX3_init_16 : decode cX3_init 16 = .ok (.aload_n 0, 1) := by decide +kernel
theorem dX3_init_17 : decode cX3_init 17 = .ok (.iconst 0, 1) := by decide +kernel
theorem dX3_init_18 : decode cX3_init 18 = .ok (.putfield 19, 3) := by decide +kernel
theorem dX3_init_21 : decode cX3_init 21 = .ok (.aload_n 0, 1) := by decide +kernel
theorem dX3_init_22 : decode cX3_init 22 = .ok (.iconst 0, 1) := by decide +kernel
theorem dX3_init_23 : decode cX3_init 23 = .ok (.putfield 22, 3) := by decide +kernel
theorem dX3_init_26 : decode cX3_init 26 = .ok (.aload_n 0, 1) := by decide +kernel
theorem dX3_init_27 : decode cX3_init 27 = .ok (.iconst 0, 1) := by decide +kernel
theorem dX3_init_28 : decode cX3_init 28 = .ok (.putfield 25, 3) := by decide +kernel
theorem dX3_init_31 : decode cX3_init 31 = .ok (.aload_n 0, 1) := by decide +kernel
theorem dX3_init_32 : decode cX3_init 32 = .ok (.iconst 0, 1) := by decide +kernel
theorem dX3_init_33 : decode cX3_init 33 = .ok (.putfield 28, 3) := by decide +kernel
theorem dX3_init_36 : decode cX3_init 36 = .ok (.return_, 1) := by decide +kernel
theorem dX3_clear_0 : decode cX3_clear 0 = .ok (.iconst 0, 1) := by decide +kernel
theorem dX3_clear_1 : decode cX3_clear 1 = .ok (.istore_n 1, 1) := by decide +kernel
theorem dX3_clear_2 : decode cX3_clear 2 = .ok (.iload_n 1, 1) := by decide +kernel
theorem dX3_clear_3 : decode cX3_clear 3 = .ok (.iconst 3, 1) := by decide +kernel
theorem dX3_clear_4 : decode cX3_clear 4 = .ok (.if_icmp .ge 16, 3) := by decide +kernel
theorem dX3_clear_7 : decode cX3_clear 7 = .ok (.aload_n 0, 1) := by decide +kernel
theorem dX3_clear_8 : decode cX3_clear 8 = .ok (.getfield 9, 3) := by decide +kernel
theorem dX3_clear_11 : decode cX3_clear 11 = .ok (.iload_n 1, 1) := by decide +kernel
theorem dX3_clear_12 : decode cX3_clear 12 = .ok (.iconst 0, 1) := by decide +kernel
theorem dX3_clear_13 : decode cX3_clear 13 = .ok (.iastore, 1) := by decide +kernel
theorem dX3_clear_14 : decode cX3_clear 14 = .ok (.iinc 1 1, 3) := by decide +kernel
theorem dX3_clear_17 : decode cX3_clear 17 = .ok (.goto (-15), 3) := by decide +kernel
theorem dX3_clear_20 : decode cX3_clear 20 = .ok (.aload_n 0, 1) := by decide +kernel
theorem dX3_clear_21 : decode cX3_clear 21 = .ok (.iconst 5, 1) := by decide +kernel
theorem dX3_clear_22 : decode cX3_clear 22 = .ok (.putfield 15, 3) := by decide +kernel
theorem dX3_clear_25 : decode cX3_clear 25 = .ok (.aload_n 0, 1) := by decide +kernel
theorem dX3_clear_26 : decode cX3_clear 26 = .ok (.bipush 6, 2) := by decide +kernel
theorem dX3_clear_28 : decode cX3_clear 28 = .ok (.putfield 19, 3) := by decide +kernel
theorem dX3_clear_31 : decode cX3_clear 31 = .ok (.aload_n 0, 1) := by decide +kernel
theorem dX3_clear_32 : decode cX3_clear 32 = .ok (.iconst 3, 1) := by decide +kernel
theorem dX3_clear_33 : decode cX3_clear 33 = .ok (.putfield 22, 3) := by decide +kernel
theorem dX3_clear_36 : decode cX3_clear 36 = .ok (.aload_n 0, 1) := by decide +kernel
theorem dX3_clear_37 : decode cX3_clear 37 = .ok (.invokevirtual 32, 3) := by decide +kernel
theorem dX3_clear_40 : decode cX3_clear 40 = .ok (.return_, 1) := by decide +kernel
theorem dX3_startRound_0 : decode cX3_startRound 0 = .ok (.aload_n 0, 1) := by decide +kernel
theorem dX3_startRound_1 : decode cX3_startRound 1 = .ok (.aload_n 0, 1) := by decide +kernel
theorem dX3_startRound_2 : decode cX3_startRound 2 = .ok (.getfield 22, 3) := by decide +kernel
theorem dX3_startRound_5 : decode cX3_startRound 5 = .ok (.putfield 25, 3) := by decide +kernel
theorem dX3_startRound_8 : decode cX3_startRound 8 = .ok (.aload_n 0, 1) := by decide +kernel
theorem dX3_startRound_9 : decode cX3_startRound 9 = .ok (.iconst 0, 1) := by decide +kernel
theorem dX3_startRound_10 : decode cX3_startRound 10 = .ok (.putfield 28, 3) := by decide +kernel
theorem dX3_startRound_13 : decode cX3_startRound 13 = .ok (.return_, 1) := by decide +kernel
theorem dX3_copyFrom_0 : decode cX3_copyFrom 0 = .ok (.iconst 0, 1) := by decide +kernel
theorem dX3_copyFrom_1 : decode cX3_copyFrom 1 = .ok (.istore_n 2, 1) := by decide +kernel
theorem dX3_copyFrom_2 : decode cX3_copyFrom 2 = .ok (.iload_n 2, 1) := by decide +kernel
theorem dX3_copyFrom_3 : decode cX3_copyFrom 3 = .ok (.iconst 3, 1) := by decide +kernel
theorem dX3_copyFrom_4 : decode cX3_copyFrom 4 = .ok (.if_icmp .ge 21, 3) := by decide +kernel
theorem dX3_copyFrom_7 : decode cX3_copyFrom 7 = .ok (.aload_n 0, 1) := by decide +kernel
theorem dX3_copyFrom_8 : decode cX3_copyFrom 8 = .ok (.getfield 9, 3) := by decide +kernel
theorem dX3_copyFrom_11 : decode cX3_copyFrom 11 = .ok (.iload_n 2, 1) := by decide +kernel
theorem dX3_copyFrom_12 : decode cX3_copyFrom 12 = .ok (.aload_n 1, 1) := by decide +kernel
theorem dX3_copyFrom_13 : decode cX3_copyFrom 13 = .ok (.getfield 9, 3) := by decide +kernel
theorem dX3_copyFrom_16 : decode cX3_copyFrom 16 = .ok (.iload_n 2, 1) := by decide +kernel
theorem dX3_copyFrom_17 : decode cX3_copyFrom 17 = .ok (.iaload, 1) := by decide +kernel
theorem dX3_copyFrom_18 : decode cX3_copyFrom 18 = .ok (.iastore, 1) := by decide +kernel
theorem dX3_copyFrom_19 : decode cX3_copyFrom 19 = .ok (.iinc 2 1, 3) := by decide +kernel
theorem dX3_copyFrom_22 : decode cX3_copyFrom 22 = .ok (.goto (-20), 3) := by decide +kernel
theorem dX3_copyFrom_25 : decode cX3_copyFrom 25 = .ok (.aload_n 0, 1) := by decide +kernel
theorem dX3_copyFrom_26 : decode cX3_copyFrom 26 = .ok (.aload_n 1, 1) := by decide +kernel
theorem dX3_copyFrom_27 : decode cX3_copyFrom 27 = .ok (.getfield 15, 3) := by decide +kernel
theorem dX3_copyFrom_30 : decode cX3_copyFrom 30 = .ok (.putfield 15, 3) := by decide +kernel
theorem dX3_copyFrom_33 : decode cX3_copyFrom 33 = .ok (.aload_n 0, 1) := by decide +kernel
theorem dX3_copyFrom_34 : decode cX3_copyFrom 34 = .ok (.aload_n 1, 1) := by decide +kernel
theorem dX3_copyFrom_35 : decode cX3_copyFrom 35 = .ok (.getfield 19, 3) := by decide +kernel
theorem dX3_copyFrom_38 : decode cX3_copyFrom 38 = .ok (.putfield 19, 3) := by decide +kernel
theorem dX3_copyFrom_41 : decode cX3_copyFrom 41 = .ok (.aload_n 0, 1) := by decide +kernel
theorem dX3_copyFrom_42 : decode cX3_copyFrom 42 = .ok (.aload_n 1, 1) := by decide +kernel
theorem dX3_copyFrom_43 : decode cX3_copyFrom 43 = .ok (.getfield 22, 3) := by decide +kernel
theorem dX3_copyFrom_46 : decode cX3_copyFrom 46 = .ok (.putfield 22, 3) := by decide +kernel
theorem dX3_copyFrom_49 : decode cX3_copyFrom 49 = .ok (.aload_n 0, 1) := by decide +kernel
theorem dX3_copyFrom_50 : decode cX3_copyFrom 50 = .ok (.aload_n 1, 1) := by decide +kernel
theorem dX3_copyFrom_51 : decode cX3_copyFrom 51 = .ok (.getfield 25, 3) := by decide +kernel
theorem dX3_copyFrom_54 : decode cX3_copyFrom 54 = .ok (.putfield 25, 3) := by decide +kernel
theorem dX3_copyFrom_57 : decode cX3_copyFrom 57 = .ok (.aload_n 0, 1) := by decide +kernel
theorem dX3_copyFrom_58 : decode cX3_copyFrom 58 = .ok (.aload_n 1, 1) := by decide +kernel
theorem dX3_copyFrom_59 : decode cX3_copyFrom 59 = .ok (.getfield 28, 3) := by decide +kernel
theorem dX3_copyFrom_62 : decode cX3_copyFrom 62 = .ok (.putfield 28, 3) := by decide +kernel
theorem dX3_copyFrom_65 : decode cX3_copyFrom 65 = .ok (.return_, 1) := by decide +kernel
theorem dX3_number_0 : decode cX3_number 0 = .ok (.iload_n 1, 1) := by decide +kernel
theorem dX3_number_1 : decode cX3_number 1 = .ok (.tableswitch 101 0 7 #[47, 52, 59, 66, 73, 78, 83, 88], 47) := by decide +kernel
theorem dX3_number_48 : decode cX3_number 48 = .ok (.aload_n 0, 1) := by decide +kernel
theorem dX3_number_49 : decode cX3_number 49 = .ok (.getfield 15, 3) := by decide +kernel
theorem dX3_number_52 : decode cX3_number 52 = .ok (.ireturn, 1) := by decide +kernel
theorem dX3_number_53 : decode cX3_number 53 = .ok (.aload_n 0, 1) := by decide +kernel
theorem dX3_number_54 : decode cX3_number 54 = .ok (.getfield 9, 3) := by decide +kernel
theorem dX3_number_57 : decode cX3_number 57 = .ok (.iconst 0, 1) := by decide +kernel
theorem dX3_number_58 : decode cX3_number 58 = .ok (.iaload, 1) := by decide +kernel
theorem dX3_number_59 : decode cX3_number 59 = .ok (.ireturn, 1) := by decide +kernel
theorem dX3_number_60 : decode cX3_number 60 = .ok (.aload_n 0, 1) := by decide +kernel
theorem dX3_number_61 : decode cX3_number 61 = .ok (.getfield 9, 3) := by decide +kernel
theorem dX3_number_64 : decode cX3_number 64 = .ok (.iconst 1, 1) := by decide +kernel
theorem dX3_number_65 : decode cX3_number 65 = .ok (.iaload, 1) := by decide +kernel
theorem dX3_number_66 : decode cX3_number 66 = .ok (.ireturn, 1) := by decide +kernel
theorem dX3_number_67 : decode cX3_number 67 = .ok (.aload_n 0, 1) := by decide +kernel
theorem dX3_number_68 : decode cX3_number 68 = .ok (.getfield 9, 3) := by decide +kernel
theorem dX3_number_71 : decode cX3_number 71 = .ok (.iconst 2, 1) := by decide +kernel
theorem dX3_number_72 : decode cX3_number 72 = .ok (.iaload, 1) := by decide +kernel
theorem dX3_number_73 : decode cX3_number 73 = .ok (.ireturn, 1) := by decide +kernel
theorem dX3_number_74 : decode cX3_number 74 = .ok (.aload_n 0, 1) := by decide +kernel
theorem dX3_number_75 : decode cX3_number 75 = .ok (.getfield 19, 3) := by decide +kernel
theorem dX3_number_78 : decode cX3_number 78 = .ok (.ireturn, 1) := by decide +kernel
theorem dX3_number_79 : decode cX3_number 79 = .ok (.aload_n 0, 1) := by decide +kernel
theorem dX3_number_80 : decode cX3_number 80 = .ok (.getfield 22, 3) := by decide +kernel
theorem dX3_number_83 : decode cX3_number 83 = .ok (.ireturn, 1) := by decide +kernel
theorem dX3_number_84 : decode cX3_number 84 = .ok (.aload_n 0, 1) := by decide +kernel
theorem dX3_number_85 : decode cX3_number 85 = .ok (.getfield 25, 3) := by decide +kernel
theorem dX3_number_88 : decode cX3_number 88 = .ok (.ireturn, 1) := by decide +kernel
theorem dX3_number_89 : decode cX3_number 89 = .ok (.aload_n 0, 1) := by decide +kernel
theorem dX3_number_90 : decode cX3_number 90 = .ok (.getfield 28, 3) := by decide +kernel
theorem dX3_number_93 : decode cX3_number 93 = .ok (.ifCond .eq 7, 3) := by decide +kernel
theorem dX3_number_96 : decode cX3_number 96 = .ok (.iconst 1, 1) := by decide +kernel
theorem dX3_number_97 : decode cX3_number 97 = .ok (.goto 4, 3) := by decide +kernel
theorem dX3_number_100 : decode cX3_number 100 = .ok (.iconst 0, 1) := by decide +kernel
theorem dX3_number_101 : decode cX3_number 101 = .ok (.ireturn, 1) := by decide +kernel
theorem dX3_number_102 : decode cX3_number 102 = .ok (.aload_n 0, 1) := by decide +kernel
theorem dX3_number_103 : decode cX3_number 103 = .ok (.invokevirtual 35, 3) := by decide +kernel
theorem dX3_number_106 : decode cX3_number 106 = .ok (.ireturn, 1) := by decide +kernel
theorem dX3_total_0 : decode cX3_total 0 = .ok (.aload_n 0, 1) := by decide +kernel
theorem dX3_total_1 : decode cX3_total 1 = .ok (.getfield 15, 3) := by decide +kernel
theorem dX3_total_4 : decode cX3_total 4 = .ok (.aload_n 0, 1) := by decide +kernel
theorem dX3_total_5 : decode cX3_total 5 = .ok (.getfield 9, 3) := by decide +kernel
theorem dX3_total_8 : decode cX3_total 8 = .ok (.iconst 0, 1) := by decide +kernel
theorem dX3_total_9 : decode cX3_total 9 = .ok (.iaload, 1) := by decide +kernel
theorem dX3_total_10 : decode cX3_total 10 = .ok (.iadd, 1) := by decide +kernel
theorem dX3_total_11 : decode cX3_total 11 = .ok (.aload_n 0, 1) := by decide +kernel
theorem dX3_total_12 : decode cX3_total 12 = .ok (.getfield 9, 3) := by decide +kernel
theorem dX3_total_15 : decode cX3_total 15 = .ok (.iconst 1, 1) := by decide +kernel
theorem dX3_total_16 : decode cX3_total 16 = .ok (.iaload, 1) := by decide +kernel
theorem dX3_total_17 : decode cX3_total 17 = .ok (.iadd, 1) := by decide +kernel
theorem dX3_total_18 : decode cX3_total 18 = .ok (.iconst 2, 1) := by decide +kernel
theorem dX3_total_19 : decode cX3_total 19 = .ok (.aload_n 0, 1) := by decide +kernel
theorem dX3_total_20 : decode cX3_total 20 = .ok (.getfield 9, 3) := by decide +kernel
theorem dX3_total_23 : decode cX3_total 23 = .ok (.iconst 2, 1) := by decide +kernel
theorem dX3_total_24 : decode cX3_total 24 = .ok (.iaload, 1) := by decide +kernel
theorem dX3_total_25 : decode cX3_total 25 = .ok (.imul, 1) := by decide +kernel
theorem dX3_total_26 : decode cX3_total 26 = .ok (.iadd, 1) := by decide +kernel
theorem dX3_total_27 : decode cX3_total 27 = .ok (.iconst 3, 1) := by decide +kernel
theorem dX3_total_28 : decode cX3_total 28 = .ok (.aload_n 0, 1) := by decide +kernel
theorem dX3_total_29 : decode cX3_total 29 = .ok (.getfield 22, 3) := by decide +kernel
theorem dX3_total_32 : decode cX3_total 32 = .ok (.imul, 1) := by decide +kernel
theorem dX3_total_33 : decode cX3_total 33 = .ok (.iadd, 1) := by decide +kernel
theorem dX3_total_34 : decode cX3_total 34 = .ok (.ireturn, 1) := by decide +kernel
theorem dX3_isReady_0 : decode cX3_isReady 0 = .ok (.aload_n 0, 1) := by decide +kernel
theorem dX3_isReady_1 : decode cX3_isReady 1 = .ok (.getfield 25, 3) := by decide +kernel
theorem dX3_isReady_4 : decode cX3_isReady 4 = .ok (.ifCond .le 14, 3) := by decide +kernel
theorem dX3_isReady_7 : decode cX3_isReady 7 = .ok (.aload_n 0, 1) := by decide +kernel
theorem dX3_isReady_8 : decode cX3_isReady 8 = .ok (.getfield 28, 3) := by decide +kernel
theorem dX3_isReady_11 : decode cX3_isReady 11 = .ok (.ifCond .ne 7, 3) := by decide +kernel
theorem dX3_isReady_14 : decode cX3_isReady 14 = .ok (.iconst 1, 1) := by decide +kernel
theorem dX3_isReady_15 : decode cX3_isReady 15 = .ok (.goto 4, 3) := by decide +kernel
theorem dX3_isReady_18 : decode cX3_isReady 18 = .ok (.iconst 0, 1) := by decide +kernel
theorem dX3_isReady_19 : decode cX3_isReady 19 = .ok (.ireturn, 1) := by decide +kernel
theorem dX3_pay_0 : decode cX3_pay 0 = .ok (.aload_n 0, 1) := by decide +kernel
theorem dX3_pay_1 : decode cX3_pay 1 = .ok (.getfield 15, 3) := by decide +kernel
theorem dX3_pay_4 : decode cX3_pay 4 = .ok (.iload_n 1, 1) := by decide +kernel
theorem dX3_pay_5 : decode cX3_pay 5 = .ok (.if_icmp .ge 5, 3) := by decide +kernel
theorem dX3_pay_8 : decode cX3_pay 8 = .ok (.iconst 0, 1) := by decide +kernel
theorem dX3_pay_9 : decode cX3_pay 9 = .ok (.ireturn, 1) := by decide +kernel
theorem dX3_pay_10 : decode cX3_pay 10 = .ok (.aload_n 0, 1) := by decide +kernel
theorem dX3_pay_11 : decode cX3_pay 11 = .ok (.dup, 1) := by decide +kernel
theorem dX3_pay_12 : decode cX3_pay 12 = .ok (.getfield 15, 3) := by decide +kernel
theorem dX3_pay_15 : decode cX3_pay 15 = .ok (.iload_n 1, 1) := by decide +kernel
theorem dX3_pay_16 : decode cX3_pay 16 = .ok (.isub, 1) := by decide +kernel
theorem dX3_pay_17 : decode cX3_pay 17 = .ok (.putfield 15, 3) := by decide +kernel
theorem dX3_pay_20 : decode cX3_pay 20 = .ok (.iconst 1, 1) := by decide +kernel
theorem dX3_pay_21 : decode cX3_pay 21 = .ok (.ireturn, 1) := by decide +kernel
theorem dX3_give_0 : decode cX3_give 0 = .ok (.aload_n 0, 1) := by decide +kernel
theorem dX3_give_1 : decode cX3_give 1 = .ok (.getfield 9, 3) := by decide +kernel
theorem dX3_give_4 : decode cX3_give 4 = .ok (.iload_n 1, 1) := by decide +kernel
theorem dX3_give_5 : decode cX3_give 5 = .ok (.iaload, 1) := by decide +kernel
theorem dX3_give_6 : decode cX3_give 6 = .ok (.iload_n 2, 1) := by decide +kernel
theorem dX3_give_7 : decode cX3_give 7 = .ok (.if_icmp .ge 5, 3) := by decide +kernel
theorem dX3_give_10 : decode cX3_give 10 = .ok (.iconst 0, 1) := by decide +kernel
theorem dX3_give_11 : decode cX3_give 11 = .ok (.ireturn, 1) := by decide +kernel
theorem dX3_give_12 : decode cX3_give 12 = .ok (.aload_n 0, 1) := by decide +kernel
theorem dX3_give_13 : decode cX3_give 13 = .ok (.getfield 9, 3) := by decide +kernel
theorem dX3_give_16 : decode cX3_give 16 = .ok (.iload_n 1, 1) := by decide +kernel
theorem dX3_give_17 : decode cX3_give 17 = .ok (.dup2, 1) := by decide +kernel
theorem dX3_give_18 : decode cX3_give 18 = .ok (.iaload, 1) := by decide +kernel
theorem dX3_give_19 : decode cX3_give 19 = .ok (.iload_n 2, 1) := by decide +kernel
theorem dX3_give_20 : decode cX3_give 20 = .ok (.isub, 1) := by decide +kernel
theorem dX3_give_21 : decode cX3_give 21 = .ok (.iastore, 1) := by decide +kernel
theorem dX3_give_22 : decode cX3_give 22 = .ok (.iconst 1, 1) := by decide +kernel
theorem dX3_give_23 : decode cX3_give 23 = .ok (.ireturn, 1) := by decide +kernel
theorem dX3_gain_0 : decode cX3_gain 0 = .ok (.aload_n 0, 1) := by decide +kernel
theorem dX3_gain_1 : decode cX3_gain 1 = .ok (.getfield 9, 3) := by decide +kernel
theorem dX3_gain_4 : decode cX3_gain 4 = .ok (.iload_n 1, 1) := by decide +kernel
theorem dX3_gain_5 : decode cX3_gain 5 = .ok (.dup2, 1) := by decide +kernel
theorem dX3_gain_6 : decode cX3_gain 6 = .ok (.iaload, 1) := by decide +kernel
theorem dX3_gain_7 : decode cX3_gain 7 = .ok (.iload_n 2, 1) := by decide +kernel
theorem dX3_gain_8 : decode cX3_gain 8 = .ok (.iadd, 1) := by decide +kernel
theorem dX3_gain_9 : decode cX3_gain 9 = .ok (.iastore, 1) := by decide +kernel
theorem dX3_gain_10 : decode cX3_gain 10 = .ok (.return_, 1) := by decide +kernel
theorem dX3_weave_0 : decode cX3_weave 0 = .ok (.aload_n 0, 1) := by decide +kernel
theorem dX3_weave_1 : decode cX3_weave 1 = .ok (.iconst 1, 1) := by decide +kernel
theorem dX3_weave_2 : decode cX3_weave 2 = .ok (.iload_n 1, 1) := by decide +kernel
theorem dX3_weave_3 : decode cX3_weave 3 = .ok (.invokevirtual 39, 3) := by decide +kernel
theorem dX3_weave_6 : decode cX3_weave 6 = .ok (.ifCond .eq 11, 3) := by decide +kernel
theorem dX3_weave_9 : decode cX3_weave 9 = .ok (.aload_n 0, 1) := by decide +kernel
theorem dX3_weave_10 : decode cX3_weave 10 = .ok (.iload_n 1, 1) := by decide +kernel
theorem dX3_weave_11 : decode cX3_weave 11 = .ok (.invokevirtual 43, 3) := by decide +kernel
theorem dX3_weave_14 : decode cX3_weave 14 = .ok (.ifCond .ne 5, 3) := by decide +kernel
theorem dX3_weave_17 : decode cX3_weave 17 = .ok (.iconst 0, 1) := by decide +kernel
theorem dX3_weave_18 : decode cX3_weave 18 = .ok (.ireturn, 1) := by decide +kernel
theorem dX3_weave_19 : decode cX3_weave 19 = .ok (.aload_n 0, 1) := by decide +kernel
theorem dX3_weave_20 : decode cX3_weave 20 = .ok (.iconst 2, 1) := by decide +kernel
theorem dX3_weave_21 : decode cX3_weave 21 = .ok (.iconst 2, 1) := by decide +kernel
theorem dX3_weave_22 : decode cX3_weave 22 = .ok (.iload_n 1, 1) := by decide +kernel
theorem dX3_weave_23 : decode cX3_weave 23 = .ok (.imul, 1) := by decide +kernel
theorem dX3_weave_24 : decode cX3_weave 24 = .ok (.invokevirtual 47, 3) := by decide +kernel
theorem dX3_weave_27 : decode cX3_weave 27 = .ok (.iconst 1, 1) := by decide +kernel
theorem dX3_weave_28 : decode cX3_weave 28 = .ok (.ireturn, 1) := by decide +kernel
theorem dX3_sell_0 : decode cX3_sell 0 = .ok (.aload_n 0, 1) := by decide +kernel
theorem dX3_sell_1 : decode cX3_sell 1 = .ok (.iload_n 1, 1) := by decide +kernel
theorem dX3_sell_2 : decode cX3_sell 2 = .ok (.iload_n 2, 1) := by decide +kernel
theorem dX3_sell_3 : decode cX3_sell 3 = .ok (.invokevirtual 39, 3) := by decide +kernel
theorem dX3_sell_6 : decode cX3_sell 6 = .ok (.ifCond .ne 5, 3) := by decide +kernel
theorem dX3_sell_9 : decode cX3_sell 9 = .ok (.iconst 0, 1) := by decide +kernel
theorem dX3_sell_10 : decode cX3_sell 10 = .ok (.ireturn, 1) := by decide +kernel
theorem dX3_sell_11 : decode cX3_sell 11 = .ok (.iconst 0, 1) := by decide +kernel
theorem dX3_sell_12 : decode cX3_sell 12 = .ok (.istore 4, 2) := by decide +kernel
theorem dX3_sell_14 : decode cX3_sell 14 = .ok (.iload 4, 2) := by decide +kernel
theorem dX3_sell_16 : decode cX3_sell 16 = .ok (.iload_n 2, 1) := by decide +kernel
theorem dX3_sell_17 : decode cX3_sell 17 = .ok (.if_icmp .ge 26, 3) := by decide +kernel
theorem dX3_sell_20 : decode cX3_sell 20 = .ok (.aload_n 0, 1) := by decide +kernel
theorem dX3_sell_21 : decode cX3_sell 21 = .ok (.dup, 1) := by decide +kernel
theorem dX3_sell_22 : decode cX3_sell 22 = .ok (.getfield 15, 3) := by decide +kernel
theorem dX3_sell_25 : decode cX3_sell 25 = .ok (.iconst 1, 1) := by decide +kernel
theorem dX3_sell_26 : decode cX3_sell 26 = .ok (.iload_n 3, 1) := by decide +kernel
theorem dX3_sell_27 : decode cX3_sell 27 = .ok (.iload 4, 2) := by decide +kernel
theorem dX3_sell_29 : decode cX3_sell 29 = .ok (.isub, 1) := by decide +kernel
theorem dX3_sell_30 : decode cX3_sell 30 = .ok (.invokestatic 51, 3) := by decide +kernel
theorem dX3_sell_33 : decode cX3_sell 33 = .ok (.iadd, 1) := by decide +kernel
theorem dX3_sell_34 : decode cX3_sell 34 = .ok (.putfield 15, 3) := by decide +kernel
theorem dX3_sell_37 : decode cX3_sell 37 = .ok (.iinc 4 1, 3) := by decide +kernel
theorem dX3_sell_40 : decode cX3_sell 40 = .ok (.goto (-26), 3) := by decide +kernel
theorem dX3_sell_43 : decode cX3_sell 43 = .ok (.iconst 1, 1) := by decide +kernel
theorem dX3_sell_44 : decode cX3_sell 44 = .ok (.ireturn, 1) := by decide +kernel
theorem dX3_hire_0 : decode cX3_hire 0 = .ok (.aload_n 0, 1) := by decide +kernel
theorem dX3_hire_1 : decode cX3_hire 1 = .ok (.getfield 22, 3) := by decide +kernel
theorem dX3_hire_4 : decode cX3_hire 4 = .ok (.iconst 5, 1) := by decide +kernel
theorem dX3_hire_5 : decode cX3_hire 5 = .ok (.if_icmp .ge 11, 3) := by decide +kernel
theorem dX3_hire_8 : decode cX3_hire 8 = .ok (.aload_n 0, 1) := by decide +kernel
theorem dX3_hire_9 : decode cX3_hire 9 = .ok (.iconst 5, 1) := by decide +kernel
theorem dX3_hire_10 : decode cX3_hire 10 = .ok (.invokevirtual 43, 3) := by decide +kernel
theorem dX3_hire_13 : decode cX3_hire 13 = .ok (.ifCond .ne 5, 3) := by decide +kernel
theorem dX3_hire_16 : decode cX3_hire 16 = .ok (.iconst 0, 1) := by decide +kernel
theorem dX3_hire_17 : decode cX3_hire 17 = .ok (.ireturn, 1) := by decide +kernel
theorem dX3_hire_18 : decode cX3_hire 18 = .ok (.aload_n 0, 1) := by decide +kernel
