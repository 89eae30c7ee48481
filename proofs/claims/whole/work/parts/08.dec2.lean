theorem dX5_isSetting_6 : decode cX5_isSetting 6 = .ok (.if_icmp .ge 7, 3) := by decide +kernel
theorem dX5_isSetting_9 : decode cX5_isSetting 9 = .ok (.iconst 1, 1) := by decide +kernel
theorem dX5_isSetting_10 : decode cX5_isSetting 10 = .ok (.goto 4, 3) := by decide +kernel
theorem dX5_isSetting_13 : decode cX5_isSetting 13 = .ok (.iconst 0, 1) := by decide +kernel
theorem dX5_isSetting_14 : decode cX5_isSetting 14 = .ok (.ireturn, 1) := by decide +kernel
theorem dX5_isSettingValue_0 : decode cX5_isSettingValue 0 = .ok (.iload_n 0, 1) := by decide +kernel
theorem dX5_isSettingValue_1 : decode cX5_isSettingValue 1 = .ok (.invokestatic 145, 3) := by decide +kernel
theorem dX5_isSettingValue_4 : decode cX5_isSettingValue 4 = .ok (.ifCond .eq 25, 3) := by decide +kernel
theorem dX5_isSettingValue_7 : decode cX5_isSettingValue 7 = .ok (.iload_n 1, 1) := by decide +kernel
theorem dX5_isSettingValue_8 : decode cX5_isSettingValue 8 = .ok (.getstatic 296, 3) := by decide +kernel
theorem dX5_isSettingValue_11 : decode cX5_isSettingValue 11 = .ok (.iload_n 0, 1) := by decide +kernel
theorem dX5_isSettingValue_12 : decode cX5_isSettingValue 12 = .ok (.iaload, 1) := by decide +kernel
theorem dX5_isSettingValue_13 : decode cX5_isSettingValue 13 = .ok (.if_icmp .lt 16, 3) := by decide +kernel
theorem dX5_isSettingValue_16 : decode cX5_isSettingValue 16 = .ok (.iload_n 1, 1) := by decide +kernel
theorem dX5_isSettingValue_17 : decode cX5_isSettingValue 17 = .ok (.getstatic 299, 3) := by decide +kernel
theorem dX5_isSettingValue_20 : decode cX5_isSettingValue 20 = .ok (.iload_n 0, 1) := by decide +kernel
theorem dX5_isSettingValue_21 : decode cX5_isSettingValue 21 = .ok (.iaload, 1) := by decide +kernel
theorem dX5_isSettingValue_22 : decode cX5_isSettingValue 22 = .ok (.if_icmp .gt 7, 3) := by decide +kernel
theorem dX5_isSettingValue_25 : decode cX5_isSettingValue 25 = .ok (.iconst 1, 1) := by decide +kernel
theorem dX5_isSettingValue_26 : decode cX5_isSettingValue 26 = .ok (.goto 4, 3) := by decide +kernel
theorem dX5_isSettingValue_29 : decode cX5_isSettingValue 29 = .ok (.iconst 0, 1) := by decide +kernel
theorem dX5_isSettingValue_30 : decode cX5_isSettingValue 30 = .ok (.ireturn, 1) := by decide +kernel
theorem dX5_isChoice_0 : decode cX5_isChoice 0 = .ok (.iload_n 0, 1) := by decide +kernel
theorem dX5_isChoice_1 : decode cX5_isChoice 1 = .ok (.lookupswitch 58 #[(2, 27), (3, 32)], 27) := by decide +kernel
theorem dX5_isChoice_28 : decode cX5_isChoice 28 = .ok (.iload_n 1, 1) := by decide +kernel
theorem dX5_isChoice_29 : decode cX5_isChoice 29 = .ok (.invokestatic 302, 3) := by decide +kernel
theorem dX5_isChoice_32 : decode cX5_isChoice 32 = .ok (.ireturn, 1) := by decide +kernel
theorem dX5_isChoice_33 : decode cX5_isChoice 33 = .ok (.iload_n 1, 1) := by decide +kernel
theorem dX5_isChoice_34 : decode cX5_isChoice 34 = .ok (.bipush 10, 2) := by decide +kernel
theorem dX5_isChoice_36 : decode cX5_isChoice 36 = .ok (.idiv, 1) := by decide +kernel
theorem dX5_isChoice_37 : decode cX5_isChoice 37 = .ok (.invokestatic 216, 3) := by decide +kernel
theorem dX5_isChoice_40 : decode cX5_isChoice 40 = .ok (.ifCond .eq 17, 3) := by decide +kernel
theorem dX5_isChoice_43 : decode cX5_isChoice 43 = .ok (.iload_n 1, 1) := by decide +kernel
theorem dX5_isChoice_44 : decode cX5_isChoice 44 = .ok (.bipush 10, 2) := by decide +kernel
theorem dX5_isChoice_46 : decode cX5_isChoice 46 = .ok (.irem, 1) := by decide +kernel
theorem dX5_isChoice_47 : decode cX5_isChoice 47 = .ok (.invokestatic 302, 3) := by decide +kernel
theorem dX5_isChoice_50 : decode cX5_isChoice 50 = .ok (.ifCond .eq 7, 3) := by decide +kernel
theorem dX5_isChoice_53 : decode cX5_isChoice 53 = .ok (.iconst 1, 1) := by decide +kernel
theorem dX5_isChoice_54 : decode cX5_isChoice 54 = .ok (.goto 4, 3) := by decide +kernel
theorem dX5_isChoice_57 : decode cX5_isChoice 57 = .ok (.iconst 0, 1) := by decide +kernel
theorem dX5_isChoice_58 : decode cX5_isChoice 58 = .ok (.ireturn, 1) := by decide +kernel
theorem dX5_isChoice_59 : decode cX5_isChoice 59 = .ok (.iload_n 1, 1) := by decide +kernel
theorem dX5_isChoice_60 : decode cX5_isChoice 60 = .ok (.ifCond .ne 7, 3) := by decide +kernel
theorem dX5_isChoice_63 : decode cX5_isChoice 63 = .ok (.iconst 1, 1) := by decide +kernel
theorem dX5_isChoice_64 : decode cX5_isChoice 64 = .ok (.goto 4, 3) := by decide +kernel
theorem dX5_isChoice_67 : decode cX5_isChoice 67 = .ok (.iconst 0, 1) := by decide +kernel
theorem dX5_isChoice_68 : decode cX5_isChoice 68 = .ok (.ireturn, 1) := by decide +kernel
theorem dX5_nextX_0 : decode cX5_nextX 0 = .ok (.lload_n 0, 1) := by decide +kernel
theorem dX5_nextX_1 : decode cX5_nextX 1 = .ok (.ldc2_w 305, 3) := by decide +kernel
theorem dX5_nextX_4 : decode cX5_nextX 4 = .ok (.lmul, 1) := by decide +kernel
theorem dX5_nextX_5 : decode cX5_nextX 5 = .ok (.ldc2_w 307, 3) := by decide +kernel
theorem dX5_nextX_8 : decode cX5_nextX 8 = .ok (.ladd, 1) := by decide +kernel
theorem dX5_nextX_9 : decode cX5_nextX 9 = .ok (.lreturn, 1) := by decide +kernel
theorem dX5_weatherOf_0 : decode cX5_weatherOf 0 = .ok (.iconst 1, 1) := by decide +kernel
theorem dX5_weatherOf_1 : decode cX5_weatherOf 1 = .ok (.lload_n 0, 1) := by decide +kernel
theorem dX5_weatherOf_2 : decode cX5_weatherOf 2 = .ok (.bipush 33, 2) := by decide +kernel
theorem dX5_weatherOf_4 : decode cX5_weatherOf 4 = .ok (.lushr, 1) := by decide +kernel
theorem dX5_weatherOf_5 : decode cX5_weatherOf 5 = .ok (.l2i, 1) := by decide +kernel
theorem dX5_weatherOf_6 : decode cX5_weatherOf 6 = .ok (.bipush 6, 2) := by decide +kernel
theorem dX5_weatherOf_8 : decode cX5_weatherOf 8 = .ok (.irem, 1) := by decide +kernel
theorem dX5_weatherOf_9 : decode cX5_weatherOf 9 = .ok (.iadd, 1) := by decide +kernel
theorem dX5_weatherOf_10 : decode cX5_weatherOf 10 = .ok (.ireturn, 1) := by decide +kernel
theorem dX6_init_0 : decode cX6_init 0 = .ok (.aload_n 0, 1) := by decide +kernel
theorem dX6_init_1 : decode cX6_init 1 = .ok (.invokespecial 1, 3) := by decide +kernel
theorem dX6_init_4 : decode cX6_init 4 = .ok (.aload_n 0, 1) := by decide +kernel
theorem dX6_init_5 : decode cX6_init 5 = .ok (.bipush 69, 2) := by decide +kernel
theorem dX6_init_7 : decode cX6_init 7 = .ok (.newarray .int, 2) := by decide +kernel
theorem dX6_init_9 : decode cX6_init 9 = .ok (.putfield 7, 3) := by decide +kernel
theorem dX6_init_12 : decode cX6_init 12 = .ok (.aload_n 0, 1) := by decide +kernel
theorem dX6_init_13 : decode cX6_init 13 = .ok (.sipush 966, 3) := by decide +kernel
theorem dX6_init_16 : decode cX6_init 16 = .ok (.newarray .int, 2) := by decide +kernel
theorem dX6_init_18 : decode cX6_init 18 = .ok (.putfield 13, 3) := by decide +kernel
theorem dX6_init_21 : decode cX6_init 21 = .ok (.aload_n 0, 1) := by decide +kernel
theorem dX6_init_22 : decode cX6_init 22 = .ok (.bipush 14, 2) := by decide +kernel
theorem dX6_init_24 : decode cX6_init 24 = .ok (.newarray .long, 2) := by decide +kernel
theorem dX6_init_26 : decode cX6_init 26 = .ok (.putfield 16, 3) := by decide +kernel
theorem dX6_init_29 : decode cX6_init 29 = .ok (.aload_n 0, 1) := by decide +kernel
theorem dX6_init_30 : decode cX6_init 30 = .ok (.sipush 138, 3) := by decide +kernel
theorem dX6_init_33 : decode cX6_init 33 = .ok (.newarray .int, 2) := by decide +kernel
theorem dX6_init_35 : decode cX6_init 35 = .ok (.putfield 20, 3) := by decide +kernel
theorem dX6_init_38 : decode cX6_init 38 = .ok (.aload_n 0, 1) := by decide +kernel
theorem dX6_init_39 : decode cX6_init 39 = .ok (.iconst 2, 1) := by decide +kernel
theorem dX6_init_40 : decode cX6_init 40 = .ok (.newarray .long, 2) := by decide +kernel
theorem dX6_init_42 : decode cX6_init 42 = .ok (.putfield 23, 3) := by decide +kernel
theorem dX6_init_45 : decode cX6_init 45 = .ok (.aload_n 0, 1) := by decide +kernel
theorem dX6_init_46 : decode cX6_init 46 = .ok (.iconst 2, 1) := by decide +kernel
theorem dX6_init_47 : decode cX6_init 47 = .ok (.newarray .boolean, 2) := by decide +kernel
theorem dX6_init_49 : decode cX6_init 49 = .ok (.putfield 26, 3) := by decide +kernel
theorem dX6_init_52 : decode cX6_init 52 = .ok (.aload_n 0, 1) := by decide +kernel
theorem dX6_init_53 : decode cX6_init 53 = .ok (.bipush 120, 2) := by decide +kernel
theorem dX6_init_55 : decode cX6_init 55 = .ok (.newarray .int, 2) := by decide +kernel
theorem dX6_init_57 : decode cX6_init 57 = .ok (.putfield 30, 3) := by decide +kernel
theorem dX6_init_60 : decode cX6_init 60 = .ok (.aload_n 0, 1) := by decide +kernel
theorem dX6_init_61 : decode cX6_init 61 = .ok (.bipush 69, 2) := by decide +kernel
theorem dX6_init_63 : decode cX6_init 63 = .ok (.newarray .int, 2) := by decide +kernel
theorem dX6_init_65 : decode cX6_init 65 = .ok (.putfield 33, 3) := by decide +kernel
theorem dX6_init_68 : decode cX6_init 68 = .ok (.aload_n 0, 1) := by decide +kernel
theorem dX6_init_69 : decode cX6_init 69 = .ok (.bipush 69, 2) := by decide +kernel
theorem dX6_init_71 : decode cX6_init 71 = .ok (.newarray .int, 2) := by decide +kernel
theorem dX6_init_73 : decode cX6_init 73 = .ok (.putfield 36, 3) := by decide +kernel
theorem dX6_init_76 : decode cX6_init 76 = .ok (.aload_n 0, 1) := by decide +kernel
theorem dX6_init_77 : decode cX6_init 77 = .ok (.sipush 240, 3) := by decide +kernel
theorem dX6_init_80 : decode cX6_init 80 = .ok (.newarray .int, 2) := by decide +kernel
theorem dX6_init_82 : decode cX6_init 82 = .ok (.putfield 39, 3) := by decide +kernel
theorem dX6_init_85 : decode cX6_init 85 = .ok (.aload_n 0, 1) := by decide +kernel
theorem dX6_init_86 : decode cX6_init 86 = .ok (.iconst 0, 1) := by decide +kernel
theorem dX6_init_87 : decode cX6_init 87 = .ok (.putfield 42, 3) := by decide +kernel
theorem dX6_init_90 : decode cX6_init 90 = .ok (.aload_n 0, 1) := by decide +kernel
theorem dX6_init_91 : decode cX6_init 91 = .ok (.invokevirtual 46, 3) := by decide +kernel
theorem dX6_init_94 : decode cX6_init 94 = .ok (.return_, 1) := by decide +kernel
theorem dX6_settles_0 : decode cX6_settles 0 = .ok (.iconst 0, 1) := by decide +kernel
theorem dX6_settles_1 : decode cX6_settles 1 = .ok (.istore_n 1, 1) := by decide +kernel
theorem dX6_settles_2 : decode cX6_settles 2 = .ok (.iload_n 1, 1) := by decide +kernel
theorem dX6_settles_3 : decode cX6_settles 3 = .ok (.bipush 69, 2) := by decide +kernel
theorem dX6_settles_5 : decode cX6_settles 5 = .ok (.if_icmp .ge 16, 3) := by decide +kernel
theorem dX6_settles_8 : decode cX6_settles 8 = .ok (.aload_n 0, 1) := by decide +kernel
theorem dX6_settles_9 : decode cX6_settles 9 = .ok (.getfield 7, 3) := by decide +kernel
theorem dX6_settles_12 : decode cX6_settles 12 = .ok (.iload_n 1, 1) := by decide +kernel
theorem dX6_settles_13 : decode cX6_settles 13 = .ok (.iconst 0, 1) := by decide +kernel
theorem dX6_settles_14 : decode cX6_settles 14 = .ok (.iastore, 1) := by decide +kernel
theorem dX6_settles_15 : decode cX6_settles 15 = .ok (.iinc 1 1, 3) := by decide +kernel
theorem dX6_settles_18 : decode cX6_settles 18 = .ok (.goto (-16), 3) := by decide +kernel
theorem dX6_settles_21 : decode cX6_settles 21 = .ok (.aload_n 0, 1) := by decide +kernel
theorem dX6_settles_22 : decode cX6_settles 22 = .ok (.getfield 7, 3) := by decide +kernel
theorem dX6_settles_25 : decode cX6_settles 25 = .ok (.iconst 0, 1) := by decide +kernel
theorem dX6_settles_26 : decode cX6_settles 26 = .ok (.bipush 6, 2) := by decide +kernel
theorem dX6_settles_28 : decode cX6_settles 28 = .ok (.iastore, 1) := by decide +kernel
theorem dX6_settles_29 : decode cX6_settles 29 = .ok (.aload_n 0, 1) := by decide +kernel
theorem dX6_settles_30 : decode cX6_settles 30 = .ok (.getfield 7, 3) := by decide +kernel
theorem dX6_settles_33 : decode cX6_settles 33 = .ok (.iconst 1, 1) := by decide +kernel
theorem dX6_settles_34 : decode cX6_settles 34 = .ok (.iconst 1, 1) := by decide +kernel
theorem dX6_settles_35 : decode cX6_settles 35 = .ok (.iastore, 1) := by decide +kernel
theorem dX6_settles_36 : decode cX6_settles 36 = .ok (.aload_n 0, 1) := by decide +kernel
theorem dX6_settles_37 : decode cX6_settles 37 = .ok (.getfield 7, 3) := by decide +kernel
theorem dX6_settles_40 : decode cX6_settles 40 = .ok (.iconst 2, 1) := by decide +kernel
theorem dX6_settles_41 : decode cX6_settles 41 = .ok (.iconst 2, 1) := by decide +kernel
theorem dX6_settles_42 : decode cX6_settles 42 = .ok (.iastore, 1) := by decide +kernel
theorem dX6_settles_43 : decode cX6_settles 43 = .ok (.aload_n 0, 1) := by decide +kernel
theorem dX6_settles_44 : decode cX6_settles 44 = .ok (.lconst 0, 1) := by decide +kernel
theorem dX6_settles_45 : decode cX6_settles 45 = .ok (.putfield 49, 3) := by decide +kernel
theorem dX6_settles_48 : decode cX6_settles 48 = .ok (.return_, 1) := by decide +kernel
theorem dX6_thrown_0 : decode cX6_thrown 0 = .ok (.aload_n 0, 1) := by decide +kernel
theorem dX6_thrown_1 : decode cX6_thrown 1 = .ok (.getfield 42, 3) := by decide +kernel
theorem dX6_thrown_4 : decode cX6_thrown 4 = .ok (.ireturn, 1) := by decide +kernel
theorem dX6_in_0 : decode cX6_in 0 = .ok (.iload_n 0, 1) := by decide +kernel
theorem dX6_in_1 : decode cX6_in 1 = .ok (.iload_n 1, 1) := by decide +kernel
theorem dX6_in_2 : decode cX6_in 2 = .ok (.if_icmp .lt 12, 3) := by decide +kernel
theorem dX6_in_5 : decode cX6_in 5 = .ok (.iload_n 0, 1) := by decide +kernel
theorem dX6_in_6 : decode cX6_in 6 = .ok (.iload_n 2, 1) := by decide +kernel
theorem dX6_in_7 : decode cX6_in 7 = .ok (.if_icmp .gt 7, 3) := by decide +kernel
theorem dX6_in_10 : decode cX6_in 10 = .ok (.iconst 1, 1) := by decide +kernel
theorem dX6_in_11 : decode cX6_in 11 = .ok (.goto 4, 3) := by decide +kernel
theorem dX6_in_14 : decode cX6_in 14 = .ok (.iconst 0, 1) := by decide +kernel
theorem dX6_in_15 : decode cX6_in 15 = .ok (.ireturn, 1) := by decide +kernel
theorem dX6_fails_0 : decode cX6_fails 0 = .ok (.aload_n 0, 1) := by decide +kernel
theorem dX6_fails_1 : decode cX6_fails 1 = .ok (.iload_n 1, 1) := by decide +kernel
theorem dX6_fails_2 : decode cX6_fails 2 = .ok (.putfield 42, 3) := by decide +kernel
theorem dX6_fails_5 : decode cX6_fails 5 = .ok (.iconst 0, 1) := by decide +kernel
theorem dX6_fails_6 : decode cX6_fails 6 = .ok (.ireturn, 1) := by decide +kernel
theorem dX6_of_0 : decode cX6_of 0 = .ok (.aload_n 0, 1) := by decide +kernel
theorem dX6_of_1 : decode cX6_of 1 = .ok (.getfield 7, 3) := by decide +kernel
theorem dX6_of_4 : decode cX6_of 4 = .ok (.bipush 13, 2) := by decide +kernel
theorem dX6_of_6 : decode cX6_of 6 = .ok (.bipush 8, 2) := by decide +kernel
theorem dX6_of_8 : decode cX6_of 8 = .ok (.iload_n 1, 1) := by decide +kernel
theorem dX6_of_9 : decode cX6_of 9 = .ok (.imul, 1) := by decide +kernel
theorem dX6_of_10 : decode cX6_of 10 = .ok (.iadd, 1) := by decide +kernel
theorem dX6_of_11 : decode cX6_of 11 = .ok (.iload_n 2, 1) := by decide +kernel
theorem dX6_of_12 : decode cX6_of 12 = .ok (.iadd, 1) := by decide +kernel
theorem dX6_of_13 : decode cX6_of 13 = .ok (.iaload, 1) := by decide +kernel
theorem dX6_of_14 : decode cX6_of 14 = .ok (.ireturn, 1) := by decide +kernel
theorem dX6_adds_0 : decode cX6_adds 0 = .ok (.aload_n 0, 1) := by decide +kernel
theorem dX6_adds_1 : decode cX6_adds 1 = .ok (.getfield 7, 3) := by decide +kernel
theorem dX6_adds_4 : decode cX6_adds 4 = .ok (.bipush 13, 2) := by decide +kernel
theorem dX6_adds_6 : decode cX6_adds 6 = .ok (.bipush 8, 2) := by decide +kernel
theorem dX6_adds_8 : decode cX6_adds 8 = .ok (.iload_n 1, 1) := by decide +kernel
theorem dX6_adds_9 : decode cX6_adds 9 = .ok (.imul, 1) := by decide +kernel
theorem dX6_adds_10 : decode cX6_adds 10 = .ok (.iadd, 1) := by decide +kernel
theorem dX6_adds_11 : decode cX6_adds 11 = .ok (.iload_n 2, 1) := by decide +kernel
theorem dX6_adds_12 : decode cX6_adds 12 = .ok (.iadd, 1) := by decide +kernel
theorem dX6_adds_13 : decode cX6_adds 13 = .ok (.dup2, 1) := by decide +kernel
theorem dX6_adds_14 : decode cX6_adds 14 = .ok (.iaload, 1) := by decide +kernel
theorem dX6_adds_15 : decode cX6_adds 15 = .ok (.iload_n 3, 1) := by decide +kernel
theorem dX6_adds_16 : decode cX6_adds 16 = .ok (.iadd, 1) := by decide +kernel
theorem dX6_adds_17 : decode cX6_adds 17 = .ok (.iastore, 1) := by decide +kernel
theorem dX6_adds_18 : decode cX6_adds 18 = .ok (.return_, 1) := by decide +kernel
theorem dX6_workersAt_0 : decode cX6_workersAt 0 = .ok (.aload_n 0, 1) := by decide +kernel
theorem dX6_workersAt_1 : decode cX6_workersAt 1 = .ok (.getfield 7, 3) := by decide +kernel
theorem dX6_workersAt_4 : decode cX6_workersAt 4 = .ok (.bipush 45, 2) := by decide +kernel
theorem dX6_workersAt_6 : decode cX6_workersAt 6 = .ok (.iconst 4, 1) := by decide +kernel
theorem dX6_workersAt_7 : decode cX6_workersAt 7 = .ok (.iload_n 1, 1) := by decide +kernel
theorem dX6_workersAt_8 : decode cX6_workersAt 8 = .ok (.imul, 1) := by decide +kernel
theorem dX6_workersAt_9 : decode cX6_workersAt 9 = .ok (.iadd, 1) := by decide +kernel
theorem dX6_workersAt_10 : decode cX6_workersAt 10 = .ok (.iaload, 1) := by decide +kernel
theorem dX6_workersAt_11 : decode cX6_workersAt 11 = .ok (.ireturn, 1) := by decide +kernel
theorem dX6_ownerAt_0 : decode cX6_ownerAt 0 = .ok (.aload_n 0, 1) := by decide +kernel
theorem dX6_ownerAt_1 : decode cX6_ownerAt 1 = .ok (.getfield 7, 3) := by decide +kernel
theorem dX6_ownerAt_4 : decode cX6_ownerAt 4 = .ok (.bipush 45, 2) := by decide +kernel
theorem dX6_ownerAt_6 : decode cX6_ownerAt 6 = .ok (.iconst 4, 1) := by decide +kernel
theorem dX6_ownerAt_7 : decode cX6_ownerAt 7 = .ok (.iload_n 1, 1) := by decide +kernel
theorem dX6_ownerAt_8 : decode cX6_ownerAt 8 = .ok (.imul, 1) := by decide +kernel
theorem dX6_ownerAt_9 : decode cX6_ownerAt 9 = .ok (.iadd, 1) := by decide +kernel
theorem dX6_ownerAt_10 : decode cX6_ownerAt 10 = .ok (.iconst 1, 1) := by decide +kernel
theorem dX6_ownerAt_11 : decode cX6_ownerAt 11 = .ok (.iadd, 1) := by decide +kernel
theorem dX6_ownerAt_12 : decode cX6_ownerAt 12 = .ok (.iload_n 2, 1) := by decide +kernel
theorem dX6_ownerAt_13 : decode cX6_ownerAt 13 = .ok (.iadd, 1) := by decide +kernel
theorem dX6_ownerAt_14 : decode cX6_ownerAt 14 = .ok (.iaload, 1) := by decide +kernel
theorem dX6_ownerAt_15 : decode cX6_ownerAt 15 = .ok (.ireturn, 1) := by decide +kernel
theorem dX6_isPlayer_0 : decode cX6_isPlayer 0 = .ok (.iload_n 1, 1) := by decide +kernel
theorem dX6_isPlayer_1 : decode cX6_isPlayer 1 = .ok (.iconst 0, 1) := by decide +kernel
theorem dX6_isPlayer_2 : decode cX6_isPlayer 2 = .ok (.aload_n 0, 1) := by decide +kernel
theorem dX6_isPlayer_3 : decode cX6_isPlayer 3 = .ok (.getfield 7, 3) := by decide +kernel
theorem dX6_isPlayer_6 : decode cX6_isPlayer 6 = .ok (.iconst 3, 1) := by decide +kernel
theorem dX6_isPlayer_7 : decode cX6_isPlayer 7 = .ok (.iaload, 1) := by decide +kernel
theorem dX6_isPlayer_8 : decode cX6_isPlayer 8 = .ok (.iconst 1, 1) := by decide +kernel
theorem dX6_isPlayer_9 : decode cX6_isPlayer 9 = .ok (.isub, 1) := by decide +kernel
theorem dX6_isPlayer_10 : decode cX6_isPlayer 10 = .ok (.invokestatic 53, 3) := by decide +kernel
theorem dX6_isPlayer_13 : decode cX6_isPlayer 13 = .ok (.ireturn, 1) := by decide +kernel
theorem dX6_isPlace_0 : decode cX6_isPlace 0 = .ok (.iload_n 0, 1) := by decide +kernel
theorem dX6_isPlace_1 : decode cX6_isPlace 1 = .ok (.iconst 0, 1) := by decide +kernel
theorem dX6_isPlace_2 : decode cX6_isPlace 2 = .ok (.iconst 5, 1) := by decide +kernel
theorem dX6_isPlace_3 : decode cX6_isPlace 3 = .ok (.invokestatic 53, 3) := by decide +kernel
theorem dX6_isPlace_6 : decode cX6_isPlace 6 = .ok (.ireturn, 1) := by decide +kernel
theorem dX6_remembers_0 : decode cX6_remembers 0 = .ok (.aload_n 0, 1) := by decide +kernel
theorem dX6_remembers_1 : decode cX6_remembers 1 = .ok (.getfield 57, 3) := by decide +kernel
theorem dX6_remembers_4 : decode cX6_remembers 4 = .ok (.bipush 14, 2) := by decide +kernel
theorem dX6_remembers_6 : decode cX6_remembers 6 = .ok (.if_icmp .ne 71, 3) := by decide +kernel
theorem dX6_remembers_9 : decode cX6_remembers 9 = .ok (.iconst 0, 1) := by decide +kernel
theorem dX6_remembers_10 : decode cX6_remembers 10 = .ok (.istore_n 1, 1) := by decide +kernel
theorem dX6_remembers_11 : decode cX6_remembers 11 = .ok (.iload_n 1, 1) := by decide +kernel
theorem dX6_remembers_12 : decode cX6_remembers 12 = .ok (.sipush 897, 3) := by decide +kernel
theorem dX6_remembers_15 : decode cX6_remembers 15 = .ok (.if_icmp .ge 24, 3) := by decide +kernel
theorem dX6_remembers_18 : decode cX6_remembers 18 = .ok (.aload_n 0, 1) := by decide +kernel
theorem dX6_remembers_19 : decode cX6_remembers 19 = .ok (.getfield 13, 3) := by decide +kernel
theorem dX6_remembers_22 : decode cX6_remembers 22 = .ok (.iload_n 1, 1) := by decide +kernel
theorem dX6_remembers_23 : decode cX6_remembers 23 = .ok (.aload_n 0, 1) := by decide +kernel
theorem dX6_remembers_24 : decode cX6_remembers 24 = .ok (.getfield 13, 3) := by decide +kernel
theorem dX6_remembers_27 : decode cX6_remembers 27 = .ok (.iload_n 1, 1) := by decide +kernel
theorem dX6_remembers_28 : decode cX6_remembers 28 = .ok (.bipush 69, 2) := by decide +kernel
theorem dX6_remembers_30 : decode cX6_remembers 30 = .ok (.iadd, 1) := by decide +kernel
theorem dX6_remembers_31 : decode cX6_remembers 31 = .ok (.iaload, 1) := by decide +kernel
theorem dX6_remembers_32 : decode cX6_remembers 32 = .ok (.iastore, 1) := by decide +kernel
theorem dX6_remembers_33 : decode cX6_remembers 33 = .ok (.iinc 1 1, 3) := by decide +kernel
theorem dX6_remembers_36 : decode cX6_remembers 36 = .ok (.goto (-25), 3) := by decide +kernel
theorem dX6_remembers_39 : decode cX6_remembers 39 = .ok (.iconst 0, 1) := by decide +kernel
theorem dX6_remembers_40 : decode cX6_remembers 40 = .ok (.istore_n 1, 1) := by decide +kernel
theorem dX6_remembers_41 : decode cX6_remembers 41 = .ok (.iload_n 1, 1) := by decide +kernel
theorem dX6_remembers_42 : decode cX6_remembers 42 = .ok (.bipush 13, 2) := by decide +kernel
theorem dX6_remembers_44 : decode cX6_remembers 44 = .ok (.if_icmp .ge 23, 3) := by decide +kernel
theorem dX6_remembers_47 : decode cX6_remembers 47 = .ok (.aload_n 0, 1) := by decide +kernel
theorem dX6_remembers_48 : decode cX6_remembers 48 = .ok (.getfield 16, 3) := by decide +kernel
theorem dX6_remembers_51 : decode cX6_remembers 51 = .ok (.iload_n 1, 1) := by decide +kernel
theorem dX6_remembers_52 : decode cX6_remembers 52 = .ok (.aload_n 0, 1) := by decide +kernel
theorem dX6_remembers_53 : decode cX6_remembers 53 = .ok (.getfield 16, 3) := by decide +kernel
theorem dX6_remembers_56 : decode cX6_remembers 56 = .ok (.iload_n 1, 1) := by decide +kernel
theorem dX6_remembers_57 : decode cX6_remembers 57 = .ok (.iconst 1, 1) := by decide +kernel
theorem dX6_remembers_58 : decode cX6_remembers 58 = .ok (.iadd, 1) := by decide +kernel
theorem dX6_remembers_59 : decode cX6_remembers 59 = .ok (.laload, 1) := by decide +kernel
theorem dX6_remembers_60 : decode cX6_remembers 60 = .ok (.lastore, 1) := by decide +kernel
theorem dX6_remembers_61 : decode cX6_remembers 61 = .ok (.iinc 1 1, 3) := by decide +kernel
theorem dX6_remembers_64 : decode cX6_remembers 64 = .ok (.goto (-23), 3) := by decide +kernel
theorem dX6_remembers_67 : decode cX6_remembers 67 = .ok (.aload_n 0, 1) := by decide +kernel
theorem dX6_remembers_68 : decode cX6_remembers 68 = .ok (.dup, 1) := by decide +kernel
theorem dX6_remembers_69 : decode cX6_remembers 69 = .ok (.getfield 57, 3) := by decide +kernel
theorem dX6_remembers_72 : decode cX6_remembers 72 = .ok (.iconst 1, 1) := by decide +kernel
theorem dX6_remembers_73 : decode cX6_remembers 73 = .ok (.isub, 1) := by decide +kernel
theorem dX6_remembers_74 : decode cX6_remembers 74 = .ok (.putfield 57, 3) := by decide +kernel
theorem dX6_remembers_77 : decode cX6_remembers 77 = .ok (.iconst 0, 1) := by decide +kernel
theorem dX6_remembers_78 : decode cX6_remembers 78 = .ok (.istore_n 1, 1) := by decide +kernel
theorem dX6_remembers_79 : decode cX6_remembers 79 = .ok (.iload_n 1, 1) := by decide +kernel
theorem dX6_remembers_80 : decode cX6_remembers 80 = .ok (.bipush 69, 2) := by decide +kernel
theorem dX6_remembers_82 : decode cX6_remembers 82 = .ok (.if_icmp .ge 29, 3) := by decide +kernel
theorem dX6_remembers_85 : decode cX6_remembers 85 = .ok (.aload_n 0, 1) := by decide +kernel
theorem dX6_remembers_86 : decode cX6_remembers 86 = .ok (.getfield 13, 3) := by decide +kernel
theorem dX6_remembers_89 : decode cX6_remembers 89 = .ok (.bipush 69, 2) := by decide +kernel
theorem dX6_remembers_91 : decode cX6_remembers 91 = .ok (.aload_n 0, 1) := by decide +kernel
theorem dX6_remembers_92 : decode cX6_remembers 92 = .ok (.getfield 57, 3) := by decide +kernel
theorem dX6_remembers_95 : decode cX6_remembers 95 = .ok (.imul, 1) := by decide +kernel
theorem dX6_remembers_96 : decode cX6_remembers 96 = .ok (.iload_n 1, 1) := by decide +kernel
theorem dX6_remembers_97 : decode cX6_remembers 97 = .ok (.iadd, 1) := by decide +kernel
theorem dX6_remembers_98 : decode cX6_remembers 98 = .ok (.aload_n 0, 1) := by decide +kernel
theorem dX6_remembers_99 : decode cX6_remembers 99 = .ok (.getfield 7, 3) := by decide +kernel
theorem dX6_remembers_102 : decode cX6_remembers 102 = .ok (.iload_n 1, 1) := by decide +kernel
theorem dX6_remembers_103 : decode cX6_remembers 103 = .ok (.iaload, 1) := by decide +kernel
theorem dX6_remembers_104 : decode cX6_remembers 104 = .ok (.iastore, 1) := by decide +kernel
theorem dX6_remembers_105 : decode cX6_remembers 105 = .ok (.iinc 1 1, 3) := by decide +kernel
theorem dX6_remembers_108 : decode cX6_remembers 108 = .ok (.goto (-29), 3) := by decide +kernel
theorem dX6_remembers_111 : decode cX6_remembers 111 = .ok (.aload_n 0, 1) := by decide +kernel
theorem dX6_remembers_112 : decode cX6_remembers 112 = .ok (.getfield 16, 3) := by decide +kernel
theorem dX6_remembers_115 : decode cX6_remembers 115 = .ok (.aload_n 0, 1) := by decide +kernel
theorem dX6_remembers_116 : decode cX6_remembers 116 = .ok (.getfield 57, 3) := by decide +kernel
theorem dX6_remembers_119 : decode cX6_remembers 119 = .ok (.aload_n 0, 1) := by decide +kernel
theorem dX6_remembers_120 : decode cX6_remembers 120 = .ok (.getfield 49, 3) := by decide +kernel
theorem dX6_remembers_123 : decode cX6_remembers 123 = .ok (.lastore, 1) := by decide +kernel
theorem dX6_remembers_124 : decode cX6_remembers 124 = .ok (.aload_n 0, 1) := by decide +kernel
theorem dX6_remembers_125 : decode cX6_remembers 125 = .ok (.dup, 1) := by decide +kernel
theorem dX6_remembers_126 : decode cX6_remembers 126 = .ok (.getfield 57, 3) := by decide +kernel
theorem dX6_remembers_129 : decode cX6_remembers 129 = .ok (.iconst 1, 1) := by decide +kernel
theorem dX6_remembers_130 : decode cX6_remembers 130 = .ok (.iadd, 1) := by decide +kernel
theorem dX6_remembers_131 : decode cX6_remembers 131 = .ok (.putfield 57, 3) := by decide +kernel
theorem dX6_remembers_134 : decode cX6_remembers 134 = .ok (.return_, 1) := by decide +kernel
theorem dX6_putsAside_0 : decode cX6_putsAside 0 = .ok (.iconst 0, 1) := by decide +kernel
theorem dX6_putsAside_1 : decode cX6_putsAside 1 = .ok (.istore_n 1, 1) := by decide +kernel
theorem dX6_putsAside_2 : decode cX6_putsAside 2 = .ok (.iload_n 1, 1) := by decide +kernel
theorem dX6_putsAside_3 : decode cX6_putsAside 3 = .ok (.bipush 69, 2) := by decide +kernel
theorem dX6_putsAside_5 : decode cX6_putsAside 5 = .ok (.if_icmp .ge 21, 3) := by decide +kernel
theorem dX6_putsAside_8 : decode cX6_putsAside 8 = .ok (.aload_n 0, 1) := by decide +kernel
theorem dX6_putsAside_9 : decode cX6_putsAside 9 = .ok (.getfield 33, 3) := by decide +kernel
theorem dX6_putsAside_12 : decode cX6_putsAside 12 = .ok (.iload_n 1, 1) := by decide +kernel
theorem dX6_putsAside_13 : decode cX6_putsAside 13 = .ok (.aload_n 0, 1) := by decide +kernel
theorem dX6_putsAside_14 : decode cX6_putsAside 14 = .ok (.getfield 7, 3) := by decide +kernel
theorem dX6_putsAside_17 : decode cX6_putsAside 17 = .ok (.iload_n 1, 1) := by decide +kernel
theorem dX6_putsAside_18 : decode cX6_putsAside 18 = .ok (.iaload, 1) := by decide +kernel
theorem dX6_putsAside_19 : decode cX6_putsAside 19 = .ok (.iastore, 1) := by decide +kernel
theorem dX6_putsAside_20 : decode cX6_putsAside 20 = .ok (.iinc 1 1, 3) := by decide +kernel
theorem dX6_putsAside_23 : decode cX6_putsAside 23 = .ok (.goto (-21), 3) := by decide +kernel
theorem dX6_putsAside_26 : decode cX6_putsAside 26 = .ok (.aload_n 0, 1) := by decide +kernel
theorem dX6_putsAside_27 : decode cX6_putsAside 27 = .ok (.aload_n 0, 1) := by decide +kernel
theorem dX6_putsAside_28 : decode cX6_putsAside 28 = .ok (.getfield 49, 3) := by decide +kernel
theorem dX6_putsAside_31 : decode cX6_putsAside 31 = .ok (.putfield 60, 3) := by decide +kernel
theorem dX6_putsAside_34 : decode cX6_putsAside 34 = .ok (.return_, 1) := by decide +kernel
theorem dX6_takesBack_0 : decode cX6_takesBack 0 = .ok (.iconst 0, 1) := by decide +kernel
theorem dX6_takesBack_1 : decode cX6_takesBack 1 = .ok (.istore_n 1, 1) := by decide +kernel
theorem dX6_takesBack_2 : decode cX6_takesBack 2 = .ok (.iload_n 1, 1) := by decide +kernel
theorem dX6_takesBack_3 : decode cX6_takesBack 3 = .ok (.bipush 69, 2) := by decide +kernel
theorem dX6_takesBack_5 : decode cX6_takesBack 5 = .ok (.if_icmp .ge 21, 3) := by decide +kernel
theorem dX6_takesBack_8 : decode cX6_takesBack 8 = .ok (.aload_n 0, 1) := by decide +kernel
theorem dX6_takesBack_9 : decode cX6_takesBack 9 = .ok (.getfield 7, 3) := by decide +kernel
theorem dX6_takesBack_12 : decode cX6_takesBack 12 = .ok (.iload_n 1, 1) := by decide +kernel
theorem dX6_takesBack_13 : decode cX6_takesBack 13 = .ok (.aload_n 0, 1) := by decide +kernel
theorem dX6_takesBack_14 : decode cX6_takesBack 14 = .ok (.getfield 33, 3) := by decide +kernel
theorem dX6_takesBack_17 : decode cX6_takesBack 17 = .ok (.iload_n 1, 1) := by decide +kernel
theorem dX6_takesBack_18 : decode cX6_takesBack 18 = .ok (.iaload, 1) := by decide +kernel
theorem dX6_takesBack_19 : decode cX6_takesBack 19 = .ok (.iastore, 1) := by decide +kernel
theorem dX6_takesBack_20 : decode cX6_takesBack 20 = .ok (.iinc 1 1, 3) := by decide +kernel
theorem dX6_takesBack_23 : decode cX6_takesBack 23 = .ok (.goto (-21), 3) := by decide +kernel
theorem dX6_takesBack_26 : decode cX6_takesBack 26 = .ok (.aload_n 0, 1) := by decide +kernel
theorem dX6_takesBack_27 : decode cX6_takesBack 27 = .ok (.aload_n 0, 1) := by decide +kernel
theorem dX6_takesBack_28 : decode cX6_takesBack 28 = .ok (.getfield 60, 3) := by decide +kernel
theorem dX6_takesBack_31 : decode cX6_takesBack 31 = .ok (.putfield 49, 3) := by decide +kernel
theorem dX6_takesBack_34 : decode cX6_takesBack 34 = .ok (.return_, 1) := by decide +kernel
theorem dX6_keeps_0 : decode cX6_keeps 0 = .ok (.iconst 0, 1) := by decide +kernel
theorem dX6_keeps_1 : decode cX6_keeps 1 = .ok (.istore_n 1, 1) := by decide +kernel
theorem dX6_keeps_2 : decode cX6_keeps 2 = .ok (.iload_n 1, 1) := by decide +kernel
theorem dX6_keeps_3 : decode cX6_keeps 3 = .ok (.bipush 69, 2) := by decide +kernel
theorem dX6_keeps_5 : decode cX6_keeps 5 = .ok (.if_icmp .ge 21, 3) := by decide +kernel
theorem dX6_keeps_8 : decode cX6_keeps 8 = .ok (.aload_n 0, 1) := by decide +kernel
theorem dX6_keeps_9 : decode cX6_keeps 9 = .ok (.getfield 36, 3) := by decide +kernel
theorem dX6_keeps_12 : decode cX6_keeps 12 = .ok (.iload_n 1, 1) := by decide +kernel
theorem dX6_keeps_13 : decode cX6_keeps 13 = .ok (.aload_n 0, 1) := by decide +kernel
theorem dX6_keeps_14 : decode cX6_keeps 14 = .ok (.getfield 7, 3) := by decide +kernel
theorem dX6_keeps_17 : decode cX6_keeps 17 = .ok (.iload_n 1, 1) := by decide +kernel
theorem dX6_keeps_18 : decode cX6_keeps 18 = .ok (.iaload, 1) := by decide +kernel
theorem dX6_keeps_19 : decode cX6_keeps 19 = .ok (.iastore, 1) := by decide +kernel
theorem dX6_keeps_20 : decode cX6_keeps 20 = .ok (.iinc 1 1, 3) := by decide +kernel
theorem dX6_keeps_23 : decode cX6_keeps 23 = .ok (.goto (-21), 3) := by decide +kernel
theorem dX6_keeps_26 : decode cX6_keeps 26 = .ok (.aload_n 0, 1) := by decide +kernel
theorem dX6_keeps_27 : decode cX6_keeps 27 = .ok (.aload_n 0, 1) := by decide +kernel
theorem dX6_keeps_28 : decode cX6_keeps 28 = .ok (.getfield 49, 3) := by decide +kernel
theorem dX6_keeps_31 : decode cX6_keeps 31 = .ok (.putfield 63, 3) := by decide +kernel
theorem dX6_keeps_34 : decode cX6_keeps 34 = .ok (.return_, 1) := by decide +kernel
theorem dX6_takesKept_0 : decode cX6_takesKept 0 = .ok (.iconst 0, 1) := by decide +kernel
theorem dX6_takesKept_1 : decode cX6_takesKept 1 = .ok (.istore_n 1, 1) := by decide +kernel
theorem dX6_takesKept_2 : decode cX6_takesKept 2 = .ok (.iload_n 1, 1) := by decide +kernel
theorem dX6_takesKept_3 : decode cX6_takesKept 3 = .ok (.bipush 69, 2) := by decide +kernel
theorem dX6_takesKept_5 : decode cX6_takesKept 5 = .ok (.if_icmp .ge 21, 3) := by decide +kernel
theorem dX6_takesKept_8 : decode cX6_takesKept 8 = .ok (.aload_n 0, 1) := by decide +kernel
theorem dX6_takesKept_9 : decode cX6_takesKept 9 = .ok (.getfield 7, 3) := by decide +kernel
theorem dX6_takesKept_12 : decode cX6_takesKept 12 = .ok (.iload_n 1, 1) := by decide +kernel
theorem dX6_takesKept_13 : decode cX6_takesKept 13 = .ok (.aload_n 0, 1) := by decide +kernel
theorem dX6_takesKept_14 : decode cX6_takesKept 14 = .ok (.getfield 36, 3) := by decide +kernel
theorem dX6_takesKept_17 : decode cX6_takesKept 17 = .ok (.iload_n 1, 1) := by decide +kernel
theorem dX6_takesKept_18 : decode cX6_takesKept 18 = .ok (.iaload, 1) := by decide +kernel
theorem dX6_takesKept_19 : decode cX6_takesKept 19 = .ok (.iastore, 1) := by decide +kernel
theorem dX6_takesKept_20 : decode cX6_takesKept 20 = .ok (.iinc 1 1, 3) := by decide +kernel
theorem dX6_takesKept_23 : decode cX6_takesKept 23 = .ok (.goto (-21), 3) := by decide +kernel
theorem dX6_takesKept_26 : decode cX6_takesKept 26 = .ok (.aload_n 0, 1) := by decide +kernel
theorem dX6_takesKept_27 : decode cX6_takesKept 27 = .ok (.aload_n 0, 1) := by decide +kernel
theorem dX6_takesKept_28 : decode cX6_takesKept 28 = .ok (.getfield 63, 3) := by decide +kernel
theorem dX6_takesKept_31 : decode cX6_takesKept 31 = .ok (.putfield 49, 3) := by decide +kernel
theorem dX6_takesKept_34 : decode cX6_takesKept 34 = .ok (.return_, 1) := by decide +kernel
theorem dX6_isOn_0 : decode cX6_isOn 0 = .ok (.aload_n 0, 1) := by decide +kernel
theorem dX6_isOn_1 : decode cX6_isOn 1 = .ok (.getfield 7, 3) := by decide +kernel
theorem dX6_isOn_4 : decode cX6_isOn 4 = .ok (.iconst 3, 1) := by decide +kernel
theorem dX6_isOn_5 : decode cX6_isOn 5 = .ok (.iaload, 1) := by decide +kernel
theorem dX6_isOn_6 : decode cX6_isOn 6 = .ok (.ifCond .le 23, 3) := by decide +kernel
theorem dX6_isOn_9 : decode cX6_isOn 9 = .ok (.aload_n 0, 1) := by decide +kernel
theorem dX6_isOn_10 : decode cX6_isOn 10 = .ok (.getfield 7, 3) := by decide +kernel
theorem dX6_isOn_13 : decode cX6_isOn 13 = .ok (.bipush 6, 2) := by decide +kernel
theorem dX6_isOn_15 : decode cX6_isOn 15 = .ok (.iaload, 1) := by decide +kernel
theorem dX6_isOn_16 : decode cX6_isOn 16 = .ok (.aload_n 0, 1) := by decide +kernel
theorem dX6_isOn_17 : decode cX6_isOn 17 = .ok (.getfield 7, 3) := by decide +kernel
theorem dX6_isOn_20 : decode cX6_isOn 20 = .ok (.iconst 0, 1) := by decide +kernel
theorem dX6_isOn_21 : decode cX6_isOn 21 = .ok (.iaload, 1) := by decide +kernel
theorem dX6_isOn_22 : decode cX6_isOn 22 = .ok (.if_icmp .ge 7, 3) := by decide +kernel
theorem dX6_isOn_25 : decode cX6_isOn 25 = .ok (.iconst 1, 1) := by decide +kernel
theorem dX6_isOn_26 : decode cX6_isOn 26 = .ok (.goto 4, 3) := by decide +kernel
theorem dX6_isOn_29 : decode cX6_isOn 29 = .ok (.iconst 0, 1) := by decide +kernel
theorem dX6_isOn_30 : decode cX6_isOn 30 = .ok (.ireturn, 1) := by decide +kernel
theorem dX6_die_0 : decode cX6_die 0 = .ok (.iconst 1, 1) := by decide +kernel
theorem dX6_die_1 : decode cX6_die 1 = .ok (.lload_n 0, 1) := by decide +kernel
theorem dX6_die_2 : decode cX6_die 2 = .ok (.bipush 33, 2) := by decide +kernel
theorem dX6_die_4 : decode cX6_die 4 = .ok (.lushr, 1) := by decide +kernel
theorem dX6_die_5 : decode cX6_die 5 = .ok (.l2i, 1) := by decide +kernel
theorem dX6_die_6 : decode cX6_die 6 = .ok (.bipush 6, 2) := by decide +kernel
theorem dX6_die_8 : decode cX6_die 8 = .ok (.irem, 1) := by decide +kernel
theorem dX6_die_9 : decode cX6_die 9 = .ok (.iadd, 1) := by decide +kernel
theorem dX6_die_10 : decode cX6_die 10 = .ok (.ireturn, 1) := by decide +kernel
theorem dX6_next_0 : decode cX6_next 0 = .ok (.lload_n 0, 1) := by decide +kernel
theorem dX6_next_1 : decode cX6_next 1 = .ok (.ldc2_w 66, 3) := by decide +kernel
theorem dX6_next_4 : decode cX6_next 4 = .ok (.lmul, 1) := by decide +kernel
theorem dX6_next_5 : decode cX6_next 5 = .ok (.ldc2_w 68, 3) := by decide +kernel
theorem dX6_next_8 : decode cX6_next 8 = .ok (.ladd, 1) := by decide +kernel
theorem dX6_next_9 : decode cX6_next 9 = .ok (.lreturn, 1) := by decide +kernel
theorem dX6_throwsDie_0 : decode cX6_throwsDie 0 = .ok (.aload_n 0, 1) := by decide +kernel
theorem dX6_throwsDie_1 : decode cX6_throwsDie 1 = .ok (.aload_n 0, 1) := by decide +kernel
theorem dX6_throwsDie_2 : decode cX6_throwsDie 2 = .ok (.getfield 49, 3) := by decide +kernel
theorem dX6_throwsDie_5 : decode cX6_throwsDie 5 = .ok (.invokestatic 70, 3) := by decide +kernel
theorem dX6_throwsDie_8 : decode cX6_throwsDie 8 = .ok (.putfield 49, 3) := by decide +kernel
theorem dX6_throwsDie_11 : decode cX6_throwsDie 11 = .ok (.aload_n 0, 1) := by decide +kernel
theorem dX6_throwsDie_12 : decode cX6_throwsDie 12 = .ok (.getfield 7, 3) := by decide +kernel
theorem dX6_throwsDie_15 : decode cX6_throwsDie 15 = .ok (.iconst 5, 1) := by decide +kernel
theorem dX6_throwsDie_16 : decode cX6_throwsDie 16 = .ok (.aload_n 0, 1) := by decide +kernel
theorem dX6_throwsDie_17 : decode cX6_throwsDie 17 = .ok (.getfield 49, 3) := by decide +kernel
theorem dX6_throwsDie_20 : decode cX6_throwsDie 20 = .ok (.invokestatic 74, 3) := by decide +kernel
theorem dX6_throwsDie_23 : decode cX6_throwsDie 23 = .ok (.iastore, 1) := by decide +kernel
theorem dX6_throwsDie_24 : decode cX6_throwsDie 24 = .ok (.return_, 1) := by decide +kernel
theorem dX6_total_0 : decode cX6_total 0 = .ok (.aload_n 0, 1) := by decide +kernel
theorem dX6_total_1 : decode cX6_total 1 = .ok (.iload_n 1, 1) := by decide +kernel
theorem dX6_total_2 : decode cX6_total 2 = .ok (.iconst 0, 1) := by decide +kernel
theorem dX6_total_3 : decode cX6_total 3 = .ok (.invokevirtual 78, 3) := by decide +kernel
theorem dX6_total_6 : decode cX6_total 6 = .ok (.aload_n 0, 1) := by decide +kernel
theorem dX6_total_7 : decode cX6_total 7 = .ok (.iload_n 1, 1) := by decide +kernel
theorem dX6_total_8 : decode cX6_total 8 = .ok (.iconst 1, 1) := by decide +kernel
theorem dX6_total_9 : decode cX6_total 9 = .ok (.invokevirtual 78, 3) := by decide +kernel
theorem dX6_total_12 : decode cX6_total 12 = .ok (.iadd, 1) := by decide +kernel
theorem dX6_total_13 : decode cX6_total 13 = .ok (.aload_n 0, 1) := by decide +kernel
theorem dX6_total_14 : decode cX6_total 14 = .ok (.iload_n 1, 1) := by decide +kernel
theorem dX6_total_15 : decode cX6_total 15 = .ok (.iconst 2, 1) := by decide +kernel
theorem dX6_total_16 : decode cX6_total 16 = .ok (.invokevirtual 78, 3) := by decide +kernel
theorem dX6_total_19 : decode cX6_total 19 = .ok (.iadd, 1) := by decide +kernel
theorem dX6_total_20 : decode cX6_total 20 = .ok (.iconst 2, 1) := by decide +kernel
theorem dX6_total_21 : decode cX6_total 21 = .ok (.aload_n 0, 1) := by decide +kernel
theorem dX6_total_22 : decode cX6_total 22 = .ok (.iload_n 1, 1) := by decide +kernel
theorem dX6_total_23 : decode cX6_total 23 = .ok (.iconst 3, 1) := by decide +kernel
theorem dX6_total_24 : decode cX6_total 24 = .ok (.invokevirtual 78, 3) := by decide +kernel
theorem dX6_total_27 : decode cX6_total 27 = .ok (.imul, 1) := by decide +kernel
theorem dX6_total_28 : decode cX6_total 28 = .ok (.iadd, 1) := by decide +kernel
theorem dX6_total_29 : decode cX6_total 29 = .ok (.iconst 3, 1) := by decide +kernel
theorem dX6_total_30 : decode cX6_total 30 = .ok (.aload_n 0, 1) := by decide +kernel
theorem dX6_total_31 : decode cX6_total 31 = .ok (.iload_n 1, 1) := by decide +kernel
theorem dX6_total_32 : decode cX6_total 32 = .ok (.iconst 5, 1) := by decide +kernel
theorem dX6_total_33 : decode cX6_total 33 = .ok (.invokevirtual 78, 3) := by decide +kernel
theorem dX6_total_36 : decode cX6_total 36 = .ok (.imul, 1) := by decide +kernel
theorem dX6_total_37 : decode cX6_total 37 = .ok (.iadd, 1) := by decide +kernel
theorem dX6_total_38 : decode cX6_total 38 = .ok (.ireturn, 1) := by decide +kernel
theorem dX6_loss_0 : decode cX6_loss 0 = .ok (.aload_n 0, 1) := by decide +kernel
theorem dX6_loss_1 : decode cX6_loss 1 = .ok (.iload_n 1, 1) := by decide +kernel
theorem dX6_loss_2 : decode cX6_loss 2 = .ok (.iconst 1, 1) := by decide +kernel
theorem dX6_loss_3 : decode cX6_loss 3 = .ok (.invokevirtual 78, 3) := by decide +kernel
theorem dX6_loss_6 : decode cX6_loss 6 = .ok (.aload_n 0, 1) := by decide +kernel
theorem dX6_loss_7 : decode cX6_loss 7 = .ok (.iload_n 1, 1) := by decide +kernel
theorem dX6_loss_8 : decode cX6_loss 8 = .ok (.iconst 2, 1) := by decide +kernel
theorem dX6_loss_9 : decode cX6_loss 9 = .ok (.invokevirtual 78, 3) := by decide +kernel
theorem dX6_loss_12 : decode cX6_loss 12 = .ok (.iadd, 1) := by decide +kernel
theorem dX6_loss_13 : decode cX6_loss 13 = .ok (.aload_n 0, 1) := by decide +kernel
theorem dX6_loss_14 : decode cX6_loss 14 = .ok (.iload_n 1, 1) := by decide +kernel
theorem dX6_loss_15 : decode cX6_loss 15 = .ok (.iconst 3, 1) := by decide +kernel
theorem dX6_loss_16 : decode cX6_loss 16 = .ok (.invokevirtual 78, 3) := by decide +kernel
theorem dX6_loss_19 : decode cX6_loss 19 = .ok (.iadd, 1) := by decide +kernel
theorem dX6_loss_20 : decode cX6_loss 20 = .ok (.aload_n 0, 1) := by decide +kernel
theorem dX6_loss_21 : decode cX6_loss 21 = .ok (.iload_n 1, 1) := by decide +kernel
theorem dX6_loss_22 : decode cX6_loss 22 = .ok (.iconst 4, 1) := by decide +kernel
theorem dX6_loss_23 : decode cX6_loss 23 = .ok (.invokevirtual 78, 3) := by decide +kernel
theorem dX6_loss_26 : decode cX6_loss 26 = .ok (.isub, 1) := by decide +kernel
theorem dX6_loss_27 : decode cX6_loss 27 = .ok (.istore_n 3, 1) := by decide +kernel
theorem dX6_loss_28 : decode cX6_loss 28 = .ok (.iload_n 3, 1) := by decide +kernel
theorem dX6_loss_29 : decode cX6_loss 29 = .ok (.ifCond .ge 7, 3) := by decide +kernel
theorem dX6_loss_32 : decode cX6_loss 32 = .ok (.iconst 0, 1) := by decide +kernel
theorem dX6_loss_33 : decode cX6_loss 33 = .ok (.goto 4, 3) := by decide +kernel
theorem dX6_loss_36 : decode cX6_loss 36 = .ok (.iload_n 3, 1) := by decide +kernel
theorem dX6_loss_37 : decode cX6_loss 37 = .ok (.istore_n 3, 1) := by decide +kernel
theorem dX6_loss_38 : decode cX6_loss 38 = .ok (.iload_n 3, 1) := by decide +kernel
theorem dX6_loss_39 : decode cX6_loss 39 = .ok (.aload_n 0, 1) := by decide +kernel
theorem dX6_loss_40 : decode cX6_loss 40 = .ok (.iload_n 1, 1) := by decide +kernel
theorem dX6_loss_41 : decode cX6_loss 41 = .ok (.iconst 2, 1) := by decide +kernel
theorem dX6_loss_42 : decode cX6_loss 42 = .ok (.invokevirtual 78, 3) := by decide +kernel
theorem dX6_loss_45 : decode cX6_loss 45 = .ok (.if_icmp .ge 7, 3) := by decide +kernel
theorem dX6_loss_48 : decode cX6_loss 48 = .ok (.iload_n 3, 1) := by decide +kernel
theorem dX6_loss_49 : decode cX6_loss 49 = .ok (.goto 9, 3) := by decide +kernel
theorem dX6_loss_52 : decode cX6_loss 52 = .ok (.aload_n 0, 1) := by decide +kernel
theorem dX6_loss_53 : decode cX6_loss 53 = .ok (.iload_n 1, 1) := by decide +kernel
theorem dX6_loss_54 : decode cX6_loss 54 = .ok (.iconst 2, 1) := by decide +kernel
theorem dX6_loss_55 : decode cX6_loss 55 = .ok (.invokevirtual 78, 3) := by decide +kernel
theorem dX6_loss_58 : decode cX6_loss 58 = .ok (.istore 4, 2) := by decide +kernel
theorem dX6_loss_60 : decode cX6_loss 60 = .ok (.iload_n 3, 1) := by decide +kernel
theorem dX6_loss_61 : decode cX6_loss 61 = .ok (.iload 4, 2) := by decide +kernel
theorem dX6_loss_63 : decode cX6_loss 63 = .ok (.isub, 1) := by decide +kernel
theorem dX6_loss_64 : decode cX6_loss 64 = .ok (.istore_n 3, 1) := by decide +kernel
theorem dX6_loss_65 : decode cX6_loss 65 = .ok (.iload_n 3, 1) := by decide +kernel
theorem dX6_loss_66 : decode cX6_loss 66 = .ok (.aload_n 0, 1) := by decide +kernel
theorem dX6_loss_67 : decode cX6_loss 67 = .ok (.iload_n 1, 1) := by decide +kernel
theorem dX6_loss_68 : decode cX6_loss 68 = .ok (.iconst 1, 1) := by decide +kernel
theorem dX6_loss_69 : decode cX6_loss 69 = .ok (.invokevirtual 78, 3) := by decide +kernel
theorem dX6_loss_72 : decode cX6_loss 72 = .ok (.if_icmp .ge 7, 3) := by decide +kernel
theorem dX6_loss_75 : decode cX6_loss 75 = .ok (.iload_n 3, 1) := by decide +kernel
theorem dX6_loss_76 : decode cX6_loss 76 = .ok (.goto 9, 3) := by decide +kernel
theorem dX6_loss_79 : decode cX6_loss 79 = .ok (.aload_n 0, 1) := by decide +kernel
theorem dX6_loss_80 : decode cX6_loss 80 = .ok (.iload_n 1, 1) := by decide +kernel
theorem dX6_loss_81 : decode cX6_loss 81 = .ok (.iconst 1, 1) := by decide +kernel
theorem dX6_loss_82 : decode cX6_loss 82 = .ok (.invokevirtual 78, 3) := by decide +kernel
theorem dX6_loss_85 : decode cX6_loss 85 = .ok (.istore 5, 2) := by decide +kernel
theorem dX6_loss_87 : decode cX6_loss 87 = .ok (.iload_n 3, 1) := by decide +kernel
theorem dX6_loss_88 : decode cX6_loss 88 = .ok (.iload 5, 2) := by decide +kernel
theorem dX6_loss_90 : decode cX6_loss 90 = .ok (.isub, 1) := by decide +kernel
theorem dX6_loss_91 : decode cX6_loss 91 = .ok (.istore 6, 2) := by decide +kernel
theorem dX6_loss_93 : decode cX6_loss 93 = .ok (.aload_n 0, 1) := by decide +kernel
theorem dX6_loss_94 : decode cX6_loss 94 = .ok (.getfield 7, 3) := by decide +kernel
theorem dX6_loss_97 : decode cX6_loss 97 = .ok (.iconst 5, 1) := by decide +kernel
theorem dX6_loss_98 : decode cX6_loss 98 = .ok (.iaload, 1) := by decide +kernel
theorem dX6_loss_99 : decode cX6_loss 99 = .ok (.iconst 1, 1) := by decide +kernel
theorem dX6_loss_100 : decode cX6_loss 100 = .ok (.if_icmp .ne 19, 3) := by decide +kernel
theorem dX6_loss_103 : decode cX6_loss 103 = .ok (.aload_n 0, 1) := by decide +kernel
theorem dX6_loss_104 : decode cX6_loss 104 = .ok (.iload_n 1, 1) := by decide +kernel
theorem dX6_loss_105 : decode cX6_loss 105 = .ok (.iconst 1, 1) := by decide +kernel
theorem dX6_loss_106 : decode cX6_loss 106 = .ok (.invokevirtual 78, 3) := by decide +kernel
theorem dX6_loss_109 : decode cX6_loss 109 = .ok (.iload 5, 2) := by decide +kernel
theorem dX6_loss_111 : decode cX6_loss 111 = .ok (.isub, 1) := by decide +kernel
theorem dX6_loss_112 : decode cX6_loss 112 = .ok (.iconst 1, 1) := by decide +kernel
theorem dX6_loss_113 : decode cX6_loss 113 = .ok (.iadd, 1) := by decide +kernel
theorem dX6_loss_114 : decode cX6_loss 114 = .ok (.iconst 2, 1) := by decide +kernel
theorem dX6_loss_115 : decode cX6_loss 115 = .ok (.idiv, 1) := by decide +kernel
theorem dX6_loss_116 : decode cX6_loss 116 = .ok (.goto 4, 3) := by decide +kernel
theorem dX6_loss_119 : decode cX6_loss 119 = .ok (.iconst 0, 1) := by decide +kernel
theorem dX6_loss_120 : decode cX6_loss 120 = .ok (.istore 7, 2) := by decide +kernel
theorem dX6_loss_122 : decode cX6_loss 122 = .ok (.iload_n 2, 1) := by decide +kernel
theorem dX6_loss_123 : decode cX6_loss 123 = .ok (.ifCond .ne 11, 3) := by decide +kernel
theorem dX6_loss_126 : decode cX6_loss 126 = .ok (.iload 5, 2) := by decide +kernel
theorem dX6_loss_128 : decode cX6_loss 128 = .ok (.iload 7, 2) := by decide +kernel
theorem dX6_loss_130 : decode cX6_loss 130 = .ok (.iadd, 1) := by decide +kernel
theorem dX6_loss_131 : decode cX6_loss 131 = .ok (.goto 15, 3) := by decide +kernel
theorem dX6_loss_134 : decode cX6_loss 134 = .ok (.iload_n 2, 1) := by decide +kernel
theorem dX6_loss_135 : decode cX6_loss 135 = .ok (.iconst 1, 1) := by decide +kernel
theorem dX6_loss_136 : decode cX6_loss 136 = .ok (.if_icmp .ne 8, 3) := by decide +kernel
theorem dX6_loss_139 : decode cX6_loss 139 = .ok (.iload 4, 2) := by decide +kernel
theorem dX6_loss_141 : decode cX6_loss 141 = .ok (.goto 5, 3) := by decide +kernel
theorem dX6_loss_144 : decode cX6_loss 144 = .ok (.iload 6, 2) := by decide +kernel
theorem dX6_loss_146 : decode cX6_loss 146 = .ok (.ireturn, 1) := by decide +kernel
theorem dX6_ends_0 : decode cX6_ends 0 = .ok (.aload_n 0, 1) := by decide +kernel
theorem dX6_ends_1 : decode cX6_ends 1 = .ok (.iload_n 1, 1) := by decide +kernel
theorem dX6_ends_2 : decode cX6_ends 2 = .ok (.iconst 0, 1) := by decide +kernel
theorem dX6_ends_3 : decode cX6_ends 3 = .ok (.invokevirtual 82, 3) := by decide +kernel
theorem dX6_ends_6 : decode cX6_ends 6 = .ok (.istore_n 2, 1) := by decide +kernel
theorem dX6_ends_7 : decode cX6_ends 7 = .ok (.aload_n 0, 1) := by decide +kernel
theorem dX6_ends_8 : decode cX6_ends 8 = .ok (.iload_n 1, 1) := by decide +kernel
theorem dX6_ends_9 : decode cX6_ends 9 = .ok (.iconst 1, 1) := by decide +kernel
theorem dX6_ends_10 : decode cX6_ends 10 = .ok (.invokevirtual 82, 3) := by decide +kernel
theorem dX6_ends_13 : decode cX6_ends 13 = .ok (.istore_n 3, 1) := by decide +kernel
theorem dX6_ends_14 : decode cX6_ends 14 = .ok (.aload_n 0, 1) := by decide +kernel
theorem dX6_ends_15 : decode cX6_ends 15 = .ok (.iload_n 1, 1) := by decide +kernel
theorem dX6_ends_16 : decode cX6_ends 16 = .ok (.iconst 2, 1) := by decide +kernel
theorem dX6_ends_17 : decode cX6_ends 17 = .ok (.invokevirtual 82, 3) := by decide +kernel
theorem dX6_ends_20 : decode cX6_ends 20 = .ok (.istore 4, 2) := by decide +kernel
theorem dX6_ends_22 : decode cX6_ends 22 = .ok (.aload_n 0, 1) := by decide +kernel
theorem dX6_ends_23 : decode cX6_ends 23 = .ok (.iload_n 1, 1) := by decide +kernel
theorem dX6_ends_24 : decode cX6_ends 24 = .ok (.iconst 1, 1) := by decide +kernel
theorem dX6_ends_25 : decode cX6_ends 25 = .ok (.iload_n 2, 1) := by decide +kernel
theorem dX6_ends_26 : decode cX6_ends 26 = .ok (.ineg, 1) := by decide +kernel
theorem dX6_ends_27 : decode cX6_ends 27 = .ok (.invokevirtual 85, 3) := by decide +kernel
theorem dX6_ends_30 : decode cX6_ends 30 = .ok (.aload_n 0, 1) := by decide +kernel
theorem dX6_ends_31 : decode cX6_ends 31 = .ok (.iload_n 1, 1) := by decide +kernel
theorem dX6_ends_32 : decode cX6_ends 32 = .ok (.iconst 2, 1) := by decide +kernel
theorem dX6_ends_33 : decode cX6_ends 33 = .ok (.iload_n 3, 1) := by decide +kernel
theorem dX6_ends_34 : decode cX6_ends 34 = .ok (.ineg, 1) := by decide +kernel
theorem dX6_ends_35 : decode cX6_ends 35 = .ok (.invokevirtual 85, 3) := by decide +kernel
theorem dX6_ends_38 : decode cX6_ends 38 = .ok (.aload_n 0, 1) := by decide +kernel
theorem dX6_ends_39 : decode cX6_ends 39 = .ok (.iload_n 1, 1) := by decide +kernel
theorem dX6_ends_40 : decode cX6_ends 40 = .ok (.iconst 3, 1) := by decide +kernel
theorem dX6_ends_41 : decode cX6_ends 41 = .ok (.iload 4, 2) := by decide +kernel
theorem dX6_ends_43 : decode cX6_ends 43 = .ok (.ineg, 1) := by decide +kernel
theorem dX6_ends_44 : decode cX6_ends 44 = .ok (.invokevirtual 85, 3) := by decide +kernel
theorem dX6_ends_47 : decode cX6_ends 47 = .ok (.aload_n 0, 1) := by decide +kernel
theorem dX6_ends_48 : decode cX6_ends 48 = .ok (.getfield 7, 3) := by decide +kernel
theorem dX6_ends_51 : decode cX6_ends 51 = .ok (.bipush 12, 2) := by decide +kernel
theorem dX6_ends_53 : decode cX6_ends 53 = .ok (.dup2, 1) := by decide +kernel
theorem dX6_ends_54 : decode cX6_ends 54 = .ok (.iaload, 1) := by decide +kernel
theorem dX6_ends_55 : decode cX6_ends 55 = .ok (.iload_n 2, 1) := by decide +kernel
theorem dX6_ends_56 : decode cX6_ends 56 = .ok (.iload_n 3, 1) := by decide +kernel
theorem dX6_ends_57 : decode cX6_ends 57 = .ok (.iadd, 1) := by decide +kernel
theorem dX6_ends_58 : decode cX6_ends 58 = .ok (.iload 4, 2) := by decide +kernel
theorem dX6_ends_60 : decode cX6_ends 60 = .ok (.iadd, 1) := by decide +kernel
theorem dX6_ends_61 : decode cX6_ends 61 = .ok (.iadd, 1) := by decide +kernel
theorem dX6_ends_62 : decode cX6_ends 62 = .ok (.iastore, 1) := by decide +kernel
theorem dX6_ends_63 : decode cX6_ends 63 = .ok (.aload_n 0, 1) := by decide +kernel
theorem dX6_ends_64 : decode cX6_ends 64 = .ok (.getfield 7, 3) := by decide +kernel
theorem dX6_ends_67 : decode cX6_ends 67 = .ok (.bipush 13, 2) := by decide +kernel
theorem dX6_ends_69 : decode cX6_ends 69 = .ok (.bipush 8, 2) := by decide +kernel
theorem dX6_ends_71 : decode cX6_ends 71 = .ok (.iload_n 1, 1) := by decide +kernel
theorem dX6_ends_72 : decode cX6_ends 72 = .ok (.imul, 1) := by decide +kernel
theorem dX6_ends_73 : decode cX6_ends 73 = .ok (.iadd, 1) := by decide +kernel
theorem dX6_ends_74 : decode cX6_ends 74 = .ok (.bipush 6, 2) := by decide +kernel
theorem dX6_ends_76 : decode cX6_ends 76 = .ok (.iadd, 1) := by decide +kernel
theorem dX6_ends_77 : decode cX6_ends 77 = .ok (.aload_n 0, 1) := by decide +kernel
theorem dX6_ends_78 : decode cX6_ends 78 = .ok (.iload_n 1, 1) := by decide +kernel
theorem dX6_ends_79 : decode cX6_ends 79 = .ok (.iconst 5, 1) := by decide +kernel
theorem dX6_ends_80 : decode cX6_ends 80 = .ok (.invokevirtual 78, 3) := by decide +kernel
theorem dX6_ends_83 : decode cX6_ends 83 = .ok (.iastore, 1) := by decide +kernel
theorem dX6_ends_84 : decode cX6_ends 84 = .ok (.aload_n 0, 1) := by decide +kernel
theorem dX6_ends_85 : decode cX6_ends 85 = .ok (.getfield 7, 3) := by decide +kernel
theorem dX6_ends_88 : decode cX6_ends 88 = .ok (.bipush 13, 2) := by decide +kernel
theorem dX6_ends_90 : decode cX6_ends 90 = .ok (.bipush 8, 2) := by decide +kernel
theorem dX6_ends_92 : decode cX6_ends 92 = .ok (.iload_n 1, 1) := by decide +kernel
theorem dX6_ends_93 : decode cX6_ends 93 = .ok (.imul, 1) := by decide +kernel
theorem dX6_ends_94 : decode cX6_ends 94 = .ok (.iadd, 1) := by decide +kernel
theorem dX6_ends_95 : decode cX6_ends 95 = .ok (.bipush 7, 2) := by decide +kernel
theorem dX6_ends_97 : decode cX6_ends 97 = .ok (.iadd, 1) := by decide +kernel
theorem dX6_ends_98 : decode cX6_ends 98 = .ok (.iconst 0, 1) := by decide +kernel
theorem dX6_ends_99 : decode cX6_ends 99 = .ok (.iastore, 1) := by decide +kernel
theorem dX6_ends_100 : decode cX6_ends 100 = .ok (.return_, 1) := by decide +kernel
theorem dX6_endsRound_0 : decode cX6_endsRound 0 = .ok (.iconst 0, 1) := by decide +kernel
theorem dX6_endsRound_1 : decode cX6_endsRound 1 = .ok (.istore_n 1, 1) := by decide +kernel
theorem dX6_endsRound_2 : decode cX6_endsRound 2 = .ok (.iload_n 1, 1) := by decide +kernel
theorem dX6_endsRound_3 : decode cX6_endsRound 3 = .ok (.aload_n 0, 1) := by decide +kernel
theorem dX6_endsRound_4 : decode cX6_endsRound 4 = .ok (.getfield 7, 3) := by decide +kernel
theorem dX6_endsRound_7 : decode cX6_endsRound 7 = .ok (.iconst 3, 1) := by decide +kernel
theorem dX6_endsRound_8 : decode cX6_endsRound 8 = .ok (.iaload, 1) := by decide +kernel
theorem dX6_endsRound_9 : decode cX6_endsRound 9 = .ok (.if_icmp .ge 14, 3) := by decide +kernel
theorem dX6_endsRound_12 : decode cX6_endsRound 12 = .ok (.aload_n 0, 1) := by decide +kernel
theorem dX6_endsRound_13 : decode cX6_endsRound 13 = .ok (.iload_n 1, 1) := by decide +kernel
theorem dX6_endsRound_14 : decode cX6_endsRound 14 = .ok (.invokevirtual 89, 3) := by decide +kernel
theorem dX6_endsRound_17 : decode cX6_endsRound 17 = .ok (.iinc 1 1, 3) := by decide +kernel
theorem dX6_endsRound_20 : decode cX6_endsRound 20 = .ok (.goto (-18), 3) := by decide +kernel
theorem dX6_endsRound_23 : decode cX6_endsRound 23 = .ok (.bipush 45, 2) := by decide +kernel
theorem dX6_endsRound_25 : decode cX6_endsRound 25 = .ok (.istore_n 1, 1) := by decide +kernel
theorem dX6_endsRound_26 : decode cX6_endsRound 26 = .ok (.iload_n 1, 1) := by decide +kernel
theorem dX6_endsRound_27 : decode cX6_endsRound 27 = .ok (.bipush 69, 2) := by decide +kernel
theorem dX6_endsRound_29 : decode cX6_endsRound 29 = .ok (.if_icmp .ge 16, 3) := by decide +kernel
theorem dX6_endsRound_32 : decode cX6_endsRound 32 = .ok (.aload_n 0, 1) := by decide +kernel
theorem dX6_endsRound_33 : decode cX6_endsRound 33 = .ok (.getfield 7, 3) := by decide +kernel
theorem dX6_endsRound_36 : decode cX6_endsRound 36 = .ok (.iload_n 1, 1) := by decide +kernel
theorem dX6_endsRound_37 : decode cX6_endsRound 37 = .ok (.iconst 0, 1) := by decide +kernel
theorem dX6_endsRound_38 : decode cX6_endsRound 38 = .ok (.iastore, 1) := by decide +kernel
theorem dX6_endsRound_39 : decode cX6_endsRound 39 = .ok (.iinc 1 1, 3) := by decide +kernel
theorem dX6_endsRound_42 : decode cX6_endsRound 42 = .ok (.goto (-16), 3) := by decide +kernel
theorem dX6_endsRound_45 : decode cX6_endsRound 45 = .ok (.iconst 0, 1) := by decide +kernel
theorem dX6_endsRound_46 : decode cX6_endsRound 46 = .ok (.istore_n 1, 1) := by decide +kernel
theorem dX6_endsRound_47 : decode cX6_endsRound 47 = .ok (.iload_n 1, 1) := by decide +kernel
theorem dX6_endsRound_48 : decode cX6_endsRound 48 = .ok (.iconst 3, 1) := by decide +kernel
theorem dX6_endsRound_49 : decode cX6_endsRound 49 = .ok (.if_icmp .ge 40, 3) := by decide +kernel
theorem dX6_endsRound_52 : decode cX6_endsRound 52 = .ok (.aload_n 0, 1) := by decide +kernel
theorem dX6_endsRound_53 : decode cX6_endsRound 53 = .ok (.getfield 7, 3) := by decide +kernel
theorem dX6_endsRound_56 : decode cX6_endsRound 56 = .ok (.bipush 7, 2) := by decide +kernel
theorem dX6_endsRound_58 : decode cX6_endsRound 58 = .ok (.iload_n 1, 1) := by decide +kernel
theorem dX6_endsRound_59 : decode cX6_endsRound 59 = .ok (.iadd, 1) := by decide +kernel
theorem dX6_endsRound_60 : decode cX6_endsRound 60 = .ok (.dup2, 1) := by decide +kernel
theorem dX6_endsRound_61 : decode cX6_endsRound 61 = .ok (.iaload, 1) := by decide +kernel
theorem dX6_endsRound_62 : decode cX6_endsRound 62 = .ok (.aload_n 0, 1) := by decide +kernel
theorem dX6_endsRound_63 : decode cX6_endsRound 63 = .ok (.getfield 7, 3) := by decide +kernel
theorem dX6_endsRound_66 : decode cX6_endsRound 66 = .ok (.bipush 7, 2) := by decide +kernel
theorem dX6_endsRound_68 : decode cX6_endsRound 68 = .ok (.iload_n 1, 1) := by decide +kernel
theorem dX6_endsRound_69 : decode cX6_endsRound 69 = .ok (.iadd, 1) := by decide +kernel
theorem dX6_endsRound_70 : decode cX6_endsRound 70 = .ok (.iaload, 1) := by decide +kernel
theorem dX6_endsRound_71 : decode cX6_endsRound 71 = .ok (.bipush 9, 2) := by decide +kernel
theorem dX6_endsRound_73 : decode cX6_endsRound 73 = .ok (.if_icmp .ge 7, 3) := by decide +kernel
theorem dX6_endsRound_76 : decode cX6_endsRound 76 = .ok (.iconst 1, 1) := by decide +kernel
theorem dX6_endsRound_77 : decode cX6_endsRound 77 = .ok (.goto 4, 3) := by decide +kernel
theorem dX6_endsRound_80 : decode cX6_endsRound 80 = .ok (.iconst 0, 1) := by decide +kernel
theorem dX6_endsRound_81 : decode cX6_endsRound 81 = .ok (.iadd, 1) := by decide +kernel
theorem dX6_endsRound_82 : decode cX6_endsRound 82 = .ok (.iastore, 1) := by decide +kernel
theorem dX6_endsRound_83 : decode cX6_endsRound 83 = .ok (.iinc 1 1, 3) := by decide +kernel
theorem dX6_endsRound_86 : decode cX6_endsRound 86 = .ok (.goto (-39), 3) := by decide +kernel
theorem dX6_endsRound_89 : decode cX6_endsRound 89 = .ok (.aload_n 0, 1) := by decide +kernel
theorem dX6_endsRound_90 : decode cX6_endsRound 90 = .ok (.invokevirtual 93, 3) := by decide +kernel
theorem dX6_endsRound_93 : decode cX6_endsRound 93 = .ok (.aload_n 0, 1) := by decide +kernel
theorem dX6_endsRound_94 : decode cX6_endsRound 94 = .ok (.getfield 7, 3) := by decide +kernel
theorem dX6_endsRound_97 : decode cX6_endsRound 97 = .ok (.bipush 6, 2) := by decide +kernel
theorem dX6_endsRound_99 : decode cX6_endsRound 99 = .ok (.dup2, 1) := by decide +kernel
theorem dX6_endsRound_100 : decode cX6_endsRound 100 = .ok (.iaload, 1) := by decide +kernel
theorem dX6_endsRound_101 : decode cX6_endsRound 101 = .ok (.iconst 1, 1) := by decide +kernel
theorem dX6_endsRound_102 : decode cX6_endsRound 102 = .ok (.iadd, 1) := by decide +kernel
theorem dX6_endsRound_103 : decode cX6_endsRound 103 = .ok (.iastore, 1) := by decide +kernel
theorem dX6_endsRound_104 : decode cX6_endsRound 104 = .ok (.aload_n 0, 1) := by decide +kernel
theorem dX6_endsRound_105 : decode cX6_endsRound 105 = .ok (.getfield 7, 3) := by decide +kernel
theorem dX6_endsRound_108 : decode cX6_endsRound 108 = .ok (.bipush 10, 2) := by decide +kernel
theorem dX6_endsRound_110 : decode cX6_endsRound 110 = .ok (.aload_n 0, 1) := by decide +kernel
theorem dX6_endsRound_111 : decode cX6_endsRound 111 = .ok (.getfield 7, 3) := by decide +kernel
theorem dX6_endsRound_114 : decode cX6_endsRound 114 = .ok (.bipush 10, 2) := by decide +kernel
theorem dX6_endsRound_116 : decode cX6_endsRound 116 = .ok (.iaload, 1) := by decide +kernel
theorem dX6_endsRound_117 : decode cX6_endsRound 117 = .ok (.iconst 1, 1) := by decide +kernel
theorem dX6_endsRound_118 : decode cX6_endsRound 118 = .ok (.iadd, 1) := by decide +kernel
theorem dX6_endsRound_119 : decode cX6_endsRound 119 = .ok (.aload_n 0, 1) := by decide +kernel
theorem dX6_endsRound_120 : decode cX6_endsRound 120 = .ok (.getfield 7, 3) := by decide +kernel
theorem dX6_endsRound_123 : decode cX6_endsRound 123 = .ok (.iconst 3, 1) := by decide +kernel
theorem dX6_endsRound_124 : decode cX6_endsRound 124 = .ok (.iaload, 1) := by decide +kernel
theorem dX6_endsRound_125 : decode cX6_endsRound 125 = .ok (.irem, 1) := by decide +kernel
theorem dX6_endsRound_126 : decode cX6_endsRound 126 = .ok (.iastore, 1) := by decide +kernel
theorem dX6_endsRound_127 : decode cX6_endsRound 127 = .ok (.aload_n 0, 1) := by decide +kernel
theorem dX6_endsRound_128 : decode cX6_endsRound 128 = .ok (.getfield 7, 3) := by decide +kernel
theorem dX6_endsRound_131 : decode cX6_endsRound 131 = .ok (.iconst 4, 1) := by decide +kernel
theorem dX6_endsRound_132 : decode cX6_endsRound 132 = .ok (.aload_n 0, 1) := by decide +kernel
theorem dX6_endsRound_133 : decode cX6_endsRound 133 = .ok (.getfield 7, 3) := by decide +kernel
theorem dX6_endsRound_136 : decode cX6_endsRound 136 = .ok (.bipush 10, 2) := by decide +kernel
theorem dX6_endsRound_138 : decode cX6_endsRound 138 = .ok (.iaload, 1) := by decide +kernel
theorem dX6_endsRound_139 : decode cX6_endsRound 139 = .ok (.iastore, 1) := by decide +kernel
theorem dX6_endsRound_140 : decode cX6_endsRound 140 = .ok (.return_, 1) := by decide +kernel
theorem dX6_goesTo_0 : decode cX6_goesTo 0 = .ok (.aload_n 0, 1) := by decide +kernel
theorem dX6_goesTo_1 : decode cX6_goesTo 1 = .ok (.getfield 7, 3) := by decide +kernel
theorem dX6_goesTo_4 : decode cX6_goesTo 4 = .ok (.iconst 4, 1) := by decide +kernel
theorem dX6_goesTo_5 : decode cX6_goesTo 5 = .ok (.iaload, 1) := by decide +kernel
theorem dX6_goesTo_6 : decode cX6_goesTo 6 = .ok (.istore_n 1, 1) := by decide +kernel
theorem dX6_goesTo_7 : decode cX6_goesTo 7 = .ok (.iconst 1, 1) := by decide +kernel
theorem dX6_goesTo_8 : decode cX6_goesTo 8 = .ok (.istore_n 2, 1) := by decide +kernel
theorem dX6_goesTo_9 : decode cX6_goesTo 9 = .ok (.iload_n 2, 1) := by decide +kernel
theorem dX6_goesTo_10 : decode cX6_goesTo 10 = .ok (.aload_n 0, 1) := by decide +kernel
theorem dX6_goesTo_11 : decode cX6_goesTo 11 = .ok (.getfield 7, 3) := by decide +kernel
theorem dX6_goesTo_14 : decode cX6_goesTo 14 = .ok (.iconst 3, 1) := by decide +kernel
theorem dX6_goesTo_15 : decode cX6_goesTo 15 = .ok (.iaload, 1) := by decide +kernel
theorem dX6_goesTo_16 : decode cX6_goesTo 16 = .ok (.if_icmp .gt 48, 3) := by decide +kernel
theorem dX6_goesTo_19 : decode cX6_goesTo 19 = .ok (.iload_n 1, 1) := by decide +kernel
theorem dX6_goesTo_20 : decode cX6_goesTo 20 = .ok (.iload_n 2, 1) := by decide +kernel
theorem dX6_goesTo_21 : decode cX6_goesTo 21 = .ok (.iadd, 1) := by decide +kernel
theorem dX6_goesTo_22 : decode cX6_goesTo 22 = .ok (.aload_n 0, 1) := by decide +kernel
theorem dX6_goesTo_23 : decode cX6_goesTo 23 = .ok (.getfield 7, 3) := by decide +kernel
theorem dX6_goesTo_26 : decode cX6_goesTo 26 = .ok (.iconst 3, 1) := by decide +kernel
theorem dX6_goesTo_27 : decode cX6_goesTo 27 = .ok (.iaload, 1) := by decide +kernel
theorem dX6_goesTo_28 : decode cX6_goesTo 28 = .ok (.irem, 1) := by decide +kernel
theorem dX6_goesTo_29 : decode cX6_goesTo 29 = .ok (.istore_n 3, 1) := by decide +kernel
theorem dX6_goesTo_30 : decode cX6_goesTo 30 = .ok (.aload_n 0, 1) := by decide +kernel
theorem dX6_goesTo_31 : decode cX6_goesTo 31 = .ok (.iload_n 3, 1) := by decide +kernel
theorem dX6_goesTo_32 : decode cX6_goesTo 32 = .ok (.bipush 6, 2) := by decide +kernel
theorem dX6_goesTo_34 : decode cX6_goesTo 34 = .ok (.invokevirtual 78, 3) := by decide +kernel
theorem dX6_goesTo_37 : decode cX6_goesTo 37 = .ok (.ifCond .le 21, 3) := by decide +kernel
theorem dX6_goesTo_40 : decode cX6_goesTo 40 = .ok (.aload_n 0, 1) := by decide +kernel
theorem dX6_goesTo_41 : decode cX6_goesTo 41 = .ok (.iload_n 3, 1) := by decide +kernel
theorem dX6_goesTo_42 : decode cX6_goesTo 42 = .ok (.bipush 7, 2) := by decide +kernel
theorem dX6_goesTo_44 : decode cX6_goesTo 44 = .ok (.invokevirtual 78, 3) := by decide +kernel
theorem dX6_goesTo_47 : decode cX6_goesTo 47 = .ok (.ifCond .ne 11, 3) := by decide +kernel
theorem dX6_goesTo_50 : decode cX6_goesTo 50 = .ok (.aload_n 0, 1) := by decide +kernel
theorem dX6_goesTo_51 : decode cX6_goesTo 51 = .ok (.getfield 7, 3) := by decide +kernel
theorem dX6_goesTo_54 : decode cX6_goesTo 54 = .ok (.iconst 4, 1) := by decide +kernel
theorem dX6_goesTo_55 : decode cX6_goesTo 55 = .ok (.iload_n 3, 1) := by decide +kernel
theorem dX6_goesTo_56 : decode cX6_goesTo 56 = .ok (.iastore, 1) := by decide +kernel
theorem dX6_goesTo_57 : decode cX6_goesTo 57 = .ok (.return_, 1) := by decide +kernel
theorem dX6_goesTo_58 : decode cX6_goesTo 58 = .ok (.iinc 2 1, 3) := by decide +kernel
theorem dX6_goesTo_61 : decode cX6_goesTo 61 = .ok (.goto (-52), 3) := by decide +kernel
theorem dX6_goesTo_64 : decode cX6_goesTo 64 = .ok (.aload_n 0, 1) := by decide +kernel
theorem dX6_goesTo_65 : decode cX6_goesTo 65 = .ok (.invokevirtual 96, 3) := by decide +kernel
theorem dX6_goesTo_68 : decode cX6_goesTo 68 = .ok (.return_, 1) := by decide +kernel
theorem dX6_isChoice_0 : decode cX6_isChoice 0 = .ok (.iload_n 0, 1) := by decide +kernel
theorem dX6_isChoice_1 : decode cX6_isChoice 1 = .ok (.iconst 2, 1) := by decide +kernel
theorem dX6_isChoice_2 : decode cX6_isChoice 2 = .ok (.if_icmp .ne 10, 3) := by decide +kernel
theorem dX6_isChoice_5 : decode cX6_isChoice 5 = .ok (.iload_n 1, 1) := by decide +kernel
theorem dX6_isChoice_6 : decode cX6_isChoice 6 = .ok (.iconst 1, 1) := by decide +kernel
theorem dX6_isChoice_7 : decode cX6_isChoice 7 = .ok (.iconst 3, 1) := by decide +kernel
theorem dX6_isChoice_8 : decode cX6_isChoice 8 = .ok (.invokestatic 53, 3) := by decide +kernel
theorem dX6_isChoice_11 : decode cX6_isChoice 11 = .ok (.ireturn, 1) := by decide +kernel
theorem dX6_isChoice_12 : decode cX6_isChoice 12 = .ok (.iload_n 0, 1) := by decide +kernel
theorem dX6_isChoice_13 : decode cX6_isChoice 13 = .ok (.iconst 3, 1) := by decide +kernel
theorem dX6_isChoice_14 : decode cX6_isChoice 14 = .ok (.if_icmp .ne 33, 3) := by decide +kernel
theorem dX6_isChoice_17 : decode cX6_isChoice 17 = .ok (.iload_n 1, 1) := by decide +kernel
theorem dX6_isChoice_18 : decode cX6_isChoice 18 = .ok (.iconst 1, 1) := by decide +kernel
theorem dX6_isChoice_19 : decode cX6_isChoice 19 = .ok (.bipush 23, 2) := by decide +kernel
theorem dX6_isChoice_21 : decode cX6_isChoice 21 = .ok (.invokestatic 53, 3) := by decide +kernel
theorem dX6_isChoice_24 : decode cX6_isChoice 24 = .ok (.ifCond .eq 19, 3) := by decide +kernel
theorem dX6_isChoice_27 : decode cX6_isChoice 27 = .ok (.iload_n 1, 1) := by decide +kernel
theorem dX6_isChoice_28 : decode cX6_isChoice 28 = .ok (.bipush 10, 2) := by decide +kernel
theorem dX6_isChoice_30 : decode cX6_isChoice 30 = .ok (.irem, 1) := by decide +kernel
theorem dX6_isChoice_31 : decode cX6_isChoice 31 = .ok (.iconst 1, 1) := by decide +kernel
theorem dX6_isChoice_32 : decode cX6_isChoice 32 = .ok (.iconst 3, 1) := by decide +kernel
theorem dX6_isChoice_33 : decode cX6_isChoice 33 = .ok (.invokestatic 53, 3) := by decide +kernel
theorem dX6_isChoice_36 : decode cX6_isChoice 36 = .ok (.ifCond .eq 7, 3) := by decide +kernel
theorem dX6_isChoice_39 : decode cX6_isChoice 39 = .ok (.iconst 1, 1) := by decide +kernel
theorem dX6_isChoice_40 : decode cX6_isChoice 40 = .ok (.goto 16, 3) := by decide +kernel
theorem dX6_isChoice_43 : decode cX6_isChoice 43 = .ok (.iconst 0, 1) := by decide +kernel
theorem dX6_isChoice_44 : decode cX6_isChoice 44 = .ok (.goto 12, 3) := by decide +kernel
theorem dX6_isChoice_47 : decode cX6_isChoice 47 = .ok (.iload_n 1, 1) := by decide +kernel
theorem dX6_isChoice_48 : decode cX6_isChoice 48 = .ok (.ifCond .ne 7, 3) := by decide +kernel
theorem dX6_isChoice_51 : decode cX6_isChoice 51 = .ok (.iconst 1, 1) := by decide +kernel
theorem dX6_isChoice_52 : decode cX6_isChoice 52 = .ok (.goto 4, 3) := by decide +kernel
theorem dX6_isChoice_55 : decode cX6_isChoice 55 = .ok (.iconst 0, 1) := by decide +kernel
theorem dX6_isChoice_56 : decode cX6_isChoice 56 = .ok (.ireturn, 1) := by decide +kernel
theorem dX6_bumpedAt_0 : decode cX6_bumpedAt 0 = .ok (.iconst 0, 1) := by decide +kernel
theorem dX6_bumpedAt_1 : decode cX6_bumpedAt 1 = .ok (.istore_n 2, 1) := by decide +kernel
theorem dX6_bumpedAt_2 : decode cX6_bumpedAt 2 = .ok (.iload_n 2, 1) := by decide +kernel
theorem dX6_bumpedAt_3 : decode cX6_bumpedAt 3 = .ok (.aload_n 0, 1) := by decide +kernel
theorem dX6_bumpedAt_4 : decode cX6_bumpedAt 4 = .ok (.iload_n 1, 1) := by decide +kernel
theorem dX6_bumpedAt_5 : decode cX6_bumpedAt 5 = .ok (.invokevirtual 99, 3) := by decide +kernel
theorem dX6_bumpedAt_8 : decode cX6_bumpedAt 8 = .ok (.if_icmp .ge 26, 3) := by decide +kernel
theorem dX6_bumpedAt_11 : decode cX6_bumpedAt 11 = .ok (.aload_n 0, 1) := by decide +kernel
theorem dX6_bumpedAt_12 : decode cX6_bumpedAt 12 = .ok (.iload_n 1, 1) := by decide +kernel
theorem dX6_bumpedAt_13 : decode cX6_bumpedAt 13 = .ok (.iload_n 2, 1) := by decide +kernel
theorem dX6_bumpedAt_14 : decode cX6_bumpedAt 14 = .ok (.invokevirtual 103, 3) := by decide +kernel
theorem dX6_bumpedAt_17 : decode cX6_bumpedAt 17 = .ok (.aload_n 0, 1) := by decide +kernel
theorem dX6_bumpedAt_18 : decode cX6_bumpedAt 18 = .ok (.getfield 7, 3) := by decide +kernel
theorem dX6_bumpedAt_21 : decode cX6_bumpedAt 21 = .ok (.iconst 4, 1) := by decide +kernel
theorem dX6_bumpedAt_22 : decode cX6_bumpedAt 22 = .ok (.iaload, 1) := by decide +kernel
theorem dX6_bumpedAt_23 : decode cX6_bumpedAt 23 = .ok (.if_icmp .eq 5, 3) := by decide +kernel
theorem dX6_bumpedAt_26 : decode cX6_bumpedAt 26 = .ok (.iload_n 2, 1) := by decide +kernel
theorem dX6_bumpedAt_27 : decode cX6_bumpedAt 27 = .ok (.ireturn, 1) := by decide +kernel
theorem dX6_bumpedAt_28 : decode cX6_bumpedAt 28 = .ok (.iinc 2 1, 3) := by decide +kernel
theorem dX6_bumpedAt_31 : decode cX6_bumpedAt 31 = .ok (.goto (-29), 3) := by decide +kernel
theorem dX6_bumpedAt_34 : decode cX6_bumpedAt 34 = .ok (.iconst (-1), 1) := by decide +kernel
theorem dX6_bumpedAt_35 : decode cX6_bumpedAt 35 = .ok (.ireturn, 1) := by decide +kernel
theorem dX6_isFull_0 : decode cX6_isFull 0 = .ok (.aload_n 0, 1) := by decide +kernel
theorem dX6_isFull_1 : decode cX6_isFull 1 = .ok (.iload_n 1, 1) := by decide +kernel
theorem dX6_isFull_2 : decode cX6_isFull 2 = .ok (.invokevirtual 99, 3) := by decide +kernel
theorem dX6_isFull_5 : decode cX6_isFull 5 = .ok (.aload_n 0, 1) := by decide +kernel
theorem dX6_isFull_6 : decode cX6_isFull 6 = .ok (.getfield 7, 3) := by decide +kernel
theorem dX6_isFull_9 : decode cX6_isFull 9 = .ok (.iconst 2, 1) := by decide +kernel
theorem dX6_isFull_10 : decode cX6_isFull 10 = .ok (.iaload, 1) := by decide +kernel
theorem dX6_isFull_11 : decode cX6_isFull 11 = .ok (.if_icmp .lt 7, 3) := by decide +kernel
theorem dX6_isFull_14 : decode cX6_isFull 14 = .ok (.iconst 1, 1) := by decide +kernel
theorem dX6_isFull_15 : decode cX6_isFull 15 = .ok (.goto 4, 3) := by decide +kernel
theorem dX6_isFull_18 : decode cX6_isFull 18 = .ok (.iconst 0, 1) := by decide +kernel
theorem dX6_isFull_19 : decode cX6_isFull 19 = .ok (.ireturn, 1) := by decide +kernel
theorem dX6_canWork_0 : decode cX6_canWork 0 = .ok (.aload_n 0, 1) := by decide +kernel
theorem dX6_canWork_1 : decode cX6_canWork 1 = .ok (.getfield 7, 3) := by decide +kernel
theorem dX6_canWork_4 : decode cX6_canWork 4 = .ok (.iconst 4, 1) := by decide +kernel
theorem dX6_canWork_5 : decode cX6_canWork 5 = .ok (.iaload, 1) := by decide +kernel
theorem dX6_canWork_6 : decode cX6_canWork 6 = .ok (.istore 4, 2) := by decide +kernel
theorem dX6_canWork_8 : decode cX6_canWork 8 = .ok (.iload_n 1, 1) := by decide +kernel
theorem dX6_canWork_9 : decode cX6_canWork 9 = .ok (.tableswitch 123 2 5 #[31, 53, 78, 100], 31) := by decide +kernel
theorem dX6_canWork_40 : decode cX6_canWork 40 = .ok (.aload_n 0, 1) := by decide +kernel
theorem dX6_canWork_41 : decode cX6_canWork 41 = .ok (.iload 4, 2) := by decide +kernel
theorem dX6_canWork_43 : decode cX6_canWork 43 = .ok (.iconst 2, 1) := by decide +kernel
theorem dX6_canWork_44 : decode cX6_canWork 44 = .ok (.invokevirtual 78, 3) := by decide +kernel
theorem dX6_canWork_47 : decode cX6_canWork 47 = .ok (.iload_n 2, 1) := by decide +kernel
theorem dX6_canWork_48 : decode cX6_canWork 48 = .ok (.if_icmp .lt 12, 3) := by decide +kernel
theorem dX6_canWork_51 : decode cX6_canWork 51 = .ok (.iload_n 3, 1) := by decide +kernel
theorem dX6_canWork_52 : decode cX6_canWork 52 = .ok (.iload_n 2, 1) := by decide +kernel
theorem dX6_canWork_53 : decode cX6_canWork 53 = .ok (.if_icmp .lt 7, 3) := by decide +kernel
theorem dX6_canWork_56 : decode cX6_canWork 56 = .ok (.iconst 1, 1) := by decide +kernel
theorem dX6_canWork_57 : decode cX6_canWork 57 = .ok (.goto 4, 3) := by decide +kernel
theorem dX6_canWork_60 : decode cX6_canWork 60 = .ok (.iconst 0, 1) := by decide +kernel
theorem dX6_canWork_61 : decode cX6_canWork 61 = .ok (.ireturn, 1) := by decide +kernel
theorem dX6_canWork_62 : decode cX6_canWork 62 = .ok (.aload_n 0, 1) := by decide +kernel
theorem dX6_canWork_63 : decode cX6_canWork 63 = .ok (.iload 4, 2) := by decide +kernel
theorem dX6_canWork_65 : decode cX6_canWork 65 = .ok (.iconst 1, 1) := by decide +kernel
theorem dX6_canWork_66 : decode cX6_canWork 66 = .ok (.iload_n 2, 1) := by decide +kernel
theorem dX6_canWork_67 : decode cX6_canWork 67 = .ok (.bipush 10, 2) := by decide +kernel
theorem dX6_canWork_69 : decode cX6_canWork 69 = .ok (.idiv, 1) := by decide +kernel
theorem dX6_canWork_70 : decode cX6_canWork 70 = .ok (.iadd, 1) := by decide +kernel
theorem dX6_canWork_71 : decode cX6_canWork 71 = .ok (.invokevirtual 78, 3) := by decide +kernel
theorem dX6_canWork_74 : decode cX6_canWork 74 = .ok (.iload_n 2, 1) := by decide +kernel
theorem dX6_canWork_75 : decode cX6_canWork 75 = .ok (.bipush 10, 2) := by decide +kernel
theorem dX6_canWork_77 : decode cX6_canWork 77 = .ok (.irem, 1) := by decide +kernel
theorem dX6_canWork_78 : decode cX6_canWork 78 = .ok (.if_icmp .lt 7, 3) := by decide +kernel
theorem dX6_canWork_81 : decode cX6_canWork 81 = .ok (.iconst 1, 1) := by decide +kernel
theorem dX6_canWork_82 : decode cX6_canWork 82 = .ok (.goto 4, 3) := by decide +kernel
theorem dX6_canWork_85 : decode cX6_canWork 85 = .ok (.iconst 0, 1) := by decide +kernel
theorem dX6_canWork_86 : decode cX6_canWork 86 = .ok (.ireturn, 1) := by decide +kernel
theorem dX6_canWork_87 : decode cX6_canWork 87 = .ok (.iload_n 3, 1) := by decide +kernel
theorem dX6_canWork_88 : decode cX6_canWork 88 = .ok (.iconst 5, 1) := by decide +kernel
theorem dX6_canWork_89 : decode cX6_canWork 89 = .ok (.if_icmp .lt 18, 3) := by decide +kernel
theorem dX6_canWork_92 : decode cX6_canWork 92 = .ok (.aload_n 0, 1) := by decide +kernel
theorem dX6_canWork_93 : decode cX6_canWork 93 = .ok (.iload 4, 2) := by decide +kernel
theorem dX6_canWork_95 : decode cX6_canWork 95 = .ok (.iconst 5, 1) := by decide +kernel
theorem dX6_canWork_96 : decode cX6_canWork 96 = .ok (.invokevirtual 78, 3) := by decide +kernel
theorem dX6_canWork_99 : decode cX6_canWork 99 = .ok (.iconst 5, 1) := by decide +kernel
theorem dX6_canWork_100 : decode cX6_canWork 100 = .ok (.if_icmp .ge 7, 3) := by decide +kernel
theorem dX6_canWork_103 : decode cX6_canWork 103 = .ok (.iconst 1, 1) := by decide +kernel
theorem dX6_canWork_104 : decode cX6_canWork 104 = .ok (.goto 4, 3) := by decide +kernel
theorem dX6_canWork_107 : decode cX6_canWork 107 = .ok (.iconst 0, 1) := by decide +kernel
theorem dX6_canWork_108 : decode cX6_canWork 108 = .ok (.ireturn, 1) := by decide +kernel
theorem dX6_canWork_109 : decode cX6_canWork 109 = .ok (.iload_n 3, 1) := by decide +kernel
theorem dX6_canWork_110 : decode cX6_canWork 110 = .ok (.iconst 2, 1) := by decide +kernel
theorem dX6_canWork_111 : decode cX6_canWork 111 = .ok (.if_icmp .lt 19, 3) := by decide +kernel
theorem dX6_canWork_114 : decode cX6_canWork 114 = .ok (.aload_n 0, 1) := by decide +kernel
theorem dX6_canWork_115 : decode cX6_canWork 115 = .ok (.iload 4, 2) := by decide +kernel
theorem dX6_canWork_117 : decode cX6_canWork 117 = .ok (.iconst 4, 1) := by decide +kernel
theorem dX6_canWork_118 : decode cX6_canWork 118 = .ok (.invokevirtual 78, 3) := by decide +kernel
theorem dX6_canWork_121 : decode cX6_canWork 121 = .ok (.bipush 30, 2) := by decide +kernel
theorem dX6_canWork_123 : decode cX6_canWork 123 = .ok (.if_icmp .ge 7, 3) := by decide +kernel
theorem dX6_canWork_126 : decode cX6_canWork 126 = .ok (.iconst 1, 1) := by decide +kernel
theorem dX6_canWork_127 : decode cX6_canWork 127 = .ok (.goto 4, 3) := by decide +kernel
theorem dX6_canWork_130 : decode cX6_canWork 130 = .ok (.iconst 0, 1) := by decide +kernel
theorem dX6_canWork_131 : decode cX6_canWork 131 = .ok (.ireturn, 1) := by decide +kernel
theorem dX6_canWork_132 : decode cX6_canWork 132 = .ok (.iconst 1, 1) := by decide +kernel
theorem dX6_canWork_133 : decode cX6_canWork 133 = .ok (.ireturn, 1) := by decide +kernel
theorem dX6_canPlace_0 : decode cX6_canPlace 0 = .ok (.aload_n 0, 1) := by decide +kernel
theorem dX6_canPlace_1 : decode cX6_canPlace 1 = .ok (.invokevirtual 106, 3) := by decide +kernel
theorem dX6_canPlace_4 : decode cX6_canPlace 4 = .ok (.ifCond .ne 5, 3) := by decide +kernel
theorem dX6_canPlace_7 : decode cX6_canPlace 7 = .ok (.iconst 0, 1) := by decide +kernel
theorem dX6_canPlace_8 : decode cX6_canPlace 8 = .ok (.ireturn, 1) := by decide +kernel
theorem dX6_canPlace_9 : decode cX6_canPlace 9 = .ok (.aload_n 0, 1) := by decide +kernel
theorem dX6_canPlace_10 : decode cX6_canPlace 10 = .ok (.aload_n 0, 1) := by decide +kernel
theorem dX6_canPlace_11 : decode cX6_canPlace 11 = .ok (.getfield 7, 3) := by decide +kernel
theorem dX6_canPlace_14 : decode cX6_canPlace 14 = .ok (.iconst 4, 1) := by decide +kernel
theorem dX6_canPlace_15 : decode cX6_canPlace 15 = .ok (.iaload, 1) := by decide +kernel
theorem dX6_canPlace_16 : decode cX6_canPlace 16 = .ok (.iconst 0, 1) := by decide +kernel
theorem dX6_canPlace_17 : decode cX6_canPlace 17 = .ok (.invokevirtual 78, 3) := by decide +kernel
theorem dX6_canPlace_20 : decode cX6_canPlace 20 = .ok (.aload_n 0, 1) := by decide +kernel
theorem dX6_canPlace_21 : decode cX6_canPlace 21 = .ok (.iload_n 1, 1) := by decide +kernel
theorem dX6_canPlace_22 : decode cX6_canPlace 22 = .ok (.invokevirtual 110, 3) := by decide +kernel
theorem dX6_canPlace_25 : decode cX6_canPlace 25 = .ok (.ifCond .eq 12, 3) := by decide +kernel
theorem dX6_canPlace_28 : decode cX6_canPlace 28 = .ok (.aload_n 0, 1) := by decide +kernel
theorem dX6_canPlace_29 : decode cX6_canPlace 29 = .ok (.getfield 7, 3) := by decide +kernel
theorem dX6_canPlace_32 : decode cX6_canPlace 32 = .ok (.iconst 1, 1) := by decide +kernel
theorem dX6_canPlace_33 : decode cX6_canPlace 33 = .ok (.iaload, 1) := by decide +kernel
theorem dX6_canPlace_34 : decode cX6_canPlace 34 = .ok (.goto 4, 3) := by decide +kernel
theorem dX6_canPlace_37 : decode cX6_canPlace 37 = .ok (.iconst 0, 1) := by decide +kernel
theorem dX6_canPlace_38 : decode cX6_canPlace 38 = .ok (.isub, 1) := by decide +kernel
theorem dX6_canPlace_39 : decode cX6_canPlace 39 = .ok (.istore_n 3, 1) := by decide +kernel
theorem dX6_canPlace_40 : decode cX6_canPlace 40 = .ok (.aload_n 0, 1) := by decide +kernel
theorem dX6_canPlace_41 : decode cX6_canPlace 41 = .ok (.iload_n 1, 1) := by decide +kernel
theorem dX6_canPlace_42 : decode cX6_canPlace 42 = .ok (.invokevirtual 110, 3) := by decide +kernel
theorem dX6_canPlace_45 : decode cX6_canPlace 45 = .ok (.ifCond .eq 12, 3) := by decide +kernel
theorem dX6_canPlace_48 : decode cX6_canPlace 48 = .ok (.aload_n 0, 1) := by decide +kernel
theorem dX6_canPlace_49 : decode cX6_canPlace 49 = .ok (.iload_n 1, 1) := by decide +kernel
theorem dX6_canPlace_50 : decode cX6_canPlace 50 = .ok (.invokevirtual 114, 3) := by decide +kernel
theorem dX6_canPlace_53 : decode cX6_canPlace 53 = .ok (.iconst (-1), 1) := by decide +kernel
theorem dX6_canPlace_54 : decode cX6_canPlace 54 = .ok (.if_icmp .eq 21, 3) := by decide +kernel
theorem dX6_canPlace_57 : decode cX6_canPlace 57 = .ok (.iload_n 3, 1) := by decide +kernel
theorem dX6_canPlace_58 : decode cX6_canPlace 58 = .ok (.ifCond .lt 17, 3) := by decide +kernel
theorem dX6_canPlace_61 : decode cX6_canPlace 61 = .ok (.aload_n 0, 1) := by decide +kernel
theorem dX6_canPlace_62 : decode cX6_canPlace 62 = .ok (.iload_n 1, 1) := by decide +kernel
theorem dX6_canPlace_63 : decode cX6_canPlace 63 = .ok (.iload_n 2, 1) := by decide +kernel
theorem dX6_canPlace_64 : decode cX6_canPlace 64 = .ok (.iload_n 3, 1) := by decide +kernel
theorem dX6_canPlace_65 : decode cX6_canPlace 65 = .ok (.invokevirtual 117, 3) := by decide +kernel
theorem dX6_canPlace_68 : decode cX6_canPlace 68 = .ok (.ifCond .eq 7, 3) := by decide +kernel
theorem dX6_canPlace_71 : decode cX6_canPlace 71 = .ok (.iconst 1, 1) := by decide +kernel
theorem dX6_canPlace_72 : decode cX6_canPlace 72 = .ok (.goto 4, 3) := by decide +kernel
theorem dX6_canPlace_75 : decode cX6_canPlace 75 = .ok (.iconst 0, 1) := by decide +kernel
theorem dX6_canPlace_76 : decode cX6_canPlace 76 = .ok (.ireturn, 1) := by decide +kernel
theorem dX6_works_0 : decode cX6_works 0 = .ok (.aload_n 0, 1) := by decide +kernel
theorem dX6_works_1 : decode cX6_works 1 = .ok (.getfield 7, 3) := by decide +kernel
theorem dX6_works_4 : decode cX6_works 4 = .ok (.iconst 4, 1) := by decide +kernel
theorem dX6_works_5 : decode cX6_works 5 = .ok (.iaload, 1) := by decide +kernel
theorem dX6_works_6 : decode cX6_works 6 = .ok (.istore_n 3, 1) := by decide +kernel
theorem dX6_works_7 : decode cX6_works 7 = .ok (.iload_n 1, 1) := by decide +kernel
theorem dX6_works_8 : decode cX6_works 8 = .ok (.tableswitch 139 0 4 #[36, 51, 69, 97, 113], 36) := by decide +kernel
theorem dX6_works_44 : decode cX6_works 44 = .ok (.aload_n 0, 1) := by decide +kernel
theorem dX6_works_45 : decode cX6_works 45 = .ok (.iload_n 3, 1) := by decide +kernel
theorem dX6_works_46 : decode cX6_works 46 = .ok (.iconst 1, 1) := by decide +kernel
theorem dX6_works_47 : decode cX6_works 47 = .ok (.aload_n 0, 1) := by decide +kernel
theorem dX6_works_48 : decode cX6_works 48 = .ok (.getfield 7, 3) := by decide +kernel
theorem dX6_works_51 : decode cX6_works 51 = .ok (.iconst 5, 1) := by decide +kernel
theorem dX6_works_52 : decode cX6_works 52 = .ok (.iaload, 1) := by decide +kernel
theorem dX6_works_53 : decode cX6_works 53 = .ok (.invokevirtual 85, 3) := by decide +kernel
theorem dX6_works_56 : decode cX6_works 56 = .ok (.goto 106, 3) := by decide +kernel
theorem dX6_works_59 : decode cX6_works 59 = .ok (.aload_n 0, 1) := by decide +kernel
theorem dX6_works_60 : decode cX6_works 60 = .ok (.iload_n 3, 1) := by decide +kernel
theorem dX6_works_61 : decode cX6_works 61 = .ok (.iconst 2, 1) := by decide +kernel
theorem dX6_works_62 : decode cX6_works 62 = .ok (.bipush 7, 2) := by decide +kernel
theorem dX6_works_64 : decode cX6_works 64 = .ok (.aload_n 0, 1) := by decide +kernel
theorem dX6_works_65 : decode cX6_works 65 = .ok (.getfield 7, 3) := by decide +kernel
theorem dX6_works_68 : decode cX6_works 68 = .ok (.iconst 5, 1) := by decide +kernel
theorem dX6_works_69 : decode cX6_works 69 = .ok (.iaload, 1) := by decide +kernel
theorem dX6_works_70 : decode cX6_works 70 = .ok (.isub, 1) := by decide +kernel
theorem dX6_works_71 : decode cX6_works 71 = .ok (.invokevirtual 85, 3) := by decide +kernel
theorem dX6_works_74 : decode cX6_works 74 = .ok (.goto 88, 3) := by decide +kernel
theorem dX6_works_77 : decode cX6_works 77 = .ok (.aload_n 0, 1) := by decide +kernel
theorem dX6_works_78 : decode cX6_works 78 = .ok (.iload_n 3, 1) := by decide +kernel
theorem dX6_works_79 : decode cX6_works 79 = .ok (.iconst 2, 1) := by decide +kernel
theorem dX6_works_80 : decode cX6_works 80 = .ok (.iload_n 2, 1) := by decide +kernel
theorem dX6_works_81 : decode cX6_works 81 = .ok (.ineg, 1) := by decide +kernel
theorem dX6_works_82 : decode cX6_works 82 = .ok (.invokevirtual 85, 3) := by decide +kernel
theorem dX6_works_85 : decode cX6_works 85 = .ok (.aload_n 0, 1) := by decide +kernel
theorem dX6_works_86 : decode cX6_works 86 = .ok (.iload_n 3, 1) := by decide +kernel
theorem dX6_works_87 : decode cX6_works 87 = .ok (.iconst 0, 1) := by decide +kernel
theorem dX6_works_88 : decode cX6_works 88 = .ok (.iload_n 2, 1) := by decide +kernel
theorem dX6_works_89 : decode cX6_works 89 = .ok (.ineg, 1) := by decide +kernel
theorem dX6_works_90 : decode cX6_works 90 = .ok (.invokevirtual 85, 3) := by decide +kernel
theorem dX6_works_93 : decode cX6_works 93 = .ok (.aload_n 0, 1) := by decide +kernel
theorem dX6_works_94 : decode cX6_works 94 = .ok (.iload_n 3, 1) := by decide +kernel
theorem dX6_works_95 : decode cX6_works 95 = .ok (.iconst 3, 1) := by decide +kernel
theorem dX6_works_96 : decode cX6_works 96 = .ok (.iconst 2, 1) := by decide +kernel
theorem dX6_works_97 : decode cX6_works 97 = .ok (.iload_n 2, 1) := by decide +kernel
theorem dX6_works_98 : decode cX6_works 98 = .ok (.imul, 1) := by decide +kernel
theorem dX6_works_99 : decode cX6_works 99 = .ok (.invokevirtual 85, 3) := by decide +kernel
theorem dX6_works_102 : decode cX6_works 102 = .ok (.goto 60, 3) := by decide +kernel
theorem dX6_works_105 : decode cX6_works 105 = .ok (.aload_n 0, 1) := by decide +kernel
theorem dX6_works_106 : decode cX6_works 106 = .ok (.iload_n 3, 1) := by decide +kernel
theorem dX6_works_107 : decode cX6_works 107 = .ok (.iload_n 2, 1) := by decide +kernel
theorem dX6_works_108 : decode cX6_works 108 = .ok (.bipush 10, 2) := by decide +kernel
theorem dX6_works_110 : decode cX6_works 110 = .ok (.idiv, 1) := by decide +kernel
theorem dX6_works_111 : decode cX6_works 111 = .ok (.iload_n 2, 1) := by decide +kernel
theorem dX6_works_112 : decode cX6_works 112 = .ok (.bipush 10, 2) := by decide +kernel
theorem dX6_works_114 : decode cX6_works 114 = .ok (.irem, 1) := by decide +kernel
theorem dX6_works_115 : decode cX6_works 115 = .ok (.invokevirtual 120, 3) := by decide +kernel
theorem dX6_works_118 : decode cX6_works 118 = .ok (.goto 44, 3) := by decide +kernel
theorem dX6_works_121 : decode cX6_works 121 = .ok (.aload_n 0, 1) := by decide +kernel
theorem dX6_works_122 : decode cX6_works 122 = .ok (.iload_n 3, 1) := by decide +kernel
theorem dX6_works_123 : decode cX6_works 123 = .ok (.iconst 0, 1) := by decide +kernel
theorem dX6_works_124 : decode cX6_works 124 = .ok (.bipush (-5), 2) := by decide +kernel
theorem dX6_works_126 : decode cX6_works 126 = .ok (.invokevirtual 85, 3) := by decide +kernel
theorem dX6_works_129 : decode cX6_works 129 = .ok (.aload_n 0, 1) := by decide +kernel
theorem dX6_works_130 : decode cX6_works 130 = .ok (.iload_n 3, 1) := by decide +kernel
theorem dX6_works_131 : decode cX6_works 131 = .ok (.iconst 5, 1) := by decide +kernel
theorem dX6_works_132 : decode cX6_works 132 = .ok (.iconst 1, 1) := by decide +kernel
theorem dX6_works_133 : decode cX6_works 133 = .ok (.invokevirtual 85, 3) := by decide +kernel
theorem dX6_works_136 : decode cX6_works 136 = .ok (.aload_n 0, 1) := by decide +kernel
theorem dX6_works_137 : decode cX6_works 137 = .ok (.iload_n 3, 1) := by decide +kernel
theorem dX6_works_138 : decode cX6_works 138 = .ok (.bipush 6, 2) := by decide +kernel
theorem dX6_works_140 : decode cX6_works 140 = .ok (.iconst 1, 1) := by decide +kernel
theorem dX6_works_141 : decode cX6_works 141 = .ok (.invokevirtual 85, 3) := by decide +kernel
theorem dX6_works_144 : decode cX6_works 144 = .ok (.goto 18, 3) := by decide +kernel
theorem dX6_works_147 : decode cX6_works 147 = .ok (.aload_n 0, 1) := by decide +kernel
theorem dX6_works_148 : decode cX6_works 148 = .ok (.iload_n 3, 1) := by decide +kernel
theorem dX6_works_149 : decode cX6_works 149 = .ok (.iconst 0, 1) := by decide +kernel
theorem dX6_works_150 : decode cX6_works 150 = .ok (.bipush (-2), 2) := by decide +kernel
theorem dX6_works_152 : decode cX6_works 152 = .ok (.invokevirtual 85, 3) := by decide +kernel
theorem dX6_works_155 : decode cX6_works 155 = .ok (.aload_n 0, 1) := by decide +kernel
theorem dX6_works_156 : decode cX6_works 156 = .ok (.iload_n 3, 1) := by decide +kernel
theorem dX6_works_157 : decode cX6_works 157 = .ok (.iconst 4, 1) := by decide +kernel
theorem dX6_works_158 : decode cX6_works 158 = .ok (.iconst 3, 1) := by decide +kernel
theorem dX6_works_159 : decode cX6_works 159 = .ok (.invokevirtual 85, 3) := by decide +kernel
theorem dX6_works_162 : decode cX6_works 162 = .ok (.return_, 1) := by decide +kernel
theorem dX6_sells_0 : decode cX6_sells 0 = .ok (.aload_n 0, 1) := by decide +kernel
theorem dX6_sells_1 : decode cX6_sells 1 = .ok (.iload_n 1, 1) := by decide +kernel
theorem dX6_sells_2 : decode cX6_sells 2 = .ok (.iconst 1, 1) := by decide +kernel
theorem dX6_sells_3 : decode cX6_sells 3 = .ok (.iload_n 2, 1) := by decide +kernel
theorem dX6_sells_4 : decode cX6_sells 4 = .ok (.iadd, 1) := by decide +kernel
theorem dX6_sells_5 : decode cX6_sells 5 = .ok (.iload_n 3, 1) := by decide +kernel
theorem dX6_sells_6 : decode cX6_sells 6 = .ok (.ineg, 1) := by decide +kernel
theorem dX6_sells_7 : decode cX6_sells 7 = .ok (.invokevirtual 85, 3) := by decide +kernel
theorem dX6_sells_10 : decode cX6_sells 10 = .ok (.iconst 0, 1) := by decide +kernel
theorem dX6_sells_11 : decode cX6_sells 11 = .ok (.istore 4, 2) := by decide +kernel
theorem dX6_sells_13 : decode cX6_sells 13 = .ok (.iload 4, 2) := by decide +kernel
theorem dX6_sells_15 : decode cX6_sells 15 = .ok (.iload_n 3, 1) := by decide +kernel
theorem dX6_sells_16 : decode cX6_sells 16 = .ok (.if_icmp .ge 54, 3) := by decide +kernel
theorem dX6_sells_19 : decode cX6_sells 19 = .ok (.aload_n 0, 1) := by decide +kernel
theorem dX6_sells_20 : decode cX6_sells 20 = .ok (.iload_n 1, 1) := by decide +kernel
theorem dX6_sells_21 : decode cX6_sells 21 = .ok (.iconst 0, 1) := by decide +kernel
theorem dX6_sells_22 : decode cX6_sells 22 = .ok (.aload_n 0, 1) := by decide +kernel
theorem dX6_sells_23 : decode cX6_sells 23 = .ok (.getfield 7, 3) := by decide +kernel
theorem dX6_sells_26 : decode cX6_sells 26 = .ok (.bipush 7, 2) := by decide +kernel
theorem dX6_sells_28 : decode cX6_sells 28 = .ok (.iload_n 2, 1) := by decide +kernel
theorem dX6_sells_29 : decode cX6_sells 29 = .ok (.iadd, 1) := by decide +kernel
theorem dX6_sells_30 : decode cX6_sells 30 = .ok (.iaload, 1) := by decide +kernel
theorem dX6_sells_31 : decode cX6_sells 31 = .ok (.invokevirtual 85, 3) := by decide +kernel
theorem dX6_sells_34 : decode cX6_sells 34 = .ok (.aload_n 0, 1) := by decide +kernel
theorem dX6_sells_35 : decode cX6_sells 35 = .ok (.getfield 7, 3) := by decide +kernel
theorem dX6_sells_38 : decode cX6_sells 38 = .ok (.bipush 7, 2) := by decide +kernel
theorem dX6_sells_40 : decode cX6_sells 40 = .ok (.iload_n 2, 1) := by decide +kernel
theorem dX6_sells_41 : decode cX6_sells 41 = .ok (.iadd, 1) := by decide +kernel
theorem dX6_sells_42 : decode cX6_sells 42 = .ok (.dup2, 1) := by decide +kernel
theorem dX6_sells_43 : decode cX6_sells 43 = .ok (.iaload, 1) := by decide +kernel
theorem dX6_sells_44 : decode cX6_sells 44 = .ok (.aload_n 0, 1) := by decide +kernel
theorem dX6_sells_45 : decode cX6_sells 45 = .ok (.getfield 7, 3) := by decide +kernel
theorem dX6_sells_48 : decode cX6_sells 48 = .ok (.bipush 7, 2) := by decide +kernel
theorem dX6_sells_50 : decode cX6_sells 50 = .ok (.iload_n 2, 1) := by decide +kernel
theorem dX6_sells_51 : decode cX6_sells 51 = .ok (.iadd, 1) := by decide +kernel
theorem dX6_sells_52 : decode cX6_sells 52 = .ok (.iaload, 1) := by decide +kernel
theorem dX6_sells_53 : decode cX6_sells 53 = .ok (.iconst 1, 1) := by decide +kernel
theorem dX6_sells_54 : decode cX6_sells 54 = .ok (.if_icmp .le 7, 3) := by decide +kernel
theorem dX6_sells_57 : decode cX6_sells 57 = .ok (.iconst 1, 1) := by decide +kernel
theorem dX6_sells_58 : decode cX6_sells 58 = .ok (.goto 4, 3) := by decide +kernel
theorem dX6_sells_61 : decode cX6_sells 61 = .ok (.iconst 0, 1) := by decide +kernel
theorem dX6_sells_62 : decode cX6_sells 62 = .ok (.isub, 1) := by decide +kernel
theorem dX6_sells_63 : decode cX6_sells 63 = .ok (.iastore, 1) := by decide +kernel
theorem dX6_sells_64 : decode cX6_sells 64 = .ok (.iinc 4 1, 3) := by decide +kernel
theorem dX6_sells_67 : decode cX6_sells 67 = .ok (.goto (-54), 3) := by decide +kernel
theorem dX6_sells_70 : decode cX6_sells 70 = .ok (.return_, 1) := by decide +kernel
theorem dX6_places_0 : decode cX6_places 0 = .ok (.aload_n 0, 1) := by decide +kernel
theorem dX6_places_1 : decode cX6_places 1 = .ok (.getfield 7, 3) := by decide +kernel
theorem dX6_places_4 : decode cX6_places 4 = .ok (.iconst 4, 1) := by decide +kernel
theorem dX6_places_5 : decode cX6_places 5 = .ok (.iaload, 1) := by decide +kernel
theorem dX6_places_6 : decode cX6_places 6 = .ok (.istore_n 3, 1) := by decide +kernel
theorem dX6_places_7 : decode cX6_places 7 = .ok (.bipush 45, 2) := by decide +kernel
theorem dX6_places_9 : decode cX6_places 9 = .ok (.iconst 4, 1) := by decide +kernel
theorem dX6_places_10 : decode cX6_places 10 = .ok (.iload_n 1, 1) := by decide +kernel
theorem dX6_places_11 : decode cX6_places 11 = .ok (.imul, 1) := by decide +kernel
theorem dX6_places_12 : decode cX6_places 12 = .ok (.iadd, 1) := by decide +kernel
theorem dX6_places_13 : decode cX6_places 13 = .ok (.istore 4, 2) := by decide +kernel
theorem dX6_places_15 : decode cX6_places 15 = .ok (.iconst (-1), 1) := by decide +kernel
theorem dX6_places_16 : decode cX6_places 16 = .ok (.istore 5, 2) := by decide +kernel
theorem dX6_places_18 : decode cX6_places 18 = .ok (.aload_n 0, 1) := by decide +kernel
theorem dX6_places_19 : decode cX6_places 19 = .ok (.iload_n 1, 1) := by decide +kernel
theorem dX6_places_20 : decode cX6_places 20 = .ok (.invokevirtual 110, 3) := by decide +kernel
theorem dX6_places_23 : decode cX6_places 23 = .ok (.ifCond .eq 113, 3) := by decide +kernel
theorem dX6_places_26 : decode cX6_places 26 = .ok (.aload_n 0, 1) := by decide +kernel
theorem dX6_places_27 : decode cX6_places 27 = .ok (.iload_n 1, 1) := by decide +kernel
theorem dX6_places_28 : decode cX6_places 28 = .ok (.invokevirtual 114, 3) := by decide +kernel
theorem dX6_places_31 : decode cX6_places 31 = .ok (.istore 6, 2) := by decide +kernel
theorem dX6_places_33 : decode cX6_places 33 = .ok (.aload_n 0, 1) := by decide +kernel
theorem dX6_places_34 : decode cX6_places 34 = .ok (.iload_n 1, 1) := by decide +kernel
theorem dX6_places_35 : decode cX6_places 35 = .ok (.iload 6, 2) := by decide +kernel
theorem dX6_places_37 : decode cX6_places 37 = .ok (.invokevirtual 103, 3) := by decide +kernel
theorem dX6_places_40 : decode cX6_places 40 = .ok (.istore 5, 2) := by decide +kernel
theorem dX6_places_42 : decode cX6_places 42 = .ok (.iload 6, 2) := by decide +kernel
theorem dX6_places_44 : decode cX6_places 44 = .ok (.istore 7, 2) := by decide +kernel
theorem dX6_places_46 : decode cX6_places 46 = .ok (.iload 7, 2) := by decide +kernel
theorem dX6_places_48 : decode cX6_places 48 = .ok (.aload_n 0, 1) := by decide +kernel
theorem dX6_places_49 : decode cX6_places 49 = .ok (.iload_n 1, 1) := by decide +kernel
theorem dX6_places_50 : decode cX6_places 50 = .ok (.invokevirtual 99, 3) := by decide +kernel
theorem dX6_places_53 : decode cX6_places 53 = .ok (.iconst 1, 1) := by decide +kernel
theorem dX6_places_54 : decode cX6_places 54 = .ok (.isub, 1) := by decide +kernel
theorem dX6_places_55 : decode cX6_places 55 = .ok (.if_icmp .ge 33, 3) := by decide +kernel
theorem dX6_places_58 : decode cX6_places 58 = .ok (.aload_n 0, 1) := by decide +kernel
theorem dX6_places_59 : decode cX6_places 59 = .ok (.getfield 7, 3) := by decide +kernel
theorem dX6_places_62 : decode cX6_places 62 = .ok (.iload 4, 2) := by decide +kernel
theorem dX6_places_64 : decode cX6_places 64 = .ok (.iconst 1, 1) := by decide +kernel
theorem dX6_places_65 : decode cX6_places 65 = .ok (.iadd, 1) := by decide +kernel
theorem dX6_places_66 : decode cX6_places 66 = .ok (.iload 7, 2) := by decide +kernel
theorem dX6_places_68 : decode cX6_places 68 = .ok (.iadd, 1) := by decide +kernel
theorem dX6_places_69 : decode cX6_places 69 = .ok (.aload_n 0, 1) := by decide +kernel
theorem dX6_places_70 : decode cX6_places 70 = .ok (.getfield 7, 3) := by decide +kernel
theorem dX6_places_73 : decode cX6_places 73 = .ok (.iload 4, 2) := by decide +kernel
theorem dX6_places_75 : decode cX6_places 75 = .ok (.iconst 2, 1) := by decide +kernel
theorem dX6_places_76 : decode cX6_places 76 = .ok (.iadd, 1) := by decide +kernel
theorem dX6_places_77 : decode cX6_places 77 = .ok (.iload 7, 2) := by decide +kernel
theorem dX6_places_79 : decode cX6_places 79 = .ok (.iadd, 1) := by decide +kernel
theorem dX6_places_80 : decode cX6_places 80 = .ok (.iaload, 1) := by decide +kernel
theorem dX6_places_81 : decode cX6_places 81 = .ok (.iastore, 1) := by decide +kernel
theorem dX6_places_82 : decode cX6_places 82 = .ok (.iinc 7 1, 3) := by decide +kernel
theorem dX6_places_85 : decode cX6_places 85 = .ok (.goto (-39), 3) := by decide +kernel
theorem dX6_places_88 : decode cX6_places 88 = .ok (.aload_n 0, 1) := by decide +kernel
theorem dX6_places_89 : decode cX6_places 89 = .ok (.getfield 7, 3) := by decide +kernel
theorem dX6_places_92 : decode cX6_places 92 = .ok (.iload 4, 2) := by decide +kernel
theorem dX6_places_94 : decode cX6_places 94 = .ok (.dup2, 1) := by decide +kernel
theorem dX6_places_95 : decode cX6_places 95 = .ok (.iaload, 1) := by decide +kernel
theorem dX6_places_96 : decode cX6_places 96 = .ok (.iconst 1, 1) := by decide +kernel
theorem dX6_places_97 : decode cX6_places 97 = .ok (.isub, 1) := by decide +kernel
theorem dX6_places_98 : decode cX6_places 98 = .ok (.iastore, 1) := by decide +kernel
theorem dX6_places_99 : decode cX6_places 99 = .ok (.aload_n 0, 1) := by decide +kernel
theorem dX6_places_100 : decode cX6_places 100 = .ok (.getfield 7, 3) := by decide +kernel
theorem dX6_places_103 : decode cX6_places 103 = .ok (.bipush 11, 2) := by decide +kernel
theorem dX6_places_105 : decode cX6_places 105 = .ok (.dup2, 1) := by decide +kernel
theorem dX6_places_106 : decode cX6_places 106 = .ok (.iaload, 1) := by decide +kernel
theorem dX6_places_107 : decode cX6_places 107 = .ok (.iconst 1, 1) := by decide +kernel
theorem dX6_places_108 : decode cX6_places 108 = .ok (.iadd, 1) := by decide +kernel
theorem dX6_places_109 : decode cX6_places 109 = .ok (.iastore, 1) := by decide +kernel
theorem dX6_places_110 : decode cX6_places 110 = .ok (.aload_n 0, 1) := by decide +kernel
theorem dX6_places_111 : decode cX6_places 111 = .ok (.iload_n 3, 1) := by decide +kernel
theorem dX6_places_112 : decode cX6_places 112 = .ok (.iconst 0, 1) := by decide +kernel
theorem dX6_places_113 : decode cX6_places 113 = .ok (.aload_n 0, 1) := by decide +kernel
theorem dX6_places_114 : decode cX6_places 114 = .ok (.getfield 7, 3) := by decide +kernel
theorem dX6_places_117 : decode cX6_places 117 = .ok (.iconst 1, 1) := by decide +kernel
theorem dX6_places_118 : decode cX6_places 118 = .ok (.iaload, 1) := by decide +kernel
theorem dX6_places_119 : decode cX6_places 119 = .ok (.ineg, 1) := by decide +kernel
theorem dX6_places_120 : decode cX6_places 120 = .ok (.invokevirtual 85, 3) := by decide +kernel
theorem dX6_places_123 : decode cX6_places 123 = .ok (.aload_n 0, 1) := by decide +kernel
theorem dX6_places_124 : decode cX6_places 124 = .ok (.iload 5, 2) := by decide +kernel
theorem dX6_places_126 : decode cX6_places 126 = .ok (.iconst 0, 1) := by decide +kernel
theorem dX6_places_127 : decode cX6_places 127 = .ok (.aload_n 0, 1) := by decide +kernel
theorem dX6_places_128 : decode cX6_places 128 = .ok (.getfield 7, 3) := by decide +kernel
theorem dX6_places_131 : decode cX6_places 131 = .ok (.iconst 1, 1) := by decide +kernel
theorem dX6_places_132 : decode cX6_places 132 = .ok (.iaload, 1) := by decide +kernel
theorem dX6_places_133 : decode cX6_places 133 = .ok (.invokevirtual 85, 3) := by decide +kernel
theorem dX6_places_136 : decode cX6_places 136 = .ok (.aload_n 0, 1) := by decide +kernel
theorem dX6_places_137 : decode cX6_places 137 = .ok (.getfield 7, 3) := by decide +kernel
theorem dX6_places_140 : decode cX6_places 140 = .ok (.iload 4, 2) := by decide +kernel
theorem dX6_places_142 : decode cX6_places 142 = .ok (.iconst 1, 1) := by decide +kernel
theorem dX6_places_143 : decode cX6_places 143 = .ok (.iadd, 1) := by decide +kernel
theorem dX6_places_144 : decode cX6_places 144 = .ok (.aload_n 0, 1) := by decide +kernel
theorem dX6_places_145 : decode cX6_places 145 = .ok (.getfield 7, 3) := by decide +kernel
theorem dX6_places_148 : decode cX6_places 148 = .ok (.iload 4, 2) := by decide +kernel
theorem dX6_places_150 : decode cX6_places 150 = .ok (.iaload, 1) := by decide +kernel
theorem dX6_places_151 : decode cX6_places 151 = .ok (.iadd, 1) := by decide +kernel
theorem dX6_places_152 : decode cX6_places 152 = .ok (.iload_n 3, 1) := by decide +kernel
theorem dX6_places_153 : decode cX6_places 153 = .ok (.iastore, 1) := by decide +kernel
theorem dX6_places_154 : decode cX6_places 154 = .ok (.aload_n 0, 1) := by decide +kernel
theorem dX6_places_155 : decode cX6_places 155 = .ok (.getfield 7, 3) := by decide +kernel
theorem dX6_places_158 : decode cX6_places 158 = .ok (.iload 4, 2) := by decide +kernel
theorem dX6_places_160 : decode cX6_places 160 = .ok (.dup2, 1) := by decide +kernel
theorem dX6_places_161 : decode cX6_places 161 = .ok (.iaload, 1) := by decide +kernel
theorem dX6_places_162 : decode cX6_places 162 = .ok (.iconst 1, 1) := by decide +kernel
theorem dX6_places_163 : decode cX6_places 163 = .ok (.iadd, 1) := by decide +kernel
theorem dX6_places_164 : decode cX6_places 164 = .ok (.iastore, 1) := by decide +kernel
theorem dX6_places_165 : decode cX6_places 165 = .ok (.aload_n 0, 1) := by decide +kernel
theorem dX6_places_166 : decode cX6_places 166 = .ok (.iload_n 3, 1) := by decide +kernel
theorem dX6_places_167 : decode cX6_places 167 = .ok (.bipush 6, 2) := by decide +kernel
theorem dX6_places_169 : decode cX6_places 169 = .ok (.iconst (-1), 1) := by decide +kernel
theorem dX6_places_170 : decode cX6_places 170 = .ok (.invokevirtual 85, 3) := by decide +kernel
theorem dX6_places_173 : decode cX6_places 173 = .ok (.aload_n 0, 1) := by decide +kernel
theorem dX6_places_174 : decode cX6_places 174 = .ok (.iload_n 1, 1) := by decide +kernel
theorem dX6_places_175 : decode cX6_places 175 = .ok (.iload_n 2, 1) := by decide +kernel
theorem dX6_places_176 : decode cX6_places 176 = .ok (.invokevirtual 123, 3) := by decide +kernel
theorem dX6_places_179 : decode cX6_places 179 = .ok (.iload 5, 2) := by decide +kernel
theorem dX6_places_181 : decode cX6_places 181 = .ok (.ireturn, 1) := by decide +kernel
theorem dX6_bringing_0 : decode cX6_bringing 0 = .ok (.aload_n 0, 1) := by decide +kernel
theorem dX6_bringing_1 : decode cX6_bringing 1 = .ok (.iload_n 1, 1) := by decide +kernel
theorem dX6_bringing_2 : decode cX6_bringing 2 = .ok (.iload_n 2, 1) := by decide +kernel
theorem dX6_bringing_3 : decode cX6_bringing 3 = .ok (.invokevirtual 127, 3) := by decide +kernel
theorem dX6_bringing_6 : decode cX6_bringing 6 = .ok (.ifCond .ne 5, 3) := by decide +kernel
theorem dX6_bringing_9 : decode cX6_bringing 9 = .ok (.iconst (-1), 1) := by decide +kernel
theorem dX6_bringing_10 : decode cX6_bringing 10 = .ok (.ireturn, 1) := by decide +kernel
theorem dX6_bringing_11 : decode cX6_bringing 11 = .ok (.aload_n 0, 1) := by decide +kernel
theorem dX6_bringing_12 : decode cX6_bringing 12 = .ok (.invokevirtual 131, 3) := by decide +kernel
theorem dX6_bringing_15 : decode cX6_bringing 15 = .ok (.aload_n 0, 1) := by decide +kernel
theorem dX6_bringing_16 : decode cX6_bringing 16 = .ok (.getfield 7, 3) := by decide +kernel
theorem dX6_bringing_19 : decode cX6_bringing 19 = .ok (.iconst 4, 1) := by decide +kernel
theorem dX6_bringing_20 : decode cX6_bringing 20 = .ok (.iaload, 1) := by decide +kernel
theorem dX6_bringing_21 : decode cX6_bringing 21 = .ok (.istore_n 3, 1) := by decide +kernel
theorem dX6_bringing_22 : decode cX6_bringing 22 = .ok (.aload_n 0, 1) := by decide +kernel
theorem dX6_bringing_23 : decode cX6_bringing 23 = .ok (.iload_n 3, 1) := by decide +kernel
theorem dX6_bringing_24 : decode cX6_bringing 24 = .ok (.invokevirtual 134, 3) := by decide +kernel
theorem dX6_bringing_27 : decode cX6_bringing 27 = .ok (.istore 4, 2) := by decide +kernel
theorem dX6_bringing_29 : decode cX6_bringing 29 = .ok (.aload_n 0, 1) := by decide +kernel
theorem dX6_bringing_30 : decode cX6_bringing 30 = .ok (.iload_n 1, 1) := by decide +kernel
theorem dX6_bringing_31 : decode cX6_bringing 31 = .ok (.iload_n 2, 1) := by decide +kernel
theorem dX6_bringing_32 : decode cX6_bringing 32 = .ok (.invokevirtual 137, 3) := by decide +kernel
theorem dX6_bringing_35 : decode cX6_bringing 35 = .ok (.pop, 1) := by decide +kernel
theorem dX6_bringing_36 : decode cX6_bringing 36 = .ok (.aload_n 0, 1) := by decide +kernel
theorem dX6_bringing_37 : decode cX6_bringing 37 = .ok (.iload_n 3, 1) := by decide +kernel
theorem dX6_bringing_38 : decode cX6_bringing 38 = .ok (.invokevirtual 134, 3) := by decide +kernel
theorem dX6_bringing_41 : decode cX6_bringing 41 = .ok (.iload 4, 2) := by decide +kernel
theorem dX6_bringing_43 : decode cX6_bringing 43 = .ok (.isub, 1) := by decide +kernel
theorem dX6_bringing_44 : decode cX6_bringing 44 = .ok (.bipush 100, 2) := by decide +kernel
theorem dX6_bringing_46 : decode cX6_bringing 46 = .ok (.iadd, 1) := by decide +kernel
theorem dX6_bringing_47 : decode cX6_bringing 47 = .ok (.istore 5, 2) := by decide +kernel
theorem dX6_bringing_49 : decode cX6_bringing 49 = .ok (.aload_n 0, 1) := by decide +kernel
theorem dX6_bringing_50 : decode cX6_bringing 50 = .ok (.invokevirtual 140, 3) := by decide +kernel
theorem dX6_bringing_53 : decode cX6_bringing 53 = .ok (.iload 5, 2) := by decide +kernel
theorem dX6_bringing_55 : decode cX6_bringing 55 = .ok (.ireturn, 1) := by decide +kernel
theorem dX6_findsBest_0 : decode cX6_findsBest 0 = .ok (.aload_n 0, 1) := by decide +kernel
theorem dX6_findsBest_1 : decode cX6_findsBest 1 = .ok (.iconst (-1), 1) := by decide +kernel
theorem dX6_findsBest_2 : decode cX6_findsBest 2 = .ok (.putfield 143, 3) := by decide +kernel
theorem dX6_findsBest_5 : decode cX6_findsBest 5 = .ok (.aload_n 0, 1) := by decide +kernel
theorem dX6_findsBest_6 : decode cX6_findsBest 6 = .ok (.iconst (-1), 1) := by decide +kernel
theorem dX6_findsBest_7 : decode cX6_findsBest 7 = .ok (.putfield 146, 3) := by decide +kernel
theorem dX6_findsBest_10 : decode cX6_findsBest 10 = .ok (.aload_n 0, 1) := by decide +kernel
theorem dX6_findsBest_11 : decode cX6_findsBest 11 = .ok (.iconst (-1), 1) := by decide +kernel
theorem dX6_findsBest_12 : decode cX6_findsBest 12 = .ok (.putfield 149, 3) := by decide +kernel
theorem dX6_findsBest_15 : decode cX6_findsBest 15 = .ok (.iconst 0, 1) := by decide +kernel
theorem dX6_findsBest_16 : decode cX6_findsBest 16 = .ok (.istore_n 1, 1) := by decide +kernel
theorem dX6_findsBest_17 : decode cX6_findsBest 17 = .ok (.iload_n 1, 1) := by decide +kernel
theorem dX6_findsBest_18 : decode cX6_findsBest 18 = .ok (.bipush 6, 2) := by decide +kernel
theorem dX6_findsBest_20 : decode cX6_findsBest 20 = .ok (.if_icmp .ge 65, 3) := by decide +kernel
theorem dX6_findsBest_23 : decode cX6_findsBest 23 = .ok (.iconst 0, 1) := by decide +kernel
theorem dX6_findsBest_24 : decode cX6_findsBest 24 = .ok (.istore_n 2, 1) := by decide +kernel
theorem dX6_findsBest_25 : decode cX6_findsBest 25 = .ok (.iload_n 2, 1) := by decide +kernel
theorem dX6_findsBest_26 : decode cX6_findsBest 26 = .ok (.bipush 24, 2) := by decide +kernel
theorem dX6_findsBest_28 : decode cX6_findsBest 28 = .ok (.if_icmp .ge 51, 3) := by decide +kernel
theorem dX6_findsBest_31 : decode cX6_findsBest 31 = .ok (.iload_n 1, 1) := by decide +kernel
theorem dX6_findsBest_32 : decode cX6_findsBest 32 = .ok (.iload_n 2, 1) := by decide +kernel
theorem dX6_findsBest_33 : decode cX6_findsBest 33 = .ok (.invokestatic 152, 3) := by decide +kernel
theorem dX6_findsBest_36 : decode cX6_findsBest 36 = .ok (.ifCond .eq 12, 3) := by decide +kernel
theorem dX6_findsBest_39 : decode cX6_findsBest 39 = .ok (.aload_n 0, 1) := by decide +kernel
theorem dX6_findsBest_40 : decode cX6_findsBest 40 = .ok (.iload_n 1, 1) := by decide +kernel
theorem dX6_findsBest_41 : decode cX6_findsBest 41 = .ok (.iload_n 2, 1) := by decide +kernel
theorem dX6_findsBest_42 : decode cX6_findsBest 42 = .ok (.invokevirtual 155, 3) := by decide +kernel
theorem dX6_findsBest_45 : decode cX6_findsBest 45 = .ok (.goto 4, 3) := by decide +kernel
theorem dX6_findsBest_48 : decode cX6_findsBest 48 = .ok (.iconst (-1), 1) := by decide +kernel
theorem dX6_findsBest_49 : decode cX6_findsBest 49 = .ok (.istore_n 3, 1) := by decide +kernel
theorem dX6_findsBest_50 : decode cX6_findsBest 50 = .ok (.iload_n 3, 1) := by decide +kernel
theorem dX6_findsBest_51 : decode cX6_findsBest 51 = .ok (.aload_n 0, 1) := by decide +kernel
theorem dX6_findsBest_52 : decode cX6_findsBest 52 = .ok (.getfield 143, 3) := by decide +kernel
theorem dX6_findsBest_55 : decode cX6_findsBest 55 = .ok (.if_icmp .le 18, 3) := by decide +kernel
theorem dX6_findsBest_58 : decode cX6_findsBest 58 = .ok (.aload_n 0, 1) := by decide +kernel
theorem dX6_findsBest_59 : decode cX6_findsBest 59 = .ok (.iload_n 3, 1) := by decide +kernel
theorem dX6_findsBest_60 : decode cX6_findsBest 60 = .ok (.putfield 143, 3) := by decide +kernel
theorem dX6_findsBest_63 : decode cX6_findsBest 63 = .ok (.aload_n 0, 1) := by decide +kernel
theorem dX6_findsBest_64 : decode cX6_findsBest 64 = .ok (.iload_n 1, 1) := by decide +kernel
theorem dX6_findsBest_65 : decode cX6_findsBest 65 = .ok (.putfield 146, 3) := by decide +kernel
theorem dX6_findsBest_68 : decode cX6_findsBest 68 = .ok (.aload_n 0, 1) := by decide +kernel
theorem dX6_findsBest_69 : decode cX6_findsBest 69 = .ok (.iload_n 2, 1) := by decide +kernel
theorem dX6_findsBest_70 : decode cX6_findsBest 70 = .ok (.putfield 149, 3) := by decide +kernel
theorem dX6_findsBest_73 : decode cX6_findsBest 73 = .ok (.iinc 2 1, 3) := by decide +kernel
theorem dX6_findsBest_76 : decode cX6_findsBest 76 = .ok (.goto (-51), 3) := by decide +kernel
theorem dX6_findsBest_79 : decode cX6_findsBest 79 = .ok (.iinc 1 1, 3) := by decide +kernel
theorem dX6_findsBest_82 : decode cX6_findsBest 82 = .ok (.goto (-65), 3) := by decide +kernel
theorem dX6_findsBest_85 : decode cX6_findsBest 85 = .ok (.return_, 1) := by decide +kernel
theorem dX6_passes_0 : decode cX6_passes 0 = .ok (.aload_n 0, 1) := by decide +kernel
theorem dX6_passes_1 : decode cX6_passes 1 = .ok (.getfield 7, 3) := by decide +kernel
theorem dX6_passes_4 : decode cX6_passes 4 = .ok (.bipush 13, 2) := by decide +kernel
theorem dX6_passes_6 : decode cX6_passes 6 = .ok (.bipush 8, 2) := by decide +kernel
theorem dX6_passes_8 : decode cX6_passes 8 = .ok (.aload_n 0, 1) := by decide +kernel
theorem dX6_passes_9 : decode cX6_passes 9 = .ok (.getfield 7, 3) := by decide +kernel
theorem dX6_passes_12 : decode cX6_passes 12 = .ok (.iconst 4, 1) := by decide +kernel
theorem dX6_passes_13 : decode cX6_passes 13 = .ok (.iaload, 1) := by decide +kernel
theorem dX6_passes_14 : decode cX6_passes 14 = .ok (.imul, 1) := by decide +kernel
theorem dX6_passes_15 : decode cX6_passes 15 = .ok (.iadd, 1) := by decide +kernel
theorem dX6_passes_16 : decode cX6_passes 16 = .ok (.bipush 7, 2) := by decide +kernel
theorem dX6_passes_18 : decode cX6_passes 18 = .ok (.iadd, 1) := by decide +kernel
theorem dX6_passes_19 : decode cX6_passes 19 = .ok (.iconst 1, 1) := by decide +kernel
theorem dX6_passes_20 : decode cX6_passes 20 = .ok (.iastore, 1) := by decide +kernel
theorem dX6_passes_21 : decode cX6_passes 21 = .ok (.aload_n 0, 1) := by decide +kernel
theorem dX6_passes_22 : decode cX6_passes 22 = .ok (.invokevirtual 158, 3) := by decide +kernel
theorem dX6_passes_25 : decode cX6_passes 25 = .ok (.return_, 1) := by decide +kernel
theorem dX6_plays_0 : decode cX6_plays 0 = .ok (.aload_n 0, 1) := by decide +kernel
theorem dX6_plays_1 : decode cX6_plays 1 = .ok (.invokevirtual 161, 3) := by decide +kernel
theorem dX6_plays_4 : decode cX6_plays 4 = .ok (.aload_n 0, 1) := by decide +kernel
theorem dX6_plays_5 : decode cX6_plays 5 = .ok (.getfield 143, 3) := by decide +kernel
theorem dX6_plays_8 : decode cX6_plays 8 = .ok (.istore_n 1, 1) := by decide +kernel
theorem dX6_plays_9 : decode cX6_plays 9 = .ok (.iload_n 1, 1) := by decide +kernel
theorem dX6_plays_10 : decode cX6_plays 10 = .ok (.bipush 100, 2) := by decide +kernel
theorem dX6_plays_12 : decode cX6_plays 12 = .ok (.if_icmp .le 22, 3) := by decide +kernel
theorem dX6_plays_15 : decode cX6_plays 15 = .ok (.aload_n 0, 1) := by decide +kernel
theorem dX6_plays_16 : decode cX6_plays 16 = .ok (.aload_n 0, 1) := by decide +kernel
theorem dX6_plays_17 : decode cX6_plays 17 = .ok (.getfield 146, 3) := by decide +kernel
theorem dX6_plays_20 : decode cX6_plays 20 = .ok (.aload_n 0, 1) := by decide +kernel
theorem dX6_plays_21 : decode cX6_plays 21 = .ok (.getfield 149, 3) := by decide +kernel
theorem dX6_plays_24 : decode cX6_plays 24 = .ok (.invokevirtual 137, 3) := by decide +kernel
theorem dX6_plays_27 : decode cX6_plays 27 = .ok (.pop, 1) := by decide +kernel
theorem dX6_plays_28 : decode cX6_plays 28 = .ok (.aload_n 0, 1) := by decide +kernel
theorem dX6_plays_29 : decode cX6_plays 29 = .ok (.invokevirtual 158, 3) := by decide +kernel
theorem dX6_plays_32 : decode cX6_plays 32 = .ok (.iload_n 1, 1) := by decide +kernel
theorem dX6_plays_33 : decode cX6_plays 33 = .ok (.ireturn, 1) := by decide +kernel
theorem dX6_plays_34 : decode cX6_plays 34 = .ok (.aload_n 0, 1) := by decide +kernel
theorem dX6_plays_35 : decode cX6_plays 35 = .ok (.invokevirtual 164, 3) := by decide +kernel
theorem dX6_plays_38 : decode cX6_plays 38 = .ok (.iconst (-1), 1) := by decide +kernel
theorem dX6_plays_39 : decode cX6_plays 39 = .ok (.ireturn, 1) := by decide +kernel
theorem dX6_append_0 : decode cX6_append 0 = .ok (.aload_n 0, 1) := by decide +kernel
theorem dX6_append_1 : decode cX6_append 1 = .ok (.iconst 0, 1) := by decide +kernel
theorem dX6_append_2 : decode cX6_append 2 = .ok (.putfield 42, 3) := by decide +kernel
theorem dX6_append_5 : decode cX6_append 5 = .ok (.iload_n 1, 1) := by decide +kernel
theorem dX6_append_6 : decode cX6_append 6 = .ok (.iconst 0, 1) := by decide +kernel
theorem dX6_append_7 : decode cX6_append 7 = .ok (.sipush 255, 3) := by decide +kernel
theorem dX6_append_10 : decode cX6_append 10 = .ok (.invokestatic 53, 3) := by decide +kernel
theorem dX6_append_13 : decode cX6_append 13 = .ok (.ifCond .ne 9, 3) := by decide +kernel
theorem dX6_append_16 : decode cX6_append 16 = .ok (.aload_n 0, 1) := by decide +kernel
theorem dX6_append_17 : decode cX6_append 17 = .ok (.iconst 1, 1) := by decide +kernel
theorem dX6_append_18 : decode cX6_append 18 = .ok (.invokevirtual 167, 3) := by decide +kernel
theorem dX6_append_21 : decode cX6_append 21 = .ok (.ireturn, 1) := by decide +kernel
theorem dX6_append_22 : decode cX6_append 22 = .ok (.aload_n 0, 1) := by decide +kernel
theorem dX6_append_23 : decode cX6_append 23 = .ok (.getfield 170, 3) := by decide +kernel
theorem dX6_append_26 : decode cX6_append 26 = .ok (.bipush 120, 2) := by decide +kernel
theorem dX6_append_28 : decode cX6_append 28 = .ok (.if_icmp .ne 9, 3) := by decide +kernel
theorem dX6_append_31 : decode cX6_append 31 = .ok (.aload_n 0, 1) := by decide +kernel
theorem dX6_append_32 : decode cX6_append 32 = .ok (.iconst 2, 1) := by decide +kernel
theorem dX6_append_33 : decode cX6_append 33 = .ok (.invokevirtual 167, 3) := by decide +kernel
theorem dX6_append_36 : decode cX6_append 36 = .ok (.ireturn, 1) := by decide +kernel
theorem dX6_append_37 : decode cX6_append 37 = .ok (.aload_n 0, 1) := by decide +kernel
theorem dX6_append_38 : decode cX6_append 38 = .ok (.getfield 30, 3) := by decide +kernel
theorem dX6_append_41 : decode cX6_append 41 = .ok (.aload_n 0, 1) := by decide +kernel
theorem dX6_append_42 : decode cX6_append 42 = .ok (.getfield 170, 3) := by decide +kernel
theorem dX6_append_45 : decode cX6_append 45 = .ok (.iload_n 1, 1) := by decide +kernel
theorem dX6_append_46 : decode cX6_append 46 = .ok (.iastore, 1) := by decide +kernel
theorem dX6_append_47 : decode cX6_append 47 = .ok (.aload_n 0, 1) := by decide +kernel
theorem dX6_append_48 : decode cX6_append 48 = .ok (.dup, 1) := by decide +kernel
theorem dX6_append_49 : decode cX6_append 49 = .ok (.getfield 170, 3) := by decide +kernel
theorem dX6_append_52 : decode cX6_append 52 = .ok (.iconst 1, 1) := by decide +kernel
theorem dX6_append_53 : decode cX6_append 53 = .ok (.iadd, 1) := by decide +kernel
theorem dX6_append_54 : decode cX6_append 54 = .ok (.putfield 170, 3) := by decide +kernel
theorem dX6_append_57 : decode cX6_append 57 = .ok (.aload_n 0, 1) := by decide +kernel
theorem dX6_append_58 : decode cX6_append 58 = .ok (.getfield 170, 3) := by decide +kernel
theorem dX6_append_61 : decode cX6_append 61 = .ok (.ireturn, 1) := by decide +kernel
theorem dX6_clearText_0 : decode cX6_clearText 0 = .ok (.aload_n 0, 1) := by decide +kernel
theorem dX6_clearText_1 : decode cX6_clearText 1 = .ok (.iconst 0, 1) := by decide +kernel
theorem dX6_clearText_2 : decode cX6_clearText 2 = .ok (.putfield 42, 3) := by decide +kernel
theorem dX6_clearText_5 : decode cX6_clearText 5 = .ok (.aload_n 0, 1) := by decide +kernel
theorem dX6_clearText_6 : decode cX6_clearText 6 = .ok (.getfield 170, 3) := by decide +kernel
theorem dX6_clearText_9 : decode cX6_clearText 9 = .ok (.istore_n 1, 1) := by decide +kernel
theorem dX6_clearText_10 : decode cX6_clearText 10 = .ok (.aload_n 0, 1) := by decide +kernel
theorem dX6_clearText_11 : decode cX6_clearText 11 = .ok (.iconst 0, 1) := by decide +kernel
theorem dX6_clearText_12 : decode cX6_clearText 12 = .ok (.putfield 170, 3) := by decide +kernel
theorem dX6_clearText_15 : decode cX6_clearText 15 = .ok (.iload_n 1, 1) := by decide +kernel
theorem dX6_clearText_16 : decode cX6_clearText 16 = .ok (.ireturn, 1) := by decide +kernel
theorem dX6_letter_0 : decode cX6_letter 0 = .ok (.aload_n 0, 1) := by decide +kernel
theorem dX6_letter_1 : decode cX6_letter 1 = .ok (.getfield 173, 3) := by decide +kernel
theorem dX6_letter_4 : decode cX6_letter 4 = .ok (.aload_n 0, 1) := by decide +kernel
theorem dX6_letter_5 : decode cX6_letter 5 = .ok (.getfield 170, 3) := by decide +kernel
theorem dX6_letter_8 : decode cX6_letter 8 = .ok (.if_icmp .ge 15, 3) := by decide +kernel
theorem dX6_letter_11 : decode cX6_letter 11 = .ok (.aload_n 0, 1) := by decide +kernel
theorem dX6_letter_12 : decode cX6_letter 12 = .ok (.getfield 30, 3) := by decide +kernel
theorem dX6_letter_15 : decode cX6_letter 15 = .ok (.aload_n 0, 1) := by decide +kernel
theorem dX6_letter_16 : decode cX6_letter 16 = .ok (.getfield 173, 3) := by decide +kernel
theorem dX6_letter_19 : decode cX6_letter 19 = .ok (.iaload, 1) := by decide +kernel
theorem dX6_letter_20 : decode cX6_letter 20 = .ok (.goto 4, 3) := by decide +kernel
theorem dX6_letter_23 : decode cX6_letter 23 = .ok (.iconst 0, 1) := by decide +kernel
theorem dX6_letter_24 : decode cX6_letter 24 = .ok (.ireturn, 1) := by decide +kernel
theorem dX6_wants_0 : decode cX6_wants 0 = .ok (.aload_n 0, 1) := by decide +kernel
theorem dX6_wants_1 : decode cX6_wants 1 = .ok (.aload_n 0, 1) := by decide +kernel
theorem dX6_wants_2 : decode cX6_wants 2 = .ok (.getfield 176, 3) := by decide +kernel
theorem dX6_wants_5 : decode cX6_wants 5 = .ok (.ifCond .eq 30, 3) := by decide +kernel
theorem dX6_wants_8 : decode cX6_wants 8 = .ok (.aload_n 0, 1) := by decide +kernel
theorem dX6_wants_9 : decode cX6_wants 9 = .ok (.getfield 173, 3) := by decide +kernel
theorem dX6_wants_12 : decode cX6_wants 12 = .ok (.aload_n 0, 1) := by decide +kernel
theorem dX6_wants_13 : decode cX6_wants 13 = .ok (.getfield 170, 3) := by decide +kernel
theorem dX6_wants_16 : decode cX6_wants 16 = .ok (.if_icmp .ge 19, 3) := by decide +kernel
theorem dX6_wants_19 : decode cX6_wants 19 = .ok (.aload_n 0, 1) := by decide +kernel
theorem dX6_wants_20 : decode cX6_wants 20 = .ok (.invokevirtual 180, 3) := by decide +kernel
theorem dX6_wants_23 : decode cX6_wants 23 = .ok (.iload_n 1, 1) := by decide +kernel
theorem dX6_wants_24 : decode cX6_wants 24 = .ok (.iload_n 2, 1) := by decide +kernel
theorem dX6_wants_25 : decode cX6_wants 25 = .ok (.invokestatic 53, 3) := by decide +kernel
theorem dX6_wants_28 : decode cX6_wants 28 = .ok (.ifCond .eq 7, 3) := by decide +kernel
theorem dX6_wants_31 : decode cX6_wants 31 = .ok (.iconst 1, 1) := by decide +kernel
theorem dX6_wants_32 : decode cX6_wants 32 = .ok (.goto 4, 3) := by decide +kernel
theorem dX6_wants_35 : decode cX6_wants 35 = .ok (.iconst 0, 1) := by decide +kernel
theorem dX6_wants_36 : decode cX6_wants 36 = .ok (.putfield 176, 3) := by decide +kernel
theorem dX6_wants_39 : decode cX6_wants 39 = .ok (.aload_n 0, 1) := by decide +kernel
theorem dX6_wants_40 : decode cX6_wants 40 = .ok (.invokevirtual 180, 3) := by decide +kernel
theorem dX6_wants_43 : decode cX6_wants 43 = .ok (.iload_n 1, 1) := by decide +kernel
theorem dX6_wants_44 : decode cX6_wants 44 = .ok (.isub, 1) := by decide +kernel
theorem dX6_wants_45 : decode cX6_wants 45 = .ok (.istore_n 3, 1) := by decide +kernel
theorem dX6_wants_46 : decode cX6_wants 46 = .ok (.aload_n 0, 1) := by decide +kernel
theorem dX6_wants_47 : decode cX6_wants 47 = .ok (.dup, 1) := by decide +kernel
theorem dX6_wants_48 : decode cX6_wants 48 = .ok (.getfield 173, 3) := by decide +kernel
theorem dX6_wants_51 : decode cX6_wants 51 = .ok (.aload_n 0, 1) := by decide +kernel
theorem dX6_wants_52 : decode cX6_wants 52 = .ok (.getfield 176, 3) := by decide +kernel
theorem dX6_wants_55 : decode cX6_wants 55 = .ok (.ifCond .eq 7, 3) := by decide +kernel
theorem dX6_wants_58 : decode cX6_wants 58 = .ok (.iconst 1, 1) := by decide +kernel
theorem dX6_wants_59 : decode cX6_wants 59 = .ok (.goto 4, 3) := by decide +kernel
theorem dX6_wants_62 : decode cX6_wants 62 = .ok (.iconst 0, 1) := by decide +kernel
theorem dX6_wants_63 : decode cX6_wants 63 = .ok (.iadd, 1) := by decide +kernel
theorem dX6_wants_64 : decode cX6_wants 64 = .ok (.putfield 173, 3) := by decide +kernel
theorem dX6_wants_67 : decode cX6_wants 67 = .ok (.iload_n 3, 1) := by decide +kernel
theorem dX6_wants_68 : decode cX6_wants 68 = .ok (.ireturn, 1) := by decide +kernel
theorem dX6_placeOf_0 : decode cX6_placeOf 0 = .ok (.iload_n 0, 1) := by decide +kernel
theorem dX6_placeOf_1 : decode cX6_placeOf 1 = .ok (.lookupswitch 82 #[(45, 79), (104, 75), (108, 71), (109, 73), (110, 69), (112, 67), (114, 77)], 67) := by decide +kernel
theorem dX6_placeOf_68 : decode cX6_placeOf 68 = .ok (.iconst 0, 1) := by decide +kernel
theorem dX6_placeOf_69 : decode cX6_placeOf 69 = .ok (.ireturn, 1) := by decide +kernel
theorem dX6_placeOf_70 : decode cX6_placeOf 70 = .ok (.iconst 1, 1) := by decide +kernel
theorem dX6_placeOf_71 : decode cX6_placeOf 71 = .ok (.ireturn, 1) := by decide +kernel
theorem dX6_placeOf_72 : decode cX6_placeOf 72 = .ok (.iconst 2, 1) := by decide +kernel
theorem dX6_placeOf_73 : decode cX6_placeOf 73 = .ok (.ireturn, 1) := by decide +kernel
theorem dX6_placeOf_74 : decode cX6_placeOf 74 = .ok (.iconst 3, 1) := by decide +kernel
theorem dX6_placeOf_75 : decode cX6_placeOf 75 = .ok (.ireturn, 1) := by decide +kernel
theorem dX6_placeOf_76 : decode cX6_placeOf 76 = .ok (.iconst 4, 1) := by decide +kernel
