theorem dX0_init_0 : decode cX0_init 0 = .ok (.aload_n 0, 1) := by decide +kernel
theorem dX0_init_1 : decode cX0_init 1 = .ok (.invokespecial 3, 3) := by decide +kernel
theorem dX0_init_4 : decode cX0_init 4 = .ok (.aload_n 0, 1) := by decide +kernel
theorem dX0_init_5 : decode cX0_init 5 = .ok (.iconst 4, 1) := by decide +kernel
theorem dX0_init_6 : decode cX0_init 6 = .ok (.iconst 4, 1) := by decide +kernel
theorem dX0_init_7 : decode cX0_init 7 = .ok (.multianewarray 9 2, 4) := by decide +kernel
theorem dX0_init_11 : decode cX0_init 11 = .ok (.putfield 11, 3) := by decide +kernel
theorem dX0_init_14 : decode cX0_init 14 = .ok (.aload_n 0, 1) := by decide +kernel
theorem dX0_init_15 : decode cX0_init 15 = .ok (.iconst 4, 1) := by decide +kernel
theorem dX0_init_16 : decode cX0_init 16 = .ok (.newarray .int, 2) := by decide +kernel
theorem dX0_init_18 : decode cX0_init 18 = .ok (.putfield 16, 3) := by decide +kernel
theorem dX0_init_21 : decode cX0_init 21 = .ok (.aload_n 0, 1) := by decide +kernel
theorem dX0_init_22 : decode cX0_init 22 = .ok (.sipush 200, 3) := by decide +kernel
theorem dX0_init_25 : decode cX0_init 25 = .ok (.newarray .int, 2) := by decide +kernel
theorem dX0_init_27 : decode cX0_init 27 = .ok (.putfield 20, 3) := by decide +kernel
theorem dX0_init_30 : decode cX0_init 30 = .ok (.aload_n 0, 1) := by decide +kernel
theorem dX0_init_31 : decode cX0_init 31 = .ok (.sipush 200, 3) := by decide +kernel
theorem dX0_init_34 : decode cX0_init 34 = .ok (.newarray .int, 2) := by decide +kernel
theorem dX0_init_36 : decode cX0_init 36 = .ok (.putfield 23, 3) := by decide +kernel
theorem dX0_init_39 : decode cX0_init 39 = .ok (.aload_n 0, 1) := by decide +kernel
theorem dX0_init_40 : decode cX0_init 40 = .ok (.sipush 200, 3) := by decide +kernel
theorem dX0_init_43 : decode cX0_init 43 = .ok (.newarray .int, 2) := by decide +kernel
theorem dX0_init_45 : decode cX0_init 45 = .ok (.putfield 26, 3) := by decide +kernel
theorem dX0_init_48 : decode cX0_init 48 = .ok (.aload_n 0, 1) := by decide +kernel
theorem dX0_init_49 : decode cX0_init 49 = .ok (.iconst 0, 1) := by decide +kernel
theorem dX0_init_50 : decode cX0_init 50 = .ok (.putfield 29, 3) := by decide +kernel
theorem dX0_init_53 : decode cX0_init 53 = .ok (.aload_n 0, 1) := by decide +kernel
theorem dX0_init_54 : decode cX0_init 54 = .ok (.bipush (-9), 2) := by decide +kernel
theorem dX0_init_56 : decode cX0_init 56 = .ok (.putfield 33, 3) := by decide +kernel
theorem dX0_init_59 : decode cX0_init 59 = .ok (.aload_n 0, 1) := by decide +kernel
theorem dX0_init_60 : decode cX0_init 60 = .ok (.iconst 0, 1) := by decide +kernel
theorem dX0_init_61 : decode cX0_init 61 = .ok (.putfield 36, 3) := by decide +kernel
theorem dX0_init_64 : decode cX0_init 64 = .ok (.aload_n 0, 1) := by decide +kernel
theorem dX0_init_65 : decode cX0_init 65 = .ok (.iconst 3, 1) := by decide +kernel
theorem dX0_init_66 : decode cX0_init 66 = .ok (.putfield 39, 3) := by decide +kernel
theorem dX0_init_69 : decode cX0_init 69 = .ok (.aload_n 0, 1) := by decide +kernel
theorem dX0_init_70 : decode cX0_init 70 = .ok (.iconst 1, 1) := by decide +kernel
theorem dX0_init_71 : decode cX0_init 71 = .ok (.putfield 42, 3) := by decide +kernel
theorem dX0_init_74 : decode cX0_init 74 = .ok (.aload_n 0, 1) := by decide +kernel
theorem dX0_init_75 : decode cX0_init 75 = .ok (.iconst 1, 1) := by decide +kernel
theorem dX0_init_76 : decode cX0_init 76 = .ok (.putfield 45, 3) := by decide +kernel
theorem dX0_init_79 : decode cX0_init 79 = .ok (.aload_n 0, 1) := by decide +kernel
theorem dX0_init_80 : decode cX0_init 80 = .ok (.bipush 10, 2) := by decide +kernel
theorem dX0_init_82 : decode cX0_init 82 = .ok (.putfield 48, 3) := by decide +kernel
theorem dX0_init_85 : decode cX0_init 85 = .ok (.aload_n 0, 1) := by decide +kernel
theorem dX0_init_86 : decode cX0_init 86 = .ok (.getfield 16, 3) := by decide +kernel
theorem dX0_init_89 : decode cX0_init 89 = .ok (.sipush 250, 3) := by decide +kernel
theorem dX0_init_92 : decode cX0_init 92 = .ok (.invokestatic 51, 3) := by decide +kernel
theorem dX0_init_95 : decode cX0_init 95 = .ok (.iconst 0, 1) := by decide +kernel
theorem dX0_init_96 : decode cX0_init 96 = .ok (.istore_n 1, 1) := by decide +kernel
theorem dX0_init_97 : decode cX0_init 97 = .ok (.iload_n 1, 1) := by decide +kernel
theorem dX0_init_98 : decode cX0_init 98 = .ok (.iconst 4, 1) := by decide +kernel
theorem dX0_init_99 : decode cX0_init 99 = .ok (.if_icmp .ge 21, 3) := by decide +kernel
theorem dX0_init_102 : decode cX0_init 102 = .ok (.aload_n 0, 1) := by decide +kernel
theorem dX0_init_103 : decode cX0_init 103 = .ok (.getfield 11, 3) := by decide +kernel
theorem dX0_init_106 : decode cX0_init 106 = .ok (.iload_n 1, 1) := by decide +kernel
theorem dX0_init_107 : decode cX0_init 107 = .ok (.aaload, 1) := by decide +kernel
theorem dX0_init_108 : decode cX0_init 108 = .ok (.sipush 250, 3) := by decide +kernel
theorem dX0_init_111 : decode cX0_init 111 = .ok (.invokestatic 51, 3) := by decide +kernel
theorem dX0_init_114 : decode cX0_init 114 = .ok (.iinc 1 1, 3) := by decide +kernel
theorem dX0_init_117 : decode cX0_init 117 = .ok (.goto (-20), 3) := by decide +kernel
theorem dX0_init_120 : decode cX0_init 120 = .ok (.return_, 1) := by decide +kernel
theorem dX0_hours_0 : decode cX0_hours 0 = .ok (.aload_n 0, 1) := by decide +kernel
theorem dX0_hours_1 : decode cX0_hours 1 = .ok (.getfield 29, 3) := by decide +kernel
theorem dX0_hours_4 : decode cX0_hours 4 = .ok (.ireturn, 1) := by decide +kernel
theorem dX0_latestRead_0 : decode cX0_latestRead 0 = .ok (.aload_n 0, 1) := by decide +kernel
theorem dX0_latestRead_1 : decode cX0_latestRead 1 = .ok (.getfield 33, 3) := by decide +kernel
theorem dX0_latestRead_4 : decode cX0_latestRead 4 = .ok (.ireturn, 1) := by decide +kernel
theorem dX0_passedOver_0 : decode cX0_passedOver 0 = .ok (.aload_n 0, 1) := by decide +kernel
theorem dX0_passedOver_1 : decode cX0_passedOver 1 = .ok (.getfield 36, 3) := by decide +kernel
theorem dX0_passedOver_4 : decode cX0_passedOver 4 = .ok (.ireturn, 1) := by decide +kernel
theorem dX0_sharesOf_0 : decode cX0_sharesOf 0 = .ok (.aload_n 0, 1) := by decide +kernel
theorem dX0_sharesOf_1 : decode cX0_sharesOf 1 = .ok (.getfield 16, 3) := by decide +kernel
theorem dX0_sharesOf_4 : decode cX0_sharesOf 4 = .ok (.iload_n 1, 1) := by decide +kernel
theorem dX0_sharesOf_5 : decode cX0_sharesOf 5 = .ok (.iaload, 1) := by decide +kernel
theorem dX0_sharesOf_6 : decode cX0_sharesOf 6 = .ok (.ireturn, 1) := by decide +kernel
theorem dX0_setParts_0 : decode cX0_setParts 0 = .ok (.aload_n 0, 1) := by decide +kernel
theorem dX0_setParts_1 : decode cX0_setParts 1 = .ok (.getfield 11, 3) := by decide +kernel
theorem dX0_setParts_4 : decode cX0_setParts 4 = .ok (.iload_n 1, 1) := by decide +kernel
theorem dX0_setParts_5 : decode cX0_setParts 5 = .ok (.aaload, 1) := by decide +kernel
theorem dX0_setParts_6 : decode cX0_setParts 6 = .ok (.iconst 0, 1) := by decide +kernel
theorem dX0_setParts_7 : decode cX0_setParts 7 = .ok (.iload_n 2, 1) := by decide +kernel
theorem dX0_setParts_8 : decode cX0_setParts 8 = .ok (.iastore, 1) := by decide +kernel
theorem dX0_setParts_9 : decode cX0_setParts 9 = .ok (.aload_n 0, 1) := by decide +kernel
theorem dX0_setParts_10 : decode cX0_setParts 10 = .ok (.getfield 11, 3) := by decide +kernel
theorem dX0_setParts_13 : decode cX0_setParts 13 = .ok (.iload_n 1, 1) := by decide +kernel
theorem dX0_setParts_14 : decode cX0_setParts 14 = .ok (.aaload, 1) := by decide +kernel
theorem dX0_setParts_15 : decode cX0_setParts 15 = .ok (.iconst 1, 1) := by decide +kernel
theorem dX0_setParts_16 : decode cX0_setParts 16 = .ok (.iload_n 3, 1) := by decide +kernel
theorem dX0_setParts_17 : decode cX0_setParts 17 = .ok (.iastore, 1) := by decide +kernel
theorem dX0_setParts_18 : decode cX0_setParts 18 = .ok (.aload_n 0, 1) := by decide +kernel
theorem dX0_setParts_19 : decode cX0_setParts 19 = .ok (.getfield 11, 3) := by decide +kernel
theorem dX0_setParts_22 : decode cX0_setParts 22 = .ok (.iload_n 1, 1) := by decide +kernel
theorem dX0_setParts_23 : decode cX0_setParts 23 = .ok (.aaload, 1) := by decide +kernel
theorem dX0_setParts_24 : decode cX0_setParts 24 = .ok (.iconst 2, 1) := by decide +kernel
theorem dX0_setParts_25 : decode cX0_setParts 25 = .ok (.iload 4, 2) := by decide +kernel
theorem dX0_setParts_27 : decode cX0_setParts 27 = .ok (.iastore, 1) := by decide +kernel
theorem dX0_setParts_28 : decode cX0_setParts 28 = .ok (.aload_n 0, 1) := by decide +kernel
theorem dX0_setParts_29 : decode cX0_setParts 29 = .ok (.getfield 11, 3) := by decide +kernel
theorem dX0_setParts_32 : decode cX0_setParts 32 = .ok (.iload_n 1, 1) := by decide +kernel
theorem dX0_setParts_33 : decode cX0_setParts 33 = .ok (.aaload, 1) := by decide +kernel
theorem dX0_setParts_34 : decode cX0_setParts 34 = .ok (.iconst 3, 1) := by decide +kernel
theorem dX0_setParts_35 : decode cX0_setParts 35 = .ok (.sipush 1000, 3) := by decide +kernel
theorem dX0_setParts_38 : decode cX0_setParts 38 = .ok (.iload_n 2, 1) := by decide +kernel
theorem dX0_setParts_39 : decode cX0_setParts 39 = .ok (.isub, 1) := by decide +kernel
theorem dX0_setParts_40 : decode cX0_setParts 40 = .ok (.iload_n 3, 1) := by decide +kernel
theorem dX0_setParts_41 : decode cX0_setParts 41 = .ok (.isub, 1) := by decide +kernel
theorem dX0_setParts_42 : decode cX0_setParts 42 = .ok (.iload 4, 2) := by decide +kernel
theorem dX0_setParts_44 : decode cX0_setParts 44 = .ok (.isub, 1) := by decide +kernel
theorem dX0_setParts_45 : decode cX0_setParts 45 = .ok (.iastore, 1) := by decide +kernel
theorem dX0_setParts_46 : decode cX0_setParts 46 = .ok (.return_, 1) := by decide +kernel
theorem dX0_setShares_0 : decode cX0_setShares 0 = .ok (.aload_n 0, 1) := by decide +kernel
theorem dX0_setShares_1 : decode cX0_setShares 1 = .ok (.getfield 16, 3) := by decide +kernel
theorem dX0_setShares_4 : decode cX0_setShares 4 = .ok (.iconst 0, 1) := by decide +kernel
theorem dX0_setShares_5 : decode cX0_setShares 5 = .ok (.iload_n 1, 1) := by decide +kernel
theorem dX0_setShares_6 : decode cX0_setShares 6 = .ok (.iastore, 1) := by decide +kernel
theorem dX0_setShares_7 : decode cX0_setShares 7 = .ok (.aload_n 0, 1) := by decide +kernel
theorem dX0_setShares_8 : decode cX0_setShares 8 = .ok (.getfield 16, 3) := by decide +kernel
theorem dX0_setShares_11 : decode cX0_setShares 11 = .ok (.iconst 1, 1) := by decide +kernel
theorem dX0_setShares_12 : decode cX0_setShares 12 = .ok (.iload_n 2, 1) := by decide +kernel
theorem dX0_setShares_13 : decode cX0_setShares 13 = .ok (.iastore, 1) := by decide +kernel
theorem dX0_setShares_14 : decode cX0_setShares 14 = .ok (.aload_n 0, 1) := by decide +kernel
theorem dX0_setShares_15 : decode cX0_setShares 15 = .ok (.getfield 16, 3) := by decide +kernel
theorem dX0_setShares_18 : decode cX0_setShares 18 = .ok (.iconst 2, 1) := by decide +kernel
theorem dX0_setShares_19 : decode cX0_setShares 19 = .ok (.iload_n 3, 1) := by decide +kernel
theorem dX0_setShares_20 : decode cX0_setShares 20 = .ok (.iastore, 1) := by decide +kernel
theorem dX0_setShares_21 : decode cX0_setShares 21 = .ok (.aload_n 0, 1) := by decide +kernel
theorem dX0_setShares_22 : decode cX0_setShares 22 = .ok (.getfield 16, 3) := by decide +kernel
theorem dX0_setShares_25 : decode cX0_setShares 25 = .ok (.iconst 3, 1) := by decide +kernel
theorem dX0_setShares_26 : decode cX0_setShares 26 = .ok (.sipush 1000, 3) := by decide +kernel
theorem dX0_setShares_29 : decode cX0_setShares 29 = .ok (.iload_n 1, 1) := by decide +kernel
theorem dX0_setShares_30 : decode cX0_setShares 30 = .ok (.isub, 1) := by decide +kernel
theorem dX0_setShares_31 : decode cX0_setShares 31 = .ok (.iload_n 2, 1) := by decide +kernel
theorem dX0_setShares_32 : decode cX0_setShares 32 = .ok (.isub, 1) := by decide +kernel
theorem dX0_setShares_33 : decode cX0_setShares 33 = .ok (.iload_n 3, 1) := by decide +kernel
theorem dX0_setShares_34 : decode cX0_setShares 34 = .ok (.isub, 1) := by decide +kernel
theorem dX0_setShares_35 : decode cX0_setShares 35 = .ok (.iastore, 1) := by decide +kernel
theorem dX0_setShares_36 : decode cX0_setShares 36 = .ok (.return_, 1) := by decide +kernel
theorem dX0_setAim_0 : decode cX0_setAim 0 = .ok (.aload_n 0, 1) := by decide +kernel
theorem dX0_setAim_1 : decode cX0_setAim 1 = .ok (.iload_n 1, 1) := by decide +kernel
theorem dX0_setAim_2 : decode cX0_setAim 2 = .ok (.putfield 39, 3) := by decide +kernel
theorem dX0_setAim_5 : decode cX0_setAim 5 = .ok (.aload_n 0, 1) := by decide +kernel
theorem dX0_setAim_6 : decode cX0_setAim 6 = .ok (.iload_n 2, 1) := by decide +kernel
theorem dX0_setAim_7 : decode cX0_setAim 7 = .ok (.putfield 42, 3) := by decide +kernel
theorem dX0_setAim_10 : decode cX0_setAim 10 = .ok (.return_, 1) := by decide +kernel
theorem dX0_setRule_0 : decode cX0_setRule 0 = .ok (.aload_n 0, 1) := by decide +kernel
theorem dX0_setRule_1 : decode cX0_setRule 1 = .ok (.iload_n 1, 1) := by decide +kernel
theorem dX0_setRule_2 : decode cX0_setRule 2 = .ok (.putfield 45, 3) := by decide +kernel
theorem dX0_setRule_5 : decode cX0_setRule 5 = .ok (.aload_n 0, 1) := by decide +kernel
theorem dX0_setRule_6 : decode cX0_setRule 6 = .ok (.iload_n 2, 1) := by decide +kernel
theorem dX0_setRule_7 : decode cX0_setRule 7 = .ok (.putfield 48, 3) := by decide +kernel
theorem dX0_setRule_10 : decode cX0_setRule 10 = .ok (.return_, 1) := by decide +kernel
theorem dX0_part_0 : decode cX0_part 0 = .ok (.iconst 0, 1) := by decide +kernel
theorem dX0_part_1 : decode cX0_part 1 = .ok (.istore_n 2, 1) := by decide +kernel
theorem dX0_part_2 : decode cX0_part 2 = .ok (.iconst 0, 1) := by decide +kernel
theorem dX0_part_3 : decode cX0_part 3 = .ok (.istore_n 3, 1) := by decide +kernel
theorem dX0_part_4 : decode cX0_part 4 = .ok (.iload_n 3, 1) := by decide +kernel
theorem dX0_part_5 : decode cX0_part 5 = .ok (.iconst 4, 1) := by decide +kernel
theorem dX0_part_6 : decode cX0_part 6 = .ok (.if_icmp .ge 27, 3) := by decide +kernel
theorem dX0_part_9 : decode cX0_part 9 = .ok (.iload_n 2, 1) := by decide +kernel
theorem dX0_part_10 : decode cX0_part 10 = .ok (.aload_n 0, 1) := by decide +kernel
theorem dX0_part_11 : decode cX0_part 11 = .ok (.getfield 16, 3) := by decide +kernel
theorem dX0_part_14 : decode cX0_part 14 = .ok (.iload_n 3, 1) := by decide +kernel
theorem dX0_part_15 : decode cX0_part 15 = .ok (.iaload, 1) := by decide +kernel
theorem dX0_part_16 : decode cX0_part 16 = .ok (.aload_n 0, 1) := by decide +kernel
theorem dX0_part_17 : decode cX0_part 17 = .ok (.getfield 11, 3) := by decide +kernel
theorem dX0_part_20 : decode cX0_part 20 = .ok (.iload_n 3, 1) := by decide +kernel
theorem dX0_part_21 : decode cX0_part 21 = .ok (.aaload, 1) := by decide +kernel
theorem dX0_part_22 : decode cX0_part 22 = .ok (.iload_n 1, 1) := by decide +kernel
theorem dX0_part_23 : decode cX0_part 23 = .ok (.iaload, 1) := by decide +kernel
theorem dX0_part_24 : decode cX0_part 24 = .ok (.imul, 1) := by decide +kernel
theorem dX0_part_25 : decode cX0_part 25 = .ok (.iadd, 1) := by decide +kernel
theorem dX0_part_26 : decode cX0_part 26 = .ok (.istore_n 2, 1) := by decide +kernel
theorem dX0_part_27 : decode cX0_part 27 = .ok (.iinc 3 1, 3) := by decide +kernel
theorem dX0_part_30 : decode cX0_part 30 = .ok (.goto (-26), 3) := by decide +kernel
theorem dX0_part_33 : decode cX0_part 33 = .ok (.iload_n 2, 1) := by decide +kernel
theorem dX0_part_34 : decode cX0_part 34 = .ok (.ireturn, 1) := by decide +kernel
theorem dX0_numberUpper_0 : decode cX0_numberUpper 0 = .ok (.bipush 10, 2) := by decide +kernel
theorem dX0_numberUpper_2 : decode cX0_numberUpper 2 = .ok (.aload_n 0, 1) := by decide +kernel
theorem dX0_numberUpper_3 : decode cX0_numberUpper 3 = .ok (.iconst 0, 1) := by decide +kernel
theorem dX0_numberUpper_4 : decode cX0_numberUpper 4 = .ok (.invokevirtual 57, 3) := by decide +kernel
theorem dX0_numberUpper_7 : decode cX0_numberUpper 7 = .ok (.imul, 1) := by decide +kernel
theorem dX0_numberUpper_8 : decode cX0_numberUpper 8 = .ok (.ireturn, 1) := by decide +kernel
theorem dX0_numberLower_0 : decode cX0_numberLower 0 = .ok (.bipush 28, 2) := by decide +kernel
theorem dX0_numberLower_2 : decode cX0_numberLower 2 = .ok (.aload_n 0, 1) := by decide +kernel
theorem dX0_numberLower_3 : decode cX0_numberLower 3 = .ok (.iconst 1, 1) := by decide +kernel
theorem dX0_numberLower_4 : decode cX0_numberLower 4 = .ok (.invokevirtual 57, 3) := by decide +kernel
theorem dX0_numberLower_7 : decode cX0_numberLower 7 = .ok (.imul, 1) := by decide +kernel
theorem dX0_numberLower_8 : decode cX0_numberLower 8 = .ok (.bipush 12, 2) := by decide +kernel
theorem dX0_numberLower_10 : decode cX0_numberLower 10 = .ok (.aload_n 0, 1) := by decide +kernel
theorem dX0_numberLower_11 : decode cX0_numberLower 11 = .ok (.iconst 2, 1) := by decide +kernel
theorem dX0_numberLower_12 : decode cX0_numberLower 12 = .ok (.invokevirtual 57, 3) := by decide +kernel
theorem dX0_numberLower_15 : decode cX0_numberLower 15 = .ok (.imul, 1) := by decide +kernel
theorem dX0_numberLower_16 : decode cX0_numberLower 16 = .ok (.iadd, 1) := by decide +kernel
theorem dX0_numberLower_17 : decode cX0_numberLower 17 = .ok (.bipush 7, 2) := by decide +kernel
theorem dX0_numberLower_19 : decode cX0_numberLower 19 = .ok (.aload_n 0, 1) := by decide +kernel
theorem dX0_numberLower_20 : decode cX0_numberLower 20 = .ok (.iconst 3, 1) := by decide +kernel
theorem dX0_numberLower_21 : decode cX0_numberLower 21 = .ok (.invokevirtual 57, 3) := by decide +kernel
theorem dX0_numberLower_24 : decode cX0_numberLower 24 = .ok (.imul, 1) := by decide +kernel
theorem dX0_numberLower_25 : decode cX0_numberLower 25 = .ok (.iadd, 1) := by decide +kernel
theorem dX0_numberLower_26 : decode cX0_numberLower 26 = .ok (.ireturn, 1) := by decide +kernel
theorem dX0_passHour_0 : decode cX0_passHour 0 = .ok (.aload_n 0, 1) := by decide +kernel
theorem dX0_passHour_1 : decode cX0_passHour 1 = .ok (.iload_n 1, 1) := by decide +kernel
theorem dX0_passHour_2 : decode cX0_passHour 2 = .ok (.invokevirtual 61, 3) := by decide +kernel
theorem dX0_passHour_5 : decode cX0_passHour 5 = .ok (.aload_n 0, 1) := by decide +kernel
theorem dX0_passHour_6 : decode cX0_passHour 6 = .ok (.aload_n 0, 1) := by decide +kernel
theorem dX0_passHour_7 : decode cX0_passHour 7 = .ok (.invokevirtual 65, 3) := by decide +kernel
theorem dX0_passHour_10 : decode cX0_passHour 10 = .ok (.putfield 33, 3) := by decide +kernel
theorem dX0_passHour_13 : decode cX0_passHour 13 = .ok (.aload_n 0, 1) := by decide +kernel
theorem dX0_passHour_14 : decode cX0_passHour 14 = .ok (.dup, 1) := by decide +kernel
theorem dX0_passHour_15 : decode cX0_passHour 15 = .ok (.getfield 29, 3) := by decide +kernel
theorem dX0_passHour_18 : decode cX0_passHour 18 = .ok (.iconst 1, 1) := by decide +kernel
theorem dX0_passHour_19 : decode cX0_passHour 19 = .ok (.iadd, 1) := by decide +kernel
theorem dX0_passHour_20 : decode cX0_passHour 20 = .ok (.putfield 29, 3) := by decide +kernel
theorem dX0_passHour_23 : decode cX0_passHour 23 = .ok (.aload_n 0, 1) := by decide +kernel
theorem dX0_passHour_24 : decode cX0_passHour 24 = .ok (.getfield 33, 3) := by decide +kernel
theorem dX0_passHour_27 : decode cX0_passHour 27 = .ok (.bipush (-9), 2) := by decide +kernel
theorem dX0_passHour_29 : decode cX0_passHour 29 = .ok (.if_icmp .ne 7, 3) := by decide +kernel
theorem dX0_passHour_32 : decode cX0_passHour 32 = .ok (.iconst 0, 1) := by decide +kernel
theorem dX0_passHour_33 : decode cX0_passHour 33 = .ok (.goto 11, 3) := by decide +kernel
theorem dX0_passHour_36 : decode cX0_passHour 36 = .ok (.aload_n 0, 1) := by decide +kernel
theorem dX0_passHour_37 : decode cX0_passHour 37 = .ok (.aload_n 0, 1) := by decide +kernel
theorem dX0_passHour_38 : decode cX0_passHour 38 = .ok (.getfield 33, 3) := by decide +kernel
theorem dX0_passHour_41 : decode cX0_passHour 41 = .ok (.invokevirtual 69, 3) := by decide +kernel
theorem dX0_passHour_44 : decode cX0_passHour 44 = .ok (.ireturn, 1) := by decide +kernel
theorem dX0_takeSample_0 : decode cX0_takeSample 0 = .ok (.aload_n 0, 1) := by decide +kernel
theorem dX0_takeSample_1 : decode cX0_takeSample 1 = .ok (.getfield 20, 3) := by decide +kernel
theorem dX0_takeSample_4 : decode cX0_takeSample 4 = .ok (.aload_n 0, 1) := by decide +kernel
theorem dX0_takeSample_5 : decode cX0_takeSample 5 = .ok (.getfield 29, 3) := by decide +kernel
theorem dX0_takeSample_8 : decode cX0_takeSample 8 = .ok (.iload_n 1, 1) := by decide +kernel
theorem dX0_takeSample_9 : decode cX0_takeSample 9 = .ok (.ifCond .eq 7, 3) := by decide +kernel
theorem dX0_takeSample_12 : decode cX0_takeSample 12 = .ok (.iconst (-1), 1) := by decide +kernel
theorem dX0_takeSample_13 : decode cX0_takeSample 13 = .ok (.goto 12, 3) := by decide +kernel
theorem dX0_takeSample_16 : decode cX0_takeSample 16 = .ok (.aload_n 0, 1) := by decide +kernel
theorem dX0_takeSample_17 : decode cX0_takeSample 17 = .ok (.getfield 29, 3) := by decide +kernel
theorem dX0_takeSample_20 : decode cX0_takeSample 20 = .ok (.aload_n 0, 1) := by decide +kernel
theorem dX0_takeSample_21 : decode cX0_takeSample 21 = .ok (.getfield 45, 3) := by decide +kernel
theorem dX0_takeSample_24 : decode cX0_takeSample 24 = .ok (.iadd, 1) := by decide +kernel
theorem dX0_takeSample_25 : decode cX0_takeSample 25 = .ok (.iastore, 1) := by decide +kernel
theorem dX0_takeSample_26 : decode cX0_takeSample 26 = .ok (.aload_n 0, 1) := by decide +kernel
theorem dX0_takeSample_27 : decode cX0_takeSample 27 = .ok (.getfield 23, 3) := by decide +kernel
theorem dX0_takeSample_30 : decode cX0_takeSample 30 = .ok (.aload_n 0, 1) := by decide +kernel
theorem dX0_takeSample_31 : decode cX0_takeSample 31 = .ok (.getfield 29, 3) := by decide +kernel
theorem dX0_takeSample_34 : decode cX0_takeSample 34 = .ok (.aload_n 0, 1) := by decide +kernel
theorem dX0_takeSample_35 : decode cX0_takeSample 35 = .ok (.invokevirtual 72, 3) := by decide +kernel
theorem dX0_takeSample_38 : decode cX0_takeSample 38 = .ok (.iastore, 1) := by decide +kernel
theorem dX0_takeSample_39 : decode cX0_takeSample 39 = .ok (.aload_n 0, 1) := by decide +kernel
theorem dX0_takeSample_40 : decode cX0_takeSample 40 = .ok (.getfield 26, 3) := by decide +kernel
theorem dX0_takeSample_43 : decode cX0_takeSample 43 = .ok (.aload_n 0, 1) := by decide +kernel
theorem dX0_takeSample_44 : decode cX0_takeSample 44 = .ok (.getfield 29, 3) := by decide +kernel
theorem dX0_takeSample_47 : decode cX0_takeSample 47 = .ok (.aload_n 0, 1) := by decide +kernel
theorem dX0_takeSample_48 : decode cX0_takeSample 48 = .ok (.invokevirtual 75, 3) := by decide +kernel
theorem dX0_takeSample_51 : decode cX0_takeSample 51 = .ok (.iastore, 1) := by decide +kernel
theorem dX0_takeSample_52 : decode cX0_takeSample 52 = .ok (.return_, 1) := by decide +kernel
theorem dX0_readYoungest_0 : decode cX0_readYoungest 0 = .ok (.bipush (-9), 2) := by decide +kernel
theorem dX0_readYoungest_2 : decode cX0_readYoungest 2 = .ok (.istore_n 1, 1) := by decide +kernel
theorem dX0_readYoungest_3 : decode cX0_readYoungest 3 = .ok (.iconst 0, 1) := by decide +kernel
theorem dX0_readYoungest_4 : decode cX0_readYoungest 4 = .ok (.istore_n 2, 1) := by decide +kernel
theorem dX0_readYoungest_5 : decode cX0_readYoungest 5 = .ok (.iload_n 2, 1) := by decide +kernel
theorem dX0_readYoungest_6 : decode cX0_readYoungest 6 = .ok (.aload_n 0, 1) := by decide +kernel
theorem dX0_readYoungest_7 : decode cX0_readYoungest 7 = .ok (.getfield 29, 3) := by decide +kernel
theorem dX0_readYoungest_10 : decode cX0_readYoungest 10 = .ok (.if_icmp .gt 57, 3) := by decide +kernel
theorem dX0_readYoungest_13 : decode cX0_readYoungest 13 = .ok (.aload_n 0, 1) := by decide +kernel
theorem dX0_readYoungest_14 : decode cX0_readYoungest 14 = .ok (.getfield 20, 3) := by decide +kernel
theorem dX0_readYoungest_17 : decode cX0_readYoungest 17 = .ok (.iload_n 2, 1) := by decide +kernel
theorem dX0_readYoungest_18 : decode cX0_readYoungest 18 = .ok (.iaload, 1) := by decide +kernel
theorem dX0_readYoungest_19 : decode cX0_readYoungest 19 = .ok (.iconst (-1), 1) := by decide +kernel
theorem dX0_readYoungest_20 : decode cX0_readYoungest 20 = .ok (.if_icmp .eq 41, 3) := by decide +kernel
theorem dX0_readYoungest_23 : decode cX0_readYoungest 23 = .ok (.aload_n 0, 1) := by decide +kernel
theorem dX0_readYoungest_24 : decode cX0_readYoungest 24 = .ok (.getfield 20, 3) := by decide +kernel
theorem dX0_readYoungest_27 : decode cX0_readYoungest 27 = .ok (.iload_n 2, 1) := by decide +kernel
theorem dX0_readYoungest_28 : decode cX0_readYoungest 28 = .ok (.iaload, 1) := by decide +kernel
theorem dX0_readYoungest_29 : decode cX0_readYoungest 29 = .ok (.aload_n 0, 1) := by decide +kernel
theorem dX0_readYoungest_30 : decode cX0_readYoungest 30 = .ok (.getfield 29, 3) := by decide +kernel
theorem dX0_readYoungest_33 : decode cX0_readYoungest 33 = .ok (.if_icmp .gt 28, 3) := by decide +kernel
theorem dX0_readYoungest_36 : decode cX0_readYoungest 36 = .ok (.iload_n 1, 1) := by decide +kernel
theorem dX0_readYoungest_37 : decode cX0_readYoungest 37 = .ok (.bipush (-9), 2) := by decide +kernel
theorem dX0_readYoungest_39 : decode cX0_readYoungest 39 = .ok (.if_icmp .eq 13, 3) := by decide +kernel
theorem dX0_readYoungest_42 : decode cX0_readYoungest 42 = .ok (.aload_n 0, 1) := by decide +kernel
theorem dX0_readYoungest_43 : decode cX0_readYoungest 43 = .ok (.dup, 1) := by decide +kernel
theorem dX0_readYoungest_44 : decode cX0_readYoungest 44 = .ok (.getfield 36, 3) := by decide +kernel
theorem dX0_readYoungest_47 : decode cX0_readYoungest 47 = .ok (.iconst 1, 1) := by decide +kernel
theorem dX0_readYoungest_48 : decode cX0_readYoungest 48 = .ok (.iadd, 1) := by decide +kernel
theorem dX0_readYoungest_49 : decode cX0_readYoungest 49 = .ok (.putfield 36, 3) := by decide +kernel
theorem dX0_readYoungest_52 : decode cX0_readYoungest 52 = .ok (.iload_n 2, 1) := by decide +kernel
theorem dX0_readYoungest_53 : decode cX0_readYoungest 53 = .ok (.istore_n 1, 1) := by decide +kernel
theorem dX0_readYoungest_54 : decode cX0_readYoungest 54 = .ok (.aload_n 0, 1) := by decide +kernel
theorem dX0_readYoungest_55 : decode cX0_readYoungest 55 = .ok (.getfield 20, 3) := by decide +kernel
theorem dX0_readYoungest_58 : decode cX0_readYoungest 58 = .ok (.iload_n 2, 1) := by decide +kernel
theorem dX0_readYoungest_59 : decode cX0_readYoungest 59 = .ok (.iconst (-1), 1) := by decide +kernel
theorem dX0_readYoungest_60 : decode cX0_readYoungest 60 = .ok (.iastore, 1) := by decide +kernel
theorem dX0_readYoungest_61 : decode cX0_readYoungest 61 = .ok (.iinc 2 1, 3) := by decide +kernel
theorem dX0_readYoungest_64 : decode cX0_readYoungest 64 = .ok (.goto (-59), 3) := by decide +kernel
theorem dX0_readYoungest_67 : decode cX0_readYoungest 67 = .ok (.iload_n 1, 1) := by decide +kernel
theorem dX0_readYoungest_68 : decode cX0_readYoungest 68 = .ok (.ireturn, 1) := by decide +kernel
theorem dX0_correct_0 : decode cX0_correct 0 = .ok (.aload_n 0, 1) := by decide +kernel
theorem dX0_correct_1 : decode cX0_correct 1 = .ok (.getfield 26, 3) := by decide +kernel
theorem dX0_correct_4 : decode cX0_correct 4 = .ok (.iload_n 1, 1) := by decide +kernel
theorem dX0_correct_5 : decode cX0_correct 5 = .ok (.iaload, 1) := by decide +kernel
theorem dX0_correct_6 : decode cX0_correct 6 = .ok (.ifCond .ne 5, 3) := by decide +kernel
theorem dX0_correct_9 : decode cX0_correct 9 = .ok (.iconst 1, 1) := by decide +kernel
theorem dX0_correct_10 : decode cX0_correct 10 = .ok (.ireturn, 1) := by decide +kernel
theorem dX0_correct_11 : decode cX0_correct 11 = .ok (.aload_n 0, 1) := by decide +kernel
theorem dX0_correct_12 : decode cX0_correct 12 = .ok (.getfield 23, 3) := by decide +kernel
theorem dX0_correct_15 : decode cX0_correct 15 = .ok (.iload_n 1, 1) := by decide +kernel
theorem dX0_correct_16 : decode cX0_correct 16 = .ok (.iaload, 1) := by decide +kernel
theorem dX0_correct_17 : decode cX0_correct 17 = .ok (.i2l, 1) := by decide +kernel
theorem dX0_correct_18 : decode cX0_correct 18 = .ok (.aload_n 0, 1) := by decide +kernel
theorem dX0_correct_19 : decode cX0_correct 19 = .ok (.getfield 42, 3) := by decide +kernel
theorem dX0_correct_22 : decode cX0_correct 22 = .ok (.i2l, 1) := by decide +kernel
theorem dX0_correct_23 : decode cX0_correct 23 = .ok (.lmul, 1) := by decide +kernel
theorem dX0_correct_24 : decode cX0_correct 24 = .ok (.lstore_n 2, 1) := by decide +kernel
theorem dX0_correct_25 : decode cX0_correct 25 = .ok (.aload_n 0, 1) := by decide +kernel
theorem dX0_correct_26 : decode cX0_correct 26 = .ok (.getfield 26, 3) := by decide +kernel
theorem dX0_correct_29 : decode cX0_correct 29 = .ok (.iload_n 1, 1) := by decide +kernel
theorem dX0_correct_30 : decode cX0_correct 30 = .ok (.iaload, 1) := by decide +kernel
theorem dX0_correct_31 : decode cX0_correct 31 = .ok (.i2l, 1) := by decide +kernel
theorem dX0_correct_32 : decode cX0_correct 32 = .ok (.aload_n 0, 1) := by decide +kernel
theorem dX0_correct_33 : decode cX0_correct 33 = .ok (.getfield 39, 3) := by decide +kernel
theorem dX0_correct_36 : decode cX0_correct 36 = .ok (.i2l, 1) := by decide +kernel
theorem dX0_correct_37 : decode cX0_correct 37 = .ok (.lmul, 1) := by decide +kernel
theorem dX0_correct_38 : decode cX0_correct 38 = .ok (.lstore 4, 2) := by decide +kernel
theorem dX0_correct_40 : decode cX0_correct 40 = .ok (.lload_n 2, 1) := by decide +kernel
theorem dX0_correct_41 : decode cX0_correct 41 = .ok (.lload 4, 2) := by decide +kernel
theorem dX0_correct_43 : decode cX0_correct 43 = .ok (.lcmp, 1) := by decide +kernel
theorem dX0_correct_44 : decode cX0_correct 44 = .ok (.ifCond .ge 18, 3) := by decide +kernel
theorem dX0_correct_47 : decode cX0_correct 47 = .ok (.aload_n 0, 1) := by decide +kernel
theorem dX0_correct_48 : decode cX0_correct 48 = .ok (.iconst 1, 1) := by decide +kernel
theorem dX0_correct_49 : decode cX0_correct 49 = .ok (.iconst 0, 1) := by decide +kernel
theorem dX0_correct_50 : decode cX0_correct 50 = .ok (.invokevirtual 78, 3) := by decide +kernel
theorem dX0_correct_53 : decode cX0_correct 53 = .ok (.ifCond .eq 7, 3) := by decide +kernel
theorem dX0_correct_56 : decode cX0_correct 56 = .ok (.iconst 2, 1) := by decide +kernel
theorem dX0_correct_57 : decode cX0_correct 57 = .ok (.goto 4, 3) := by decide +kernel
theorem dX0_correct_60 : decode cX0_correct 60 = .ok (.iconst 1, 1) := by decide +kernel
theorem dX0_correct_61 : decode cX0_correct 61 = .ok (.ireturn, 1) := by decide +kernel
theorem dX0_correct_62 : decode cX0_correct 62 = .ok (.lload_n 2, 1) := by decide +kernel
theorem dX0_correct_63 : decode cX0_correct 63 = .ok (.lload 4, 2) := by decide +kernel
theorem dX0_correct_65 : decode cX0_correct 65 = .ok (.lcmp, 1) := by decide +kernel
theorem dX0_correct_66 : decode cX0_correct 66 = .ok (.ifCond .le 18, 3) := by decide +kernel
theorem dX0_correct_69 : decode cX0_correct 69 = .ok (.aload_n 0, 1) := by decide +kernel
theorem dX0_correct_70 : decode cX0_correct 70 = .ok (.iconst 0, 1) := by decide +kernel
theorem dX0_correct_71 : decode cX0_correct 71 = .ok (.iconst 1, 1) := by decide +kernel
theorem dX0_correct_72 : decode cX0_correct 72 = .ok (.invokevirtual 78, 3) := by decide +kernel
theorem dX0_correct_75 : decode cX0_correct 75 = .ok (.ifCond .eq 7, 3) := by decide +kernel
theorem dX0_correct_78 : decode cX0_correct 78 = .ok (.iconst 3, 1) := by decide +kernel
theorem dX0_correct_79 : decode cX0_correct 79 = .ok (.goto 4, 3) := by decide +kernel
theorem dX0_correct_82 : decode cX0_correct 82 = .ok (.iconst 1, 1) := by decide +kernel
theorem dX0_correct_83 : decode cX0_correct 83 = .ok (.ireturn, 1) := by decide +kernel
theorem dX0_correct_84 : decode cX0_correct 84 = .ok (.iconst 1, 1) := by decide +kernel
theorem dX0_correct_85 : decode cX0_correct 85 = .ok (.ireturn, 1) := by decide +kernel
theorem dX0_shift_0 : decode cX0_shift 0 = .ok (.aload_n 0, 1) := by decide +kernel
theorem dX0_shift_1 : decode cX0_shift 1 = .ok (.getfield 48, 3) := by decide +kernel
theorem dX0_shift_4 : decode cX0_shift 4 = .ok (.aload_n 0, 1) := by decide +kernel
theorem dX0_shift_5 : decode cX0_shift 5 = .ok (.getfield 16, 3) := by decide +kernel
theorem dX0_shift_8 : decode cX0_shift 8 = .ok (.iload_n 1, 1) := by decide +kernel
theorem dX0_shift_9 : decode cX0_shift 9 = .ok (.iaload, 1) := by decide +kernel
theorem dX0_shift_10 : decode cX0_shift 10 = .ok (.invokestatic 82, 3) := by decide +kernel
theorem dX0_shift_13 : decode cX0_shift 13 = .ok (.istore_n 3, 1) := by decide +kernel
theorem dX0_shift_14 : decode cX0_shift 14 = .ok (.aload_n 0, 1) := by decide +kernel
theorem dX0_shift_15 : decode cX0_shift 15 = .ok (.getfield 16, 3) := by decide +kernel
theorem dX0_shift_18 : decode cX0_shift 18 = .ok (.iload_n 1, 1) := by decide +kernel
theorem dX0_shift_19 : decode cX0_shift 19 = .ok (.dup2, 1) := by decide +kernel
theorem dX0_shift_20 : decode cX0_shift 20 = .ok (.iaload, 1) := by decide +kernel
theorem dX0_shift_21 : decode cX0_shift 21 = .ok (.iload_n 3, 1) := by decide +kernel
theorem dX0_shift_22 : decode cX0_shift 22 = .ok (.isub, 1) := by decide +kernel
theorem dX0_shift_23 : decode cX0_shift 23 = .ok (.iastore, 1) := by decide +kernel
theorem dX0_shift_24 : decode cX0_shift 24 = .ok (.aload_n 0, 1) := by decide +kernel
theorem dX0_shift_25 : decode cX0_shift 25 = .ok (.getfield 16, 3) := by decide +kernel
theorem dX0_shift_28 : decode cX0_shift 28 = .ok (.iload_n 2, 1) := by decide +kernel
theorem dX0_shift_29 : decode cX0_shift 29 = .ok (.dup2, 1) := by decide +kernel
theorem dX0_shift_30 : decode cX0_shift 30 = .ok (.iaload, 1) := by decide +kernel
theorem dX0_shift_31 : decode cX0_shift 31 = .ok (.iload_n 3, 1) := by decide +kernel
theorem dX0_shift_32 : decode cX0_shift 32 = .ok (.iadd, 1) := by decide +kernel
theorem dX0_shift_33 : decode cX0_shift 33 = .ok (.iastore, 1) := by decide +kernel
theorem dX0_shift_34 : decode cX0_shift 34 = .ok (.iload_n 3, 1) := by decide +kernel
theorem dX0_shift_35 : decode cX0_shift 35 = .ok (.ifCond .le 7, 3) := by decide +kernel
theorem dX0_shift_38 : decode cX0_shift 38 = .ok (.iconst 1, 1) := by decide +kernel
theorem dX0_shift_39 : decode cX0_shift 39 = .ok (.goto 4, 3) := by decide +kernel
theorem dX0_shift_42 : decode cX0_shift 42 = .ok (.iconst 0, 1) := by decide +kernel
theorem dX0_shift_43 : decode cX0_shift 43 = .ok (.ireturn, 1) := by decide +kernel
theorem dX0_foldInto_0 : decode cX0_foldInto 0 = .ok (.lload_n 1, 1) := by decide +kernel
theorem dX0_foldInto_1 : decode cX0_foldInto 1 = .ok (.lstore_n 3, 1) := by decide +kernel
theorem dX0_foldInto_2 : decode cX0_foldInto 2 = .ok (.iconst 0, 1) := by decide +kernel
theorem dX0_foldInto_3 : decode cX0_foldInto 3 = .ok (.istore 5, 2) := by decide +kernel
theorem dX0_foldInto_5 : decode cX0_foldInto 5 = .ok (.iload 5, 2) := by decide +kernel
theorem dX0_foldInto_7 : decode cX0_foldInto 7 = .ok (.iconst 4, 1) := by decide +kernel
theorem dX0_foldInto_8 : decode cX0_foldInto 8 = .ok (.if_icmp .ge 53, 3) := by decide +kernel
theorem dX0_foldInto_11 : decode cX0_foldInto 11 = .ok (.iconst 0, 1) := by decide +kernel
theorem dX0_foldInto_12 : decode cX0_foldInto 12 = .ok (.istore 6, 2) := by decide +kernel
theorem dX0_foldInto_14 : decode cX0_foldInto 14 = .ok (.iload 6, 2) := by decide +kernel
theorem dX0_foldInto_16 : decode cX0_foldInto 16 = .ok (.iconst 4, 1) := by decide +kernel
theorem dX0_foldInto_17 : decode cX0_foldInto 17 = .ok (.if_icmp .ge 25, 3) := by decide +kernel
theorem dX0_foldInto_20 : decode cX0_foldInto 20 = .ok (.lload_n 3, 1) := by decide +kernel
theorem dX0_foldInto_21 : decode cX0_foldInto 21 = .ok (.aload_n 0, 1) := by decide +kernel
theorem dX0_foldInto_22 : decode cX0_foldInto 22 = .ok (.getfield 11, 3) := by decide +kernel
theorem dX0_foldInto_25 : decode cX0_foldInto 25 = .ok (.iload 5, 2) := by decide +kernel
theorem dX0_foldInto_27 : decode cX0_foldInto 27 = .ok (.aaload, 1) := by decide +kernel
theorem dX0_foldInto_28 : decode cX0_foldInto 28 = .ok (.iload 6, 2) := by decide +kernel
theorem dX0_foldInto_30 : decode cX0_foldInto 30 = .ok (.iaload, 1) := by decide +kernel
theorem dX0_foldInto_31 : decode cX0_foldInto 31 = .ok (.i2l, 1) := by decide +kernel
theorem dX0_foldInto_32 : decode cX0_foldInto 32 = .ok (.invokestatic 88, 3) := by decide +kernel
theorem dX0_foldInto_35 : decode cX0_foldInto 35 = .ok (.lstore_n 3, 1) := by decide +kernel
theorem dX0_foldInto_36 : decode cX0_foldInto 36 = .ok (.iinc 6 1, 3) := by decide +kernel
theorem dX0_foldInto_39 : decode cX0_foldInto 39 = .ok (.goto (-25), 3) := by decide +kernel
theorem dX0_foldInto_42 : decode cX0_foldInto 42 = .ok (.lload_n 3, 1) := by decide +kernel
theorem dX0_foldInto_43 : decode cX0_foldInto 43 = .ok (.aload_n 0, 1) := by decide +kernel
theorem dX0_foldInto_44 : decode cX0_foldInto 44 = .ok (.getfield 16, 3) := by decide +kernel
theorem dX0_foldInto_47 : decode cX0_foldInto 47 = .ok (.iload 5, 2) := by decide +kernel
theorem dX0_foldInto_49 : decode cX0_foldInto 49 = .ok (.iaload, 1) := by decide +kernel
theorem dX0_foldInto_50 : decode cX0_foldInto 50 = .ok (.i2l, 1) := by decide +kernel
theorem dX0_foldInto_51 : decode cX0_foldInto 51 = .ok (.invokestatic 88, 3) := by decide +kernel
theorem dX0_foldInto_54 : decode cX0_foldInto 54 = .ok (.lstore_n 3, 1) := by decide +kernel
theorem dX0_foldInto_55 : decode cX0_foldInto 55 = .ok (.iinc 5 1, 3) := by decide +kernel
theorem dX0_foldInto_58 : decode cX0_foldInto 58 = .ok (.goto (-53), 3) := by decide +kernel
theorem dX0_foldInto_61 : decode cX0_foldInto 61 = .ok (.lload_n 3, 1) := by decide +kernel
theorem dX0_foldInto_62 : decode cX0_foldInto 62 = .ok (.lreturn, 1) := by decide +kernel
theorem dX1_init_0 : decode cX1_init 0 = .ok (.aload_n 0, 1) := by decide +kernel
theorem dX1_init_1 : decode cX1_init 1 = .ok (.invokespecial 3, 3) := by decide +kernel
theorem dX1_init_4 : decode cX1_init 4 = .ok (.aload_n 0, 1) := by decide +kernel
theorem dX1_init_5 : decode cX1_init 5 = .ok (.bipush 6, 2) := by decide +kernel
theorem dX1_init_7 : decode cX1_init 7 = .ok (.newarray .int, 2) := by decide +kernel
theorem dX1_init_9 : decode cX1_init 9 = .ok (.putfield 9, 3) := by decide +kernel
theorem dX1_init_12 : decode cX1_init 12 = .ok (.aload_n 0, 1) := by decide +kernel
theorem dX1_init_13 : decode cX1_init 13 = .ok (.iconst 0, 1) := by decide +kernel
theorem dX1_init_14 : decode cX1_init 14 = .ok (.putfield 15, 3) := by decide +kernel
theorem dX1_init_17 : decode cX1_init 17 = .ok (.return_, 1) := by decide +kernel
theorem dX1_answer_0 : decode cX1_answer 0 = .ok (.aload_n 0, 1) := by decide +kernel
theorem dX1_answer_1 : decode cX1_answer 1 = .ok (.iload_n 1, 1) := by decide +kernel
theorem dX1_answer_2 : decode cX1_answer 2 = .ok (.putfield 15, 3) := by decide +kernel
theorem dX1_answer_5 : decode cX1_answer 5 = .ok (.aload_n 0, 1) := by decide +kernel
theorem dX1_answer_6 : decode cX1_answer 6 = .ok (.getfield 9, 3) := by decide +kernel
theorem dX1_answer_9 : decode cX1_answer 9 = .ok (.iload_n 1, 1) := by decide +kernel
theorem dX1_answer_10 : decode cX1_answer 10 = .ok (.dup2, 1) := by decide +kernel
theorem dX1_answer_11 : decode cX1_answer 11 = .ok (.iaload, 1) := by decide +kernel
theorem dX1_answer_12 : decode cX1_answer 12 = .ok (.iconst 1, 1) := by decide +kernel
theorem dX1_answer_13 : decode cX1_answer 13 = .ok (.iadd, 1) := by decide +kernel
theorem dX1_answer_14 : decode cX1_answer 14 = .ok (.iastore, 1) := by decide +kernel
theorem dX1_answer_15 : decode cX1_answer 15 = .ok (.bipush (-3), 2) := by decide +kernel
theorem dX1_answer_17 : decode cX1_answer 17 = .ok (.ireturn, 1) := by decide +kernel
theorem dX1_latest_0 : decode cX1_latest 0 = .ok (.aload_n 0, 1) := by decide +kernel
theorem dX1_latest_1 : decode cX1_latest 1 = .ok (.getfield 15, 3) := by decide +kernel
theorem dX1_latest_4 : decode cX1_latest 4 = .ok (.ireturn, 1) := by decide +kernel
theorem dX1_times_0 : decode cX1_times 0 = .ok (.aload_n 0, 1) := by decide +kernel
theorem dX1_times_1 : decode cX1_times 1 = .ok (.getfield 9, 3) := by decide +kernel
theorem dX1_times_4 : decode cX1_times 4 = .ok (.iload_n 1, 1) := by decide +kernel
theorem dX1_times_5 : decode cX1_times 5 = .ok (.iaload, 1) := by decide +kernel
theorem dX1_times_6 : decode cX1_times 6 = .ok (.ireturn, 1) := by decide +kernel
theorem dX2_init_0 : decode cX2_init 0 = .ok (.aload_n 0, 1) := by decide +kernel
theorem dX2_init_1 : decode cX2_init 1 = .ok (.invokespecial 3, 3) := by decide +kernel
theorem dX2_init_4 : decode cX2_init 4 = .ok (.aload_n 0, 1) := by decide +kernel
theorem dX2_init_5 : decode cX2_init 5 = .ok (.bipush 10, 2) := by decide +kernel
theorem dX2_init_7 : decode cX2_init 7 = .ok (.newarray .int, 2) := by decide +kernel
theorem dX2_init_9 : decode cX2_init 9 = .ok (.putfield 9, 3) := by decide +kernel
theorem dX2_init_12 : decode cX2_init 12 = .ok (.aload_n 0, 1) := by decide +kernel
theorem dX2_init_13 : decode cX2_init 13 = .ok (.bipush 10, 2) := by decide +kernel
theorem dX2_init_15 : decode cX2_init 15 = .ok (.newarray .int, 2) := by decide +kernel
theorem dX2_init_17 : decode cX2_init 17 = .ok (.putfield 15, 3) := by decide +kernel
theorem dX2_init_20 : decode cX2_init 20 = .ok (.aload_n 0, 1) := by decide +kernel
theorem dX2_init_21 : decode cX2_init 21 = .ok (.bipush 10, 2) := by decide +kernel
theorem dX2_init_23 : decode cX2_init 23 = .ok (.newarray .boolean, 2) := by decide +kernel
theorem dX2_init_25 : decode cX2_init 25 = .ok (.putfield 18, 3) := by decide +kernel
theorem dX2_init_28 : decode cX2_init 28 = .ok (.aload_n 0, 1) := by decide +kernel
theorem dX2_init_29 : decode cX2_init 29 = .ok (.bipush 30, 2) := by decide +kernel
theorem dX2_init_31 : decode cX2_init 31 = .ok (.newarray .int, 2) := by decide +kernel
theorem dX2_init_33 : decode cX2_init 33 = .ok (.putfield 22, 3) := by decide +kernel
theorem dX2_init_36 : decode cX2_init 36 = .ok (.aload_n 0, 1) := by decide +kernel
theorem dX2_init_37 : decode cX2_init 37 = .ok (.iconst 0, 1) := by decide +kernel
theorem dX2_init_38 : decode cX2_init 38 = .ok (.putfield 25, 3) := by decide +kernel
theorem dX2_init_41 : decode cX2_init 41 = .ok (.return_, 1) := by decide +kernel
theorem dX2_strokes_0 : decode cX2_strokes 0 = .ok (.aload_n 0, 1) := by decide +kernel
theorem dX2_strokes_1 : decode cX2_strokes 1 = .ok (.getfield 25, 3) := by decide +kernel
theorem dX2_strokes_4 : decode cX2_strokes 4 = .ok (.ireturn, 1) := by decide +kernel
theorem dX2_isCut_0 : decode cX2_isCut 0 = .ok (.aload_n 0, 1) := by decide +kernel
theorem dX2_isCut_1 : decode cX2_isCut 1 = .ok (.getfield 18, 3) := by decide +kernel
theorem dX2_isCut_4 : decode cX2_isCut 4 = .ok (.iload_n 1, 1) := by decide +kernel
theorem dX2_isCut_5 : decode cX2_isCut 5 = .ok (.baload, 1) := by decide +kernel
theorem dX2_isCut_6 : decode cX2_isCut 6 = .ok (.ireturn, 1) := by decide +kernel
theorem dX2_tonsOn_0 : decode cX2_tonsOn 0 = .ok (.aload_n 0, 1) := by decide +kernel
theorem dX2_tonsOn_1 : decode cX2_tonsOn 1 = .ok (.getfield 9, 3) := by decide +kernel
theorem dX2_tonsOn_4 : decode cX2_tonsOn 4 = .ok (.iload_n 1, 1) := by decide +kernel
theorem dX2_tonsOn_5 : decode cX2_tonsOn 5 = .ok (.iaload, 1) := by decide +kernel
theorem dX2_tonsOn_6 : decode cX2_tonsOn 6 = .ok (.ireturn, 1) := by decide +kernel
theorem dX2_limeOn_0 : decode cX2_limeOn 0 = .ok (.aload_n 0, 1) := by decide +kernel
theorem dX2_limeOn_1 : decode cX2_limeOn 1 = .ok (.getfield 15, 3) := by decide +kernel
theorem dX2_limeOn_4 : decode cX2_limeOn 4 = .ok (.iload_n 1, 1) := by decide +kernel
theorem dX2_limeOn_5 : decode cX2_limeOn 5 = .ok (.iaload, 1) := by decide +kernel
theorem dX2_limeOn_6 : decode cX2_limeOn 6 = .ok (.ireturn, 1) := by decide +kernel
theorem dX2_spreadLaid_0 : decode cX2_spreadLaid 0 = .ok (.aload_n 0, 1) := by decide +kernel
theorem dX2_spreadLaid_1 : decode cX2_spreadLaid 1 = .ok (.getfield 22, 3) := by decide +kernel
theorem dX2_spreadLaid_4 : decode cX2_spreadLaid 4 = .ok (.iload_n 1, 1) := by decide +kernel
theorem dX2_spreadLaid_5 : decode cX2_spreadLaid 5 = .ok (.iaload, 1) := by decide +kernel
theorem dX2_spreadLaid_6 : decode cX2_spreadLaid 6 = .ok (.ireturn, 1) := by decide +kernel
theorem dX2_lay_0 : decode cX2_lay 0 = .ok (.aload_n 0, 1) := by decide +kernel
theorem dX2_lay_1 : decode cX2_lay 1 = .ok (.getfield 25, 3) := by decide +kernel
theorem dX2_lay_4 : decode cX2_lay 4 = .ok (.iconst 2, 1) := by decide +kernel
theorem dX2_lay_5 : decode cX2_lay 5 = .ok (.irem, 1) := by decide +kernel
theorem dX2_lay_6 : decode cX2_lay 6 = .ok (.iconst 1, 1) := by decide +kernel
theorem dX2_lay_7 : decode cX2_lay 7 = .ok (.if_icmp .ne 7, 3) := by decide +kernel
theorem dX2_lay_10 : decode cX2_lay 10 = .ok (.iconst 1, 1) := by decide +kernel
theorem dX2_lay_11 : decode cX2_lay 11 = .ok (.goto 4, 3) := by decide +kernel
theorem dX2_lay_14 : decode cX2_lay 14 = .ok (.iconst 0, 1) := by decide +kernel
theorem dX2_lay_15 : decode cX2_lay 15 = .ok (.istore 4, 2) := by decide +kernel
theorem dX2_lay_17 : decode cX2_lay 17 = .ok (.iconst 0, 1) := by decide +kernel
theorem dX2_lay_18 : decode cX2_lay 18 = .ok (.istore 5, 2) := by decide +kernel
theorem dX2_lay_20 : decode cX2_lay 20 = .ok (.iload 5, 2) := by decide +kernel
theorem dX2_lay_22 : decode cX2_lay 22 = .ok (.bipush 10, 2) := by decide +kernel
theorem dX2_lay_24 : decode cX2_lay 24 = .ok (.if_icmp .ge 59, 3) := by decide +kernel
theorem dX2_lay_27 : decode cX2_lay 27 = .ok (.aload_n 0, 1) := by decide +kernel
theorem dX2_lay_28 : decode cX2_lay 28 = .ok (.getfield 18, 3) := by decide +kernel
theorem dX2_lay_31 : decode cX2_lay 31 = .ok (.iload 5, 2) := by decide +kernel
theorem dX2_lay_33 : decode cX2_lay 33 = .ok (.baload, 1) := by decide +kernel
theorem dX2_lay_34 : decode cX2_lay 34 = .ok (.ifCond .ne 43, 3) := by decide +kernel
theorem dX2_lay_37 : decode cX2_lay 37 = .ok (.aload_n 0, 1) := by decide +kernel
theorem dX2_lay_38 : decode cX2_lay 38 = .ok (.getfield 9, 3) := by decide +kernel
theorem dX2_lay_41 : decode cX2_lay 41 = .ok (.iload 5, 2) := by decide +kernel
theorem dX2_lay_43 : decode cX2_lay 43 = .ok (.dup2, 1) := by decide +kernel
theorem dX2_lay_44 : decode cX2_lay 44 = .ok (.iaload, 1) := by decide +kernel
theorem dX2_lay_45 : decode cX2_lay 45 = .ok (.iload_n 1, 1) := by decide +kernel
theorem dX2_lay_46 : decode cX2_lay 46 = .ok (.iadd, 1) := by decide +kernel
theorem dX2_lay_47 : decode cX2_lay 47 = .ok (.iastore, 1) := by decide +kernel
theorem dX2_lay_48 : decode cX2_lay 48 = .ok (.aload_n 0, 1) := by decide +kernel
theorem dX2_lay_49 : decode cX2_lay 49 = .ok (.getfield 15, 3) := by decide +kernel
theorem dX2_lay_52 : decode cX2_lay 52 = .ok (.iload 5, 2) := by decide +kernel
theorem dX2_lay_54 : decode cX2_lay 54 = .ok (.dup2, 1) := by decide +kernel
theorem dX2_lay_55 : decode cX2_lay 55 = .ok (.iaload, 1) := by decide +kernel
theorem dX2_lay_56 : decode cX2_lay 56 = .ok (.iload_n 2, 1) := by decide +kernel
theorem dX2_lay_57 : decode cX2_lay 57 = .ok (.iload_n 3, 1) := by decide +kernel
theorem dX2_lay_58 : decode cX2_lay 58 = .ok (.iload 4, 2) := by decide +kernel
theorem dX2_lay_60 : decode cX2_lay 60 = .ok (.ifCond .eq 11, 3) := by decide +kernel
theorem dX2_lay_63 : decode cX2_lay 63 = .ok (.bipush 9, 2) := by decide +kernel
theorem dX2_lay_65 : decode cX2_lay 65 = .ok (.iload 5, 2) := by decide +kernel
theorem dX2_lay_67 : decode cX2_lay 67 = .ok (.isub, 1) := by decide +kernel
theorem dX2_lay_68 : decode cX2_lay 68 = .ok (.goto 5, 3) := by decide +kernel
theorem dX2_lay_71 : decode cX2_lay 71 = .ok (.iload 5, 2) := by decide +kernel
theorem dX2_lay_73 : decode cX2_lay 73 = .ok (.imul, 1) := by decide +kernel
theorem dX2_lay_74 : decode cX2_lay 74 = .ok (.iadd, 1) := by decide +kernel
theorem dX2_lay_75 : decode cX2_lay 75 = .ok (.iadd, 1) := by decide +kernel
theorem dX2_lay_76 : decode cX2_lay 76 = .ok (.iastore, 1) := by decide +kernel
theorem dX2_lay_77 : decode cX2_lay 77 = .ok (.iinc 5 1, 3) := by decide +kernel
theorem dX2_lay_80 : decode cX2_lay 80 = .ok (.goto (-60), 3) := by decide +kernel
theorem dX2_lay_83 : decode cX2_lay 83 = .ok (.aload_n 0, 1) := by decide +kernel
theorem dX2_lay_84 : decode cX2_lay 84 = .ok (.getfield 22, 3) := by decide +kernel
theorem dX2_lay_87 : decode cX2_lay 87 = .ok (.aload_n 0, 1) := by decide +kernel
theorem dX2_lay_88 : decode cX2_lay 88 = .ok (.getfield 25, 3) := by decide +kernel
theorem dX2_lay_91 : decode cX2_lay 91 = .ok (.iload_n 3, 1) := by decide +kernel
theorem dX2_lay_92 : decode cX2_lay 92 = .ok (.invokestatic 29, 3) := by decide +kernel
theorem dX2_lay_95 : decode cX2_lay 95 = .ok (.bipush 9, 2) := by decide +kernel
theorem dX2_lay_97 : decode cX2_lay 97 = .ok (.imul, 1) := by decide +kernel
theorem dX2_lay_98 : decode cX2_lay 98 = .ok (.iastore, 1) := by decide +kernel
theorem dX2_lay_99 : decode cX2_lay 99 = .ok (.aload_n 0, 1) := by decide +kernel
theorem dX2_lay_100 : decode cX2_lay 100 = .ok (.dup, 1) := by decide +kernel
theorem dX2_lay_101 : decode cX2_lay 101 = .ok (.getfield 25, 3) := by decide +kernel
theorem dX2_lay_104 : decode cX2_lay 104 = .ok (.iconst 1, 1) := by decide +kernel
theorem dX2_lay_105 : decode cX2_lay 105 = .ok (.iadd, 1) := by decide +kernel
theorem dX2_lay_106 : decode cX2_lay 106 = .ok (.putfield 25, 3) := by decide +kernel
theorem dX2_lay_109 : decode cX2_lay 109 = .ok (.aload_n 0, 1) := by decide +kernel
theorem dX2_lay_110 : decode cX2_lay 110 = .ok (.getfield 25, 3) := by decide +kernel
theorem dX2_lay_113 : decode cX2_lay 113 = .ok (.ireturn, 1) := by decide +kernel
theorem dX2_take_0 : decode cX2_take 0 = .ok (.aload_n 0, 1) := by decide +kernel
theorem dX2_take_1 : decode cX2_take 1 = .ok (.getfield 9, 3) := by decide +kernel
theorem dX2_take_4 : decode cX2_take 4 = .ok (.iload_n 1, 1) := by decide +kernel
theorem dX2_take_5 : decode cX2_take 5 = .ok (.iaload, 1) := by decide +kernel
theorem dX2_take_6 : decode cX2_take 6 = .ok (.istore_n 2, 1) := by decide +kernel
theorem dX2_take_7 : decode cX2_take 7 = .ok (.aload_n 0, 1) := by decide +kernel
theorem dX2_take_8 : decode cX2_take 8 = .ok (.getfield 9, 3) := by decide +kernel
theorem dX2_take_11 : decode cX2_take 11 = .ok (.iload_n 1, 1) := by decide +kernel
theorem dX2_take_12 : decode cX2_take 12 = .ok (.iconst 0, 1) := by decide +kernel
theorem dX2_take_13 : decode cX2_take 13 = .ok (.iastore, 1) := by decide +kernel
theorem dX2_take_14 : decode cX2_take 14 = .ok (.aload_n 0, 1) := by decide +kernel
theorem dX2_take_15 : decode cX2_take 15 = .ok (.getfield 15, 3) := by decide +kernel
theorem dX2_take_18 : decode cX2_take 18 = .ok (.iload_n 1, 1) := by decide +kernel
theorem dX2_take_19 : decode cX2_take 19 = .ok (.iconst 0, 1) := by decide +kernel
theorem dX2_take_20 : decode cX2_take 20 = .ok (.iastore, 1) := by decide +kernel
theorem dX2_take_21 : decode cX2_take 21 = .ok (.aload_n 0, 1) := by decide +kernel
theorem dX2_take_22 : decode cX2_take 22 = .ok (.getfield 18, 3) := by decide +kernel
theorem dX2_take_25 : decode cX2_take 25 = .ok (.iload_n 1, 1) := by decide +kernel
theorem dX2_take_26 : decode cX2_take 26 = .ok (.iconst 1, 1) := by decide +kernel
theorem dX2_take_27 : decode cX2_take 27 = .ok (.bastore, 1) := by decide +kernel
theorem dX2_take_28 : decode cX2_take 28 = .ok (.iload_n 2, 1) := by decide +kernel
theorem dX2_take_29 : decode cX2_take 29 = .ok (.ireturn, 1) := by decide +kernel
theorem dX2_spreadNow_0 : decode cX2_spreadNow 0 = .ok (.bipush (-9), 2) := by decide +kernel
theorem dX2_spreadNow_2 : decode cX2_spreadNow 2 = .ok (.istore_n 1, 1) := by decide +kernel
theorem dX2_spreadNow_3 : decode cX2_spreadNow 3 = .ok (.bipush (-9), 2) := by decide +kernel
theorem dX2_spreadNow_5 : decode cX2_spreadNow 5 = .ok (.istore_n 2, 1) := by decide +kernel
theorem dX2_spreadNow_6 : decode cX2_spreadNow 6 = .ok (.iconst 0, 1) := by decide +kernel
theorem dX2_spreadNow_7 : decode cX2_spreadNow 7 = .ok (.istore_n 3, 1) := by decide +kernel
theorem dX2_spreadNow_8 : decode cX2_spreadNow 8 = .ok (.iload_n 3, 1) := by decide +kernel
theorem dX2_spreadNow_9 : decode cX2_spreadNow 9 = .ok (.bipush 10, 2) := by decide +kernel
theorem dX2_spreadNow_11 : decode cX2_spreadNow 11 = .ok (.if_icmp .ge 55, 3) := by decide +kernel
theorem dX2_spreadNow_14 : decode cX2_spreadNow 14 = .ok (.aload_n 0, 1) := by decide +kernel
theorem dX2_spreadNow_15 : decode cX2_spreadNow 15 = .ok (.getfield 18, 3) := by decide +kernel
theorem dX2_spreadNow_18 : decode cX2_spreadNow 18 = .ok (.iload_n 3, 1) := by decide +kernel
theorem dX2_spreadNow_19 : decode cX2_spreadNow 19 = .ok (.baload, 1) := by decide +kernel
theorem dX2_spreadNow_20 : decode cX2_spreadNow 20 = .ok (.ifCond .ne 40, 3) := by decide +kernel
theorem dX2_spreadNow_23 : decode cX2_spreadNow 23 = .ok (.iload_n 1, 1) := by decide +kernel
theorem dX2_spreadNow_24 : decode cX2_spreadNow 24 = .ok (.bipush (-9), 2) := by decide +kernel
theorem dX2_spreadNow_26 : decode cX2_spreadNow 26 = .ok (.if_icmp .ne 12, 3) := by decide +kernel
theorem dX2_spreadNow_29 : decode cX2_spreadNow 29 = .ok (.aload_n 0, 1) := by decide +kernel
theorem dX2_spreadNow_30 : decode cX2_spreadNow 30 = .ok (.getfield 15, 3) := by decide +kernel
theorem dX2_spreadNow_33 : decode cX2_spreadNow 33 = .ok (.iload_n 3, 1) := by decide +kernel
theorem dX2_spreadNow_34 : decode cX2_spreadNow 34 = .ok (.iaload, 1) := by decide +kernel
theorem dX2_spreadNow_35 : decode cX2_spreadNow 35 = .ok (.goto 13, 3) := by decide +kernel
theorem dX2_spreadNow_38 : decode cX2_spreadNow 38 = .ok (.iload_n 1, 1) := by decide +kernel
theorem dX2_spreadNow_39 : decode cX2_spreadNow 39 = .ok (.aload_n 0, 1) := by decide +kernel
theorem dX2_spreadNow_40 : decode cX2_spreadNow 40 = .ok (.getfield 15, 3) := by decide +kernel
theorem dX2_spreadNow_43 : decode cX2_spreadNow 43 = .ok (.iload_n 3, 1) := by decide +kernel
theorem dX2_spreadNow_44 : decode cX2_spreadNow 44 = .ok (.iaload, 1) := by decide +kernel
theorem dX2_spreadNow_45 : decode cX2_spreadNow 45 = .ok (.invokestatic 35, 3) := by decide +kernel
theorem dX2_spreadNow_48 : decode cX2_spreadNow 48 = .ok (.istore_n 1, 1) := by decide +kernel
theorem dX2_spreadNow_49 : decode cX2_spreadNow 49 = .ok (.iload_n 2, 1) := by decide +kernel
theorem dX2_spreadNow_50 : decode cX2_spreadNow 50 = .ok (.aload_n 0, 1) := by decide +kernel
theorem dX2_spreadNow_51 : decode cX2_spreadNow 51 = .ok (.getfield 15, 3) := by decide +kernel
theorem dX2_spreadNow_54 : decode cX2_spreadNow 54 = .ok (.iload_n 3, 1) := by decide +kernel
theorem dX2_spreadNow_55 : decode cX2_spreadNow 55 = .ok (.iaload, 1) := by decide +kernel
theorem dX2_spreadNow_56 : decode cX2_spreadNow 56 = .ok (.invokestatic 39, 3) := by decide +kernel
theorem dX2_spreadNow_59 : decode cX2_spreadNow 59 = .ok (.istore_n 2, 1) := by decide +kernel
theorem dX2_spreadNow_60 : decode cX2_spreadNow 60 = .ok (.iinc 3 1, 3) := by decide +kernel
theorem dX2_spreadNow_63 : decode cX2_spreadNow 63 = .ok (.goto (-55), 3) := by decide +kernel
theorem dX2_spreadNow_66 : decode cX2_spreadNow 66 = .ok (.iload_n 1, 1) := by decide +kernel
theorem dX2_spreadNow_67 : decode cX2_spreadNow 67 = .ok (.bipush (-9), 2) := by decide +kernel
theorem dX2_spreadNow_69 : decode cX2_spreadNow 69 = .ok (.if_icmp .ne 8, 3) := by decide +kernel
theorem dX2_spreadNow_72 : decode cX2_spreadNow 72 = .ok (.bipush (-9), 2) := by decide +kernel
theorem dX2_spreadNow_74 : decode cX2_spreadNow 74 = .ok (.goto 6, 3) := by decide +kernel
theorem dX2_spreadNow_77 : decode cX2_spreadNow 77 = .ok (.iload_n 2, 1) := by decide +kernel
theorem dX2_spreadNow_78 : decode cX2_spreadNow 78 = .ok (.iload_n 1, 1) := by decide +kernel
theorem dX2_spreadNow_79 : decode cX2_spreadNow 79 = .ok (.isub, 1) := by decide +kernel
theorem dX2_spreadNow_80 : decode cX2_spreadNow 80 = .ok (.ireturn, 1) := by decide +kernel
theorem dX2_empty_0 : decode cX2_empty 0 = .ok (.aload_n 0, 1) := by decide +kernel
theorem dX2_empty_1 : decode cX2_empty 1 = .ok (.getfield 25, 3) := by decide +kernel
theorem dX2_empty_4 : decode cX2_empty 4 = .ok (.istore_n 1, 1) := by decide +kernel
theorem dX2_empty_5 : decode cX2_empty 5 = .ok (.iconst 0, 1) := by decide +kernel
theorem dX2_empty_6 : decode cX2_empty 6 = .ok (.istore_n 2, 1) := by decide +kernel
theorem dX2_empty_7 : decode cX2_empty 7 = .ok (.iload_n 2, 1) := by decide +kernel
theorem dX2_empty_8 : decode cX2_empty 8 = .ok (.bipush 10, 2) := by decide +kernel
theorem dX2_empty_10 : decode cX2_empty 10 = .ok (.if_icmp .ge 30, 3) := by decide +kernel
theorem dX2_empty_13 : decode cX2_empty 13 = .ok (.aload_n 0, 1) := by decide +kernel
theorem dX2_empty_14 : decode cX2_empty 14 = .ok (.getfield 9, 3) := by decide +kernel
theorem dX2_empty_17 : decode cX2_empty 17 = .ok (.iload_n 2, 1) := by decide +kernel
theorem dX2_empty_18 : decode cX2_empty 18 = .ok (.iconst 0, 1) := by decide +kernel
theorem dX2_empty_19 : decode cX2_empty 19 = .ok (.iastore, 1) := by decide +kernel
theorem dX2_empty_20 : decode cX2_empty 20 = .ok (.aload_n 0, 1) := by decide +kernel
theorem dX2_empty_21 : decode cX2_empty 21 = .ok (.getfield 15, 3) := by decide +kernel
theorem dX2_empty_24 : decode cX2_empty 24 = .ok (.iload_n 2, 1) := by decide +kernel
theorem dX2_empty_25 : decode cX2_empty 25 = .ok (.iconst 0, 1) := by decide +kernel
theorem dX2_empty_26 : decode cX2_empty 26 = .ok (.iastore, 1) := by decide +kernel
theorem dX2_empty_27 : decode cX2_empty 27 = .ok (.aload_n 0, 1) := by decide +kernel
theorem dX2_empty_28 : decode cX2_empty 28 = .ok (.getfield 18, 3) := by decide +kernel
theorem dX2_empty_31 : decode cX2_empty 31 = .ok (.iload_n 2, 1) := by decide +kernel
theorem dX2_empty_32 : decode cX2_empty 32 = .ok (.iconst 0, 1) := by decide +kernel
theorem dX2_empty_33 : decode cX2_empty 33 = .ok (.bastore, 1) := by decide +kernel
theorem dX2_empty_34 : decode cX2_empty 34 = .ok (.iinc 2 1, 3) := by decide +kernel
theorem dX2_empty_37 : decode cX2_empty 37 = .ok (.goto (-30), 3) := by decide +kernel
theorem dX2_empty_40 : decode cX2_empty 40 = .ok (.aload_n 0, 1) := by decide +kernel
theorem dX2_empty_41 : decode cX2_empty 41 = .ok (.iconst 0, 1) := by decide +kernel
theorem dX2_empty_42 : decode cX2_empty 42 = .ok (.putfield 25, 3) := by decide +kernel
theorem dX2_empty_45 : decode cX2_empty 45 = .ok (.iload_n 1, 1) := by decide +kernel
theorem dX2_empty_46 : decode cX2_empty 46 = .ok (.ireturn, 1) := by decide +kernel
theorem dX2_foldInto_0 : decode cX2_foldInto 0 = .ok (.lload_n 1, 1) := by decide +kernel
theorem dX2_foldInto_1 : decode cX2_foldInto 1 = .ok (.lstore_n 3, 1) := by decide +kernel
theorem dX2_foldInto_2 : decode cX2_foldInto 2 = .ok (.iconst 0, 1) := by decide +kernel
theorem dX2_foldInto_3 : decode cX2_foldInto 3 = .ok (.istore 5, 2) := by decide +kernel
theorem dX2_foldInto_5 : decode cX2_foldInto 5 = .ok (.iload 5, 2) := by decide +kernel
theorem dX2_foldInto_7 : decode cX2_foldInto 7 = .ok (.bipush 10, 2) := by decide +kernel
theorem dX2_foldInto_9 : decode cX2_foldInto 9 = .ok (.if_icmp .ge 55, 3) := by decide +kernel
theorem dX2_foldInto_12 : decode cX2_foldInto 12 = .ok (.lload_n 3, 1) := by decide +kernel
theorem dX2_foldInto_13 : decode cX2_foldInto 13 = .ok (.aload_n 0, 1) := by decide +kernel
theorem dX2_foldInto_14 : decode cX2_foldInto 14 = .ok (.getfield 9, 3) := by decide +kernel
theorem dX2_foldInto_17 : decode cX2_foldInto 17 = .ok (.iload 5, 2) := by decide +kernel
theorem dX2_foldInto_19 : decode cX2_foldInto 19 = .ok (.iaload, 1) := by decide +kernel
theorem dX2_foldInto_20 : decode cX2_foldInto 20 = .ok (.i2l, 1) := by decide +kernel
theorem dX2_foldInto_21 : decode cX2_foldInto 21 = .ok (.invokestatic 42, 3) := by decide +kernel
theorem dX2_foldInto_24 : decode cX2_foldInto 24 = .ok (.lstore_n 3, 1) := by decide +kernel
theorem dX2_foldInto_25 : decode cX2_foldInto 25 = .ok (.lload_n 3, 1) := by decide +kernel
theorem dX2_foldInto_26 : decode cX2_foldInto 26 = .ok (.aload_n 0, 1) := by decide +kernel
theorem dX2_foldInto_27 : decode cX2_foldInto 27 = .ok (.getfield 15, 3) := by decide +kernel
theorem dX2_foldInto_30 : decode cX2_foldInto 30 = .ok (.iload 5, 2) := by decide +kernel
theorem dX2_foldInto_32 : decode cX2_foldInto 32 = .ok (.iaload, 1) := by decide +kernel
theorem dX2_foldInto_33 : decode cX2_foldInto 33 = .ok (.i2l, 1) := by decide +kernel
theorem dX2_foldInto_34 : decode cX2_foldInto 34 = .ok (.invokestatic 42, 3) := by decide +kernel
theorem dX2_foldInto_37 : decode cX2_foldInto 37 = .ok (.lstore_n 3, 1) := by decide +kernel
theorem dX2_foldInto_38 : decode cX2_foldInto 38 = .ok (.lload_n 3, 1) := by decide +kernel
theorem dX2_foldInto_39 : decode cX2_foldInto 39 = .ok (.aload_n 0, 1) := by decide +kernel
theorem dX2_foldInto_40 : decode cX2_foldInto 40 = .ok (.getfield 18, 3) := by decide +kernel
theorem dX2_foldInto_43 : decode cX2_foldInto 43 = .ok (.iload 5, 2) := by decide +kernel
theorem dX2_foldInto_45 : decode cX2_foldInto 45 = .ok (.baload, 1) := by decide +kernel
theorem dX2_foldInto_46 : decode cX2_foldInto 46 = .ok (.ifCond .eq 7, 3) := by decide +kernel
theorem dX2_foldInto_49 : decode cX2_foldInto 49 = .ok (.lconst 1, 1) := by decide +kernel
theorem dX2_foldInto_50 : decode cX2_foldInto 50 = .ok (.goto 4, 3) := by decide +kernel
theorem dX2_foldInto_53 : decode cX2_foldInto 53 = .ok (.lconst 0, 1) := by decide +kernel
theorem dX2_foldInto_54 : decode cX2_foldInto 54 = .ok (.invokestatic 42, 3) := by decide +kernel
theorem dX2_foldInto_57 : decode cX2_foldInto 57 = .ok (.lstore_n 3, 1) := by decide +kernel
theorem dX2_foldInto_58 : decode cX2_foldInto 58 = .ok (.iinc 5 1, 3) := by decide +kernel
theorem dX2_foldInto_61 : decode cX2_foldInto 61 = .ok (.goto (-56), 3) := by decide +kernel
theorem dX2_foldInto_64 : decode cX2_foldInto 64 = .ok (.lload_n 3, 1) := by decide +kernel
theorem dX2_foldInto_65 : decode cX2_foldInto 65 = .ok (.lreturn, 1) := by decide +kernel
theorem dX3_init_0 : decode cX3_init 0 = .ok (.aload_n 0, 1) := by decide +kernel
theorem dX3_init_1 : decode cX3_init 1 = .ok (.invokespecial 3, 3) := by decide +kernel
theorem dX3_init_4 : decode cX3_init 4 = .ok (.aload_n 0, 1) := by decide +kernel
theorem dX3_init_5 : decode cX3_init 5 = .ok (.iconst 4, 1) := by decide +kernel
theorem dX3_init_6 : decode cX3_init 6 = .ok (.newarray .int, 2) := by decide +kernel
theorem dX3_init_8 : decode cX3_init 8 = .ok (.putfield 9, 3) := by decide +kernel
theorem dX3_init_11 : decode cX3_init 11 = .ok (.aload_n 0, 1) := by decide +kernel
theorem dX3_init_12 : decode cX3_init 12 = .ok (.iconst 4, 1) := by decide +kernel
theorem dX3_init_13 : decode cX3_init 13 = .ok (.newarray .int, 2) := by decide +kernel
theorem dX3_init_15 : decode cX3_init 15 = .ok (.putfield 15, 3) := by decide +kernel
theorem dX3_init_18 : decode cX3_init 18 = .ok (.aload_n 0, 1) := by decide +kernel
theorem dX3_init_19 : decode cX3_init 19 = .ok (.iconst 4, 1) := by decide +kernel
theorem dX3_init_20 : decode cX3_init 20 = .ok (.newarray .int, 2) := by decide +kernel
theorem dX3_init_22 : decode cX3_init 22 = .ok (.putfield 18, 3) := by decide +kernel
theorem dX3_init_25 : decode cX3_init 25 = .ok (.aload_n 0, 1) := by decide +kernel
theorem dX3_init_26 : decode cX3_init 26 = .ok (.iconst 4, 1) := by decide +kernel
theorem dX3_init_27 : decode cX3_init 27 = .ok (.newarray .int, 2) := by decide +kernel
theorem dX3_init_29 : decode cX3_init 29 = .ok (.putfield 21, 3) := by decide +kernel
theorem dX3_init_32 : decode cX3_init 32 = .ok (.aload_n 0, 1) := by decide +kernel
theorem dX3_init_33 : decode cX3_init 33 = .ok (.bipush 7, 2) := by decide +kernel
theorem dX3_init_35 : decode cX3_init 35 = .ok (.newarray .int, 2) := by decide +kernel
theorem dX3_init_37 : decode cX3_init 37 = .ok (.putfield 24, 3) := by decide +kernel
theorem dX3_init_40 : decode cX3_init 40 = .ok (.aload_n 0, 1) := by decide +kernel
theorem dX3_init_41 : decode cX3_init 41 = .ok (.iconst 5, 1) := by decide +kernel
theorem dX3_init_42 : decode cX3_init 42 = .ok (.newarray .long, 2) := by decide +kernel
theorem dX3_init_44 : decode cX3_init 44 = .ok (.putfield 27, 3) := by decide +kernel
theorem dX3_init_47 : decode cX3_init 47 = .ok (.aload_n 0, 1) := by decide +kernel
theorem dX3_init_48 : decode cX3_init 48 = .ok (.iconst 0, 1) := by decide +kernel
theorem dX3_init_49 : decode cX3_init 49 = .ok (.putfield 31, 3) := by decide +kernel
theorem dX3_init_52 : decode cX3_init 52 = .ok (.aload_n 0, 1) := by decide +kernel
theorem dX3_init_53 : decode cX3_init 53 = .ok (.bipush (-9), 2) := by decide +kernel
theorem dX3_init_55 : decode cX3_init 55 = .ok (.putfield 35, 3) := by decide +kernel
theorem dX3_init_58 : decode cX3_init 58 = .ok (.aload_n 0, 1) := by decide +kernel
theorem dX3_init_59 : decode cX3_init 59 = .ok (.iconst 0, 1) := by decide +kernel
theorem dX3_init_60 : decode cX3_init 60 = .ok (.putfield 38, 3) := by decide +kernel
theorem dX3_init_63 : decode cX3_init 63 = .ok (.return_, 1) := by decide +kernel
theorem dX3_steps_0 : decode cX3_steps 0 = .ok (.aload_n 0, 1) := by decide +kernel
theorem dX3_steps_1 : decode cX3_steps 1 = .ok (.getfield 31, 3) := by decide +kernel
theorem dX3_steps_4 : decode cX3_steps 4 = .ok (.ireturn, 1) := by decide +kernel
theorem dX3_isStopped_0 : decode cX3_isStopped 0 = .ok (.aload_n 0, 1) := by decide +kernel
theorem dX3_isStopped_1 : decode cX3_isStopped 1 = .ok (.getfield 38, 3) := by decide +kernel
theorem dX3_isStopped_4 : decode cX3_isStopped 4 = .ok (.ireturn, 1) := by decide +kernel
theorem dX3_firstCaused_0 : decode cX3_firstCaused 0 = .ok (.aload_n 0, 1) := by decide +kernel
theorem dX3_firstCaused_1 : decode cX3_firstCaused 1 = .ok (.getfield 35, 3) := by decide +kernel
theorem dX3_firstCaused_4 : decode cX3_firstCaused 4 = .ok (.ireturn, 1) := by decide +kernel
theorem dX3_kindOf_0 : decode cX3_kindOf 0 = .ok (.getstatic 42, 3) := by decide +kernel
theorem dX3_kindOf_3 : decode cX3_kindOf 3 = .ok (.iload_n 1, 1) := by decide +kernel
theorem dX3_kindOf_4 : decode cX3_kindOf 4 = .ok (.iaload, 1) := by decide +kernel
theorem dX3_kindOf_5 : decode cX3_kindOf 5 = .ok (.ireturn, 1) := by decide +kernel
theorem dX3_stuffIn_0 : decode cX3_stuffIn 0 = .ok (.aload_n 0, 1) := by decide +kernel
theorem dX3_stuffIn_1 : decode cX3_stuffIn 1 = .ok (.getfield 9, 3) := by decide +kernel
theorem dX3_stuffIn_4 : decode cX3_stuffIn 4 = .ok (.iload_n 1, 1) := by decide +kernel
theorem dX3_stuffIn_5 : decode cX3_stuffIn 5 = .ok (.iaload, 1) := by decide +kernel
theorem dX3_stuffIn_6 : decode cX3_stuffIn 6 = .ok (.ireturn, 1) := by decide +kernel
theorem dX3_heatIn_0 : decode cX3_heatIn 0 = .ok (.aload_n 0, 1) := by decide +kernel
theorem dX3_heatIn_1 : decode cX3_heatIn 1 = .ok (.getfield 15, 3) := by decide +kernel
theorem dX3_heatIn_4 : decode cX3_heatIn 4 = .ok (.iload_n 1, 1) := by decide +kernel
theorem dX3_heatIn_5 : decode cX3_heatIn 5 = .ok (.iaload, 1) := by decide +kernel
theorem dX3_heatIn_6 : decode cX3_heatIn 6 = .ok (.ireturn, 1) := by decide +kernel
theorem dX3_latest_0 : decode cX3_latest 0 = .ok (.aload_n 0, 1) := by decide +kernel
theorem dX3_latest_1 : decode cX3_latest 1 = .ok (.getfield 24, 3) := by decide +kernel
theorem dX3_latest_4 : decode cX3_latest 4 = .ok (.iload_n 1, 1) := by decide +kernel
theorem dX3_latest_5 : decode cX3_latest 5 = .ok (.iaload, 1) := by decide +kernel
theorem dX3_latest_6 : decode cX3_latest 6 = .ok (.ireturn, 1) := by decide +kernel
theorem dX3_inAll_0 : decode cX3_inAll 0 = .ok (.aload_n 0, 1) := by decide +kernel
theorem dX3_inAll_1 : decode cX3_inAll 1 = .ok (.getfield 27, 3) := by decide +kernel
theorem dX3_inAll_4 : decode cX3_inAll 4 = .ok (.iload_n 1, 1) := by decide +kernel
theorem dX3_inAll_5 : decode cX3_inAll 5 = .ok (.laload, 1) := by decide +kernel
theorem dX3_inAll_6 : decode cX3_inAll 6 = .ok (.lreturn, 1) := by decide +kernel
theorem dX3_restart_0 : decode cX3_restart 0 = .ok (.aload_n 0, 1) := by decide +kernel
theorem dX3_restart_1 : decode cX3_restart 1 = .ok (.getfield 38, 3) := by decide +kernel
theorem dX3_restart_4 : decode cX3_restart 4 = .ok (.ifCond .ne 5, 3) := by decide +kernel
theorem dX3_restart_7 : decode cX3_restart 7 = .ok (.iconst 0, 1) := by decide +kernel
theorem dX3_restart_8 : decode cX3_restart 8 = .ok (.ireturn, 1) := by decide +kernel
theorem dX3_restart_9 : decode cX3_restart 9 = .ok (.aload_n 0, 1) := by decide +kernel
theorem dX3_restart_10 : decode cX3_restart 10 = .ok (.iconst 0, 1) := by decide +kernel
theorem dX3_restart_11 : decode cX3_restart 11 = .ok (.putfield 38, 3) := by decide +kernel
theorem dX3_restart_14 : decode cX3_restart 14 = .ok (.aload_n 0, 1) := by decide +kernel
theorem dX3_restart_15 : decode cX3_restart 15 = .ok (.bipush (-9), 2) := by decide +kernel
theorem dX3_restart_17 : decode cX3_restart 17 = .ok (.putfield 35, 3) := by decide +kernel
theorem dX3_restart_20 : decode cX3_restart 20 = .ok (.iconst 1, 1) := by decide +kernel
theorem dX3_restart_21 : decode cX3_restart 21 = .ok (.ireturn, 1) := by decide +kernel
theorem dX3_burn_0 : decode cX3_burn 0 = .ok (.aload_n 0, 1) := by decide +kernel
theorem dX3_burn_1 : decode cX3_burn 1 = .ok (.getfield 38, 3) := by decide +kernel
theorem dX3_burn_4 : decode cX3_burn 4 = .ok (.ifCond .eq 7, 3) := by decide +kernel
theorem dX3_burn_7 : decode cX3_burn 7 = .ok (.iconst 0, 1) := by decide +kernel
theorem dX3_burn_8 : decode cX3_burn 8 = .ok (.goto 4, 3) := by decide +kernel
theorem dX3_burn_11 : decode cX3_burn 11 = .ok (.iload_n 2, 1) := by decide +kernel
theorem dX3_burn_12 : decode cX3_burn 12 = .ok (.istore 4, 2) := by decide +kernel
theorem dX3_burn_14 : decode cX3_burn 14 = .ok (.aload_n 0, 1) := by decide +kernel
theorem dX3_burn_15 : decode cX3_burn 15 = .ok (.getfield 24, 3) := by decide +kernel
theorem dX3_burn_18 : decode cX3_burn 18 = .ok (.bipush 6, 2) := by decide +kernel
theorem dX3_burn_20 : decode cX3_burn 20 = .ok (.aload_n 0, 1) := by decide +kernel
theorem dX3_burn_21 : decode cX3_burn 21 = .ok (.iload 4, 2) := by decide +kernel
theorem dX3_burn_23 : decode cX3_burn 23 = .ok (.invokevirtual 45, 3) := by decide +kernel
theorem dX3_burn_26 : decode cX3_burn 26 = .ok (.iastore, 1) := by decide +kernel
theorem dX3_burn_27 : decode cX3_burn 27 = .ok (.aload_n 0, 1) := by decide +kernel
theorem dX3_burn_28 : decode cX3_burn 28 = .ok (.iload_n 3, 1) := by decide +kernel
theorem dX3_burn_29 : decode cX3_burn 29 = .ok (.invokevirtual 49, 3) := by decide +kernel
theorem dX3_burn_32 : decode cX3_burn 32 = .ok (.aload_n 0, 1) := by decide +kernel
theorem dX3_burn_33 : decode cX3_burn 33 = .ok (.getfield 9, 3) := by decide +kernel
theorem dX3_burn_36 : decode cX3_burn 36 = .ok (.iconst 0, 1) := by decide +kernel
theorem dX3_burn_37 : decode cX3_burn 37 = .ok (.dup2, 1) := by decide +kernel
theorem dX3_burn_38 : decode cX3_burn 38 = .ok (.iaload, 1) := by decide +kernel
theorem dX3_burn_39 : decode cX3_burn 39 = .ok (.iload_n 1, 1) := by decide +kernel
theorem dX3_burn_40 : decode cX3_burn 40 = .ok (.iadd, 1) := by decide +kernel
theorem dX3_burn_41 : decode cX3_burn 41 = .ok (.iastore, 1) := by decide +kernel
theorem dX3_burn_42 : decode cX3_burn 42 = .ok (.aload_n 0, 1) := by decide +kernel
theorem dX3_burn_43 : decode cX3_burn 43 = .ok (.invokevirtual 53, 3) := by decide +kernel
theorem dX3_burn_46 : decode cX3_burn 46 = .ok (.aload_n 0, 1) := by decide +kernel
theorem dX3_burn_47 : decode cX3_burn 47 = .ok (.iload 4, 2) := by decide +kernel
theorem dX3_burn_49 : decode cX3_burn 49 = .ok (.invokevirtual 56, 3) := by decide +kernel
theorem dX3_burn_52 : decode cX3_burn 52 = .ok (.aload_n 0, 1) := by decide +kernel
theorem dX3_burn_53 : decode cX3_burn 53 = .ok (.iload_n 1, 1) := by decide +kernel
theorem dX3_burn_54 : decode cX3_burn 54 = .ok (.iload 4, 2) := by decide +kernel
theorem dX3_burn_56 : decode cX3_burn 56 = .ok (.invokevirtual 59, 3) := by decide +kernel
theorem dX3_burn_59 : decode cX3_burn 59 = .ok (.aload_n 0, 1) := by decide +kernel
theorem dX3_burn_60 : decode cX3_burn 60 = .ok (.getfield 24, 3) := by decide +kernel
theorem dX3_burn_63 : decode cX3_burn 63 = .ok (.iconst 4, 1) := by decide +kernel
theorem dX3_burn_64 : decode cX3_burn 64 = .ok (.iaload, 1) := by decide +kernel
theorem dX3_burn_65 : decode cX3_burn 65 = .ok (.ifCond .eq 20, 3) := by decide +kernel
theorem dX3_burn_68 : decode cX3_burn 68 = .ok (.aload_n 0, 1) := by decide +kernel
theorem dX3_burn_69 : decode cX3_burn 69 = .ok (.getfield 35, 3) := by decide +kernel
theorem dX3_burn_72 : decode cX3_burn 72 = .ok (.bipush (-9), 2) := by decide +kernel
theorem dX3_burn_74 : decode cX3_burn 74 = .ok (.if_icmp .ne 11, 3) := by decide +kernel
theorem dX3_burn_77 : decode cX3_burn 77 = .ok (.aload_n 0, 1) := by decide +kernel
theorem dX3_burn_78 : decode cX3_burn 78 = .ok (.aload_n 0, 1) := by decide +kernel
theorem dX3_burn_79 : decode cX3_burn 79 = .ok (.getfield 31, 3) := by decide +kernel
theorem dX3_burn_82 : decode cX3_burn 82 = .ok (.putfield 35, 3) := by decide +kernel
theorem dX3_burn_85 : decode cX3_burn 85 = .ok (.aload_n 0, 1) := by decide +kernel
theorem dX3_burn_86 : decode cX3_burn 86 = .ok (.dup, 1) := by decide +kernel
theorem dX3_burn_87 : decode cX3_burn 87 = .ok (.getfield 31, 3) := by decide +kernel
theorem dX3_burn_90 : decode cX3_burn 90 = .ok (.iconst 1, 1) := by decide +kernel
theorem dX3_burn_91 : decode cX3_burn 91 = .ok (.iadd, 1) := by decide +kernel
theorem dX3_burn_92 : decode cX3_burn 92 = .ok (.putfield 31, 3) := by decide +kernel
theorem dX3_burn_95 : decode cX3_burn 95 = .ok (.aload_n 0, 1) := by decide +kernel
theorem dX3_burn_96 : decode cX3_burn 96 = .ok (.getfield 24, 3) := by decide +kernel
theorem dX3_burn_99 : decode cX3_burn 99 = .ok (.iconst 4, 1) := by decide +kernel
theorem dX3_burn_100 : decode cX3_burn 100 = .ok (.iaload, 1) := by decide +kernel
theorem dX3_burn_101 : decode cX3_burn 101 = .ok (.ireturn, 1) := by decide +kernel
theorem dX3_passGas_0 : decode cX3_passGas 0 = .ok (.iload_n 1, 1) := by decide +kernel
theorem dX3_passGas_1 : decode cX3_passGas 1 = .ok (.istore_n 2, 1) := by decide +kernel
theorem dX3_passGas_2 : decode cX3_passGas 2 = .ok (.iconst 0, 1) := by decide +kernel
theorem dX3_passGas_3 : decode cX3_passGas 3 = .ok (.istore_n 3, 1) := by decide +kernel
theorem dX3_passGas_4 : decode cX3_passGas 4 = .ok (.iload_n 3, 1) := by decide +kernel
theorem dX3_passGas_5 : decode cX3_passGas 5 = .ok (.iconst 4, 1) := by decide +kernel
theorem dX3_passGas_6 : decode cX3_passGas 6 = .ok (.if_icmp .ge 45, 3) := by decide +kernel
theorem dX3_passGas_9 : decode cX3_passGas 9 = .ok (.getstatic 42, 3) := by decide +kernel
theorem dX3_passGas_12 : decode cX3_passGas 12 = .ok (.iload_n 3, 1) := by decide +kernel
theorem dX3_passGas_13 : decode cX3_passGas 13 = .ok (.iaload, 1) := by decide +kernel
theorem dX3_passGas_14 : decode cX3_passGas 14 = .ok (.iconst 2, 1) := by decide +kernel
theorem dX3_passGas_15 : decode cX3_passGas 15 = .ok (.if_icmp .ne 30, 3) := by decide +kernel
theorem dX3_passGas_18 : decode cX3_passGas 18 = .ok (.aload_n 0, 1) := by decide +kernel
theorem dX3_passGas_19 : decode cX3_passGas 19 = .ok (.getfield 15, 3) := by decide +kernel
theorem dX3_passGas_22 : decode cX3_passGas 22 = .ok (.iload_n 3, 1) := by decide +kernel
theorem dX3_passGas_23 : decode cX3_passGas 23 = .ok (.iaload, 1) := by decide +kernel
theorem dX3_passGas_24 : decode cX3_passGas 24 = .ok (.bipush 10, 2) := by decide +kernel
theorem dX3_passGas_26 : decode cX3_passGas 26 = .ok (.idiv, 1) := by decide +kernel
theorem dX3_passGas_27 : decode cX3_passGas 27 = .ok (.istore 4, 2) := by decide +kernel
theorem dX3_passGas_29 : decode cX3_passGas 29 = .ok (.aload_n 0, 1) := by decide +kernel
theorem dX3_passGas_30 : decode cX3_passGas 30 = .ok (.getfield 15, 3) := by decide +kernel
theorem dX3_passGas_33 : decode cX3_passGas 33 = .ok (.iload_n 3, 1) := by decide +kernel
theorem dX3_passGas_34 : decode cX3_passGas 34 = .ok (.dup2, 1) := by decide +kernel
theorem dX3_passGas_35 : decode cX3_passGas 35 = .ok (.iaload, 1) := by decide +kernel
theorem dX3_passGas_36 : decode cX3_passGas 36 = .ok (.iload 4, 2) := by decide +kernel
theorem dX3_passGas_38 : decode cX3_passGas 38 = .ok (.isub, 1) := by decide +kernel
theorem dX3_passGas_39 : decode cX3_passGas 39 = .ok (.iastore, 1) := by decide +kernel
theorem dX3_passGas_40 : decode cX3_passGas 40 = .ok (.iload_n 2, 1) := by decide +kernel
theorem dX3_passGas_41 : decode cX3_passGas 41 = .ok (.iload 4, 2) := by decide +kernel
theorem dX3_passGas_43 : decode cX3_passGas 43 = .ok (.iadd, 1) := by decide +kernel
theorem dX3_passGas_44 : decode cX3_passGas 44 = .ok (.istore_n 2, 1) := by decide +kernel
theorem dX3_passGas_45 : decode cX3_passGas 45 = .ok (.iinc 3 1, 3) := by decide +kernel
theorem dX3_passGas_48 : decode cX3_passGas 48 = .ok (.goto (-44), 3) := by decide +kernel
theorem dX3_passGas_51 : decode cX3_passGas 51 = .ok (.iconst 2, 1) := by decide +kernel
theorem dX3_passGas_52 : decode cX3_passGas 52 = .ok (.istore_n 3, 1) := by decide +kernel
theorem dX3_passGas_53 : decode cX3_passGas 53 = .ok (.iload_n 3, 1) := by decide +kernel
theorem dX3_passGas_54 : decode cX3_passGas 54 = .ok (.ifCond .lt 45, 3) := by decide +kernel
theorem dX3_passGas_57 : decode cX3_passGas 57 = .ok (.getstatic 42, 3) := by decide +kernel
theorem dX3_passGas_60 : decode cX3_passGas 60 = .ok (.iload_n 3, 1) := by decide +kernel
theorem dX3_passGas_61 : decode cX3_passGas 61 = .ok (.iaload, 1) := by decide +kernel
theorem dX3_passGas_62 : decode cX3_passGas 62 = .ok (.iconst 1, 1) := by decide +kernel
theorem dX3_passGas_63 : decode cX3_passGas 63 = .ok (.if_icmp .ne 9, 3) := by decide +kernel
theorem dX3_passGas_66 : decode cX3_passGas 66 = .ok (.iload_n 2, 1) := by decide +kernel
theorem dX3_passGas_67 : decode cX3_passGas 67 = .ok (.iconst 2, 1) := by decide +kernel
theorem dX3_passGas_68 : decode cX3_passGas 68 = .ok (.idiv, 1) := by decide +kernel
theorem dX3_passGas_69 : decode cX3_passGas 69 = .ok (.goto 6, 3) := by decide +kernel
theorem dX3_passGas_72 : decode cX3_passGas 72 = .ok (.iload_n 2, 1) := by decide +kernel
theorem dX3_passGas_73 : decode cX3_passGas 73 = .ok (.iconst 4, 1) := by decide +kernel
theorem dX3_passGas_74 : decode cX3_passGas 74 = .ok (.idiv, 1) := by decide +kernel
theorem dX3_passGas_75 : decode cX3_passGas 75 = .ok (.istore 4, 2) := by decide +kernel
theorem dX3_passGas_77 : decode cX3_passGas 77 = .ok (.aload_n 0, 1) := by decide +kernel
theorem dX3_passGas_78 : decode cX3_passGas 78 = .ok (.getfield 15, 3) := by decide +kernel
theorem dX3_passGas_81 : decode cX3_passGas 81 = .ok (.iload_n 3, 1) := by decide +kernel
theorem dX3_passGas_82 : decode cX3_passGas 82 = .ok (.dup2, 1) := by decide +kernel
theorem dX3_passGas_83 : decode cX3_passGas 83 = .ok (.iaload, 1) := by decide +kernel
theorem dX3_passGas_84 : decode cX3_passGas 84 = .ok (.iload 4, 2) := by decide +kernel
theorem dX3_passGas_86 : decode cX3_passGas 86 = .ok (.iadd, 1) := by decide +kernel
theorem dX3_passGas_87 : decode cX3_passGas 87 = .ok (.iastore, 1) := by decide +kernel
theorem dX3_passGas_88 : decode cX3_passGas 88 = .ok (.iload_n 2, 1) := by decide +kernel
theorem dX3_passGas_89 : decode cX3_passGas 89 = .ok (.iload 4, 2) := by decide +kernel
theorem dX3_passGas_91 : decode cX3_passGas 91 = .ok (.isub, 1) := by decide +kernel
theorem dX3_passGas_92 : decode cX3_passGas 92 = .ok (.istore_n 2, 1) := by decide +kernel
theorem dX3_passGas_93 : decode cX3_passGas 93 = .ok (.iinc 3 (-1), 3) := by decide +kernel
theorem dX3_passGas_96 : decode cX3_passGas 96 = .ok (.goto (-43), 3) := by decide +kernel
theorem dX3_passGas_99 : decode cX3_passGas 99 = .ok (.iload_n 2, 1) := by decide +kernel
theorem dX3_passGas_100 : decode cX3_passGas 100 = .ok (.ireturn, 1) := by decide +kernel
theorem dX3_handOn_0 : decode cX3_handOn 0 = .ok (.iconst 0, 1) := by decide +kernel
theorem dX3_handOn_1 : decode cX3_handOn 1 = .ok (.istore_n 2, 1) := by decide +kernel
theorem dX3_handOn_2 : decode cX3_handOn 2 = .ok (.iload_n 2, 1) := by decide +kernel
theorem dX3_handOn_3 : decode cX3_handOn 3 = .ok (.iconst 4, 1) := by decide +kernel
theorem dX3_handOn_4 : decode cX3_handOn 4 = .ok (.if_icmp .ge 73, 3) := by decide +kernel
theorem dX3_handOn_7 : decode cX3_handOn 7 = .ok (.aload_n 0, 1) := by decide +kernel
theorem dX3_handOn_8 : decode cX3_handOn 8 = .ok (.getfield 18, 3) := by decide +kernel
theorem dX3_handOn_11 : decode cX3_handOn 11 = .ok (.iload_n 2, 1) := by decide +kernel
theorem dX3_handOn_12 : decode cX3_handOn 12 = .ok (.aload_n 0, 1) := by decide +kernel
theorem dX3_handOn_13 : decode cX3_handOn 13 = .ok (.getfield 9, 3) := by decide +kernel
theorem dX3_handOn_16 : decode cX3_handOn 16 = .ok (.iload_n 2, 1) := by decide +kernel
theorem dX3_handOn_17 : decode cX3_handOn 17 = .ok (.iaload, 1) := by decide +kernel
theorem dX3_handOn_18 : decode cX3_handOn 18 = .ok (.i2l, 1) := by decide +kernel
theorem dX3_handOn_19 : decode cX3_handOn 19 = .ok (.iload_n 1, 1) := by decide +kernel
theorem dX3_handOn_20 : decode cX3_handOn 20 = .ok (.i2l, 1) := by decide +kernel
theorem dX3_handOn_21 : decode cX3_handOn 21 = .ok (.lmul, 1) := by decide +kernel
theorem dX3_handOn_22 : decode cX3_handOn 22 = .ok (.ldc2_w 63, 3) := by decide +kernel
theorem dX3_handOn_25 : decode cX3_handOn 25 = .ok (.ldiv, 1) := by decide +kernel
theorem dX3_handOn_26 : decode cX3_handOn 26 = .ok (.l2i, 1) := by decide +kernel
theorem dX3_handOn_27 : decode cX3_handOn 27 = .ok (.iastore, 1) := by decide +kernel
theorem dX3_handOn_28 : decode cX3_handOn 28 = .ok (.aload_n 0, 1) := by decide +kernel
theorem dX3_handOn_29 : decode cX3_handOn 29 = .ok (.getfield 21, 3) := by decide +kernel
theorem dX3_handOn_32 : decode cX3_handOn 32 = .ok (.iload_n 2, 1) := by decide +kernel
theorem dX3_handOn_33 : decode cX3_handOn 33 = .ok (.aload_n 0, 1) := by decide +kernel
theorem dX3_handOn_34 : decode cX3_handOn 34 = .ok (.getfield 9, 3) := by decide +kernel
theorem dX3_handOn_37 : decode cX3_handOn 37 = .ok (.iload_n 2, 1) := by decide +kernel
theorem dX3_handOn_38 : decode cX3_handOn 38 = .ok (.iaload, 1) := by decide +kernel
theorem dX3_handOn_39 : decode cX3_handOn 39 = .ok (.ifCond .ne 7, 3) := by decide +kernel
theorem dX3_handOn_42 : decode cX3_handOn 42 = .ok (.iconst 0, 1) := by decide +kernel
theorem dX3_handOn_43 : decode cX3_handOn 43 = .ok (.goto 27, 3) := by decide +kernel
theorem dX3_handOn_46 : decode cX3_handOn 46 = .ok (.aload_n 0, 1) := by decide +kernel
theorem dX3_handOn_47 : decode cX3_handOn 47 = .ok (.getfield 15, 3) := by decide +kernel
theorem dX3_handOn_50 : decode cX3_handOn 50 = .ok (.iload_n 2, 1) := by decide +kernel
theorem dX3_handOn_51 : decode cX3_handOn 51 = .ok (.iaload, 1) := by decide +kernel
theorem dX3_handOn_52 : decode cX3_handOn 52 = .ok (.i2l, 1) := by decide +kernel
theorem dX3_handOn_53 : decode cX3_handOn 53 = .ok (.aload_n 0, 1) := by decide +kernel
theorem dX3_handOn_54 : decode cX3_handOn 54 = .ok (.getfield 18, 3) := by decide +kernel
theorem dX3_handOn_57 : decode cX3_handOn 57 = .ok (.iload_n 2, 1) := by decide +kernel
theorem dX3_handOn_58 : decode cX3_handOn 58 = .ok (.iaload, 1) := by decide +kernel
theorem dX3_handOn_59 : decode cX3_handOn 59 = .ok (.i2l, 1) := by decide +kernel
theorem dX3_handOn_60 : decode cX3_handOn 60 = .ok (.lmul, 1) := by decide +kernel
theorem dX3_handOn_61 : decode cX3_handOn 61 = .ok (.aload_n 0, 1) := by decide +kernel
theorem dX3_handOn_62 : decode cX3_handOn 62 = .ok (.getfield 9, 3) := by decide +kernel
theorem dX3_handOn_65 : decode cX3_handOn 65 = .ok (.iload_n 2, 1) := by decide +kernel
theorem dX3_handOn_66 : decode cX3_handOn 66 = .ok (.iaload, 1) := by decide +kernel
theorem dX3_handOn_67 : decode cX3_handOn 67 = .ok (.i2l, 1) := by decide +kernel
theorem dX3_handOn_68 : decode cX3_handOn 68 = .ok (.ldiv, 1) := by decide +kernel
theorem dX3_handOn_69 : decode cX3_handOn 69 = .ok (.l2i, 1) := by decide +kernel
theorem dX3_handOn_70 : decode cX3_handOn 70 = .ok (.iastore, 1) := by decide +kernel
theorem dX3_handOn_71 : decode cX3_handOn 71 = .ok (.iinc 2 1, 3) := by decide +kernel
theorem dX3_handOn_74 : decode cX3_handOn 74 = .ok (.goto (-72), 3) := by decide +kernel
theorem dX3_handOn_77 : decode cX3_handOn 77 = .ok (.iconst 0, 1) := by decide +kernel
theorem dX3_handOn_78 : decode cX3_handOn 78 = .ok (.istore_n 2, 1) := by decide +kernel
theorem dX3_handOn_79 : decode cX3_handOn 79 = .ok (.iload_n 2, 1) := by decide +kernel
theorem dX3_handOn_80 : decode cX3_handOn 80 = .ok (.iconst 4, 1) := by decide +kernel
theorem dX3_handOn_81 : decode cX3_handOn 81 = .ok (.if_icmp .ge 77, 3) := by decide +kernel
theorem dX3_handOn_84 : decode cX3_handOn 84 = .ok (.aload_n 0, 1) := by decide +kernel
theorem dX3_handOn_85 : decode cX3_handOn 85 = .ok (.getfield 9, 3) := by decide +kernel
theorem dX3_handOn_88 : decode cX3_handOn 88 = .ok (.iload_n 2, 1) := by decide +kernel
theorem dX3_handOn_89 : decode cX3_handOn 89 = .ok (.dup2, 1) := by decide +kernel
theorem dX3_handOn_90 : decode cX3_handOn 90 = .ok (.iaload, 1) := by decide +kernel
theorem dX3_handOn_91 : decode cX3_handOn 91 = .ok (.aload_n 0, 1) := by decide +kernel
theorem dX3_handOn_92 : decode cX3_handOn 92 = .ok (.getfield 18, 3) := by decide +kernel
theorem dX3_handOn_95 : decode cX3_handOn 95 = .ok (.iload_n 2, 1) := by decide +kernel
theorem dX3_handOn_96 : decode cX3_handOn 96 = .ok (.iaload, 1) := by decide +kernel
theorem dX3_handOn_97 : decode cX3_handOn 97 = .ok (.isub, 1) := by decide +kernel
theorem dX3_handOn_98 : decode cX3_handOn 98 = .ok (.iastore, 1) := by decide +kernel
theorem dX3_handOn_99 : decode cX3_handOn 99 = .ok (.aload_n 0, 1) := by decide +kernel
theorem dX3_handOn_100 : decode cX3_handOn 100 = .ok (.getfield 15, 3) := by decide +kernel
theorem dX3_handOn_103 : decode cX3_handOn 103 = .ok (.iload_n 2, 1) := by decide +kernel
theorem dX3_handOn_104 : decode cX3_handOn 104 = .ok (.dup2, 1) := by decide +kernel
theorem dX3_handOn_105 : decode cX3_handOn 105 = .ok (.iaload, 1) := by decide +kernel
theorem dX3_handOn_106 : decode cX3_handOn 106 = .ok (.aload_n 0, 1) := by decide +kernel
theorem dX3_handOn_107 : decode cX3_handOn 107 = .ok (.getfield 21, 3) := by decide +kernel
theorem dX3_handOn_110 : decode cX3_handOn 110 = .ok (.iload_n 2, 1) := by decide +kernel
theorem dX3_handOn_111 : decode cX3_handOn 111 = .ok (.iaload, 1) := by decide +kernel
theorem dX3_handOn_112 : decode cX3_handOn 112 = .ok (.isub, 1) := by decide +kernel
theorem dX3_handOn_113 : decode cX3_handOn 113 = .ok (.iastore, 1) := by decide +kernel
theorem dX3_handOn_114 : decode cX3_handOn 114 = .ok (.iload_n 2, 1) := by decide +kernel
theorem dX3_handOn_115 : decode cX3_handOn 115 = .ok (.ifCond .le 37, 3) := by decide +kernel
theorem dX3_handOn_118 : decode cX3_handOn 118 = .ok (.aload_n 0, 1) := by decide +kernel
theorem dX3_handOn_119 : decode cX3_handOn 119 = .ok (.getfield 9, 3) := by decide +kernel
theorem dX3_handOn_122 : decode cX3_handOn 122 = .ok (.iload_n 2, 1) := by decide +kernel
theorem dX3_handOn_123 : decode cX3_handOn 123 = .ok (.dup2, 1) := by decide +kernel
theorem dX3_handOn_124 : decode cX3_handOn 124 = .ok (.iaload, 1) := by decide +kernel
theorem dX3_handOn_125 : decode cX3_handOn 125 = .ok (.aload_n 0, 1) := by decide +kernel
theorem dX3_handOn_126 : decode cX3_handOn 126 = .ok (.getfield 18, 3) := by decide +kernel
theorem dX3_handOn_129 : decode cX3_handOn 129 = .ok (.iload_n 2, 1) := by decide +kernel
theorem dX3_handOn_130 : decode cX3_handOn 130 = .ok (.iconst 1, 1) := by decide +kernel
theorem dX3_handOn_131 : decode cX3_handOn 131 = .ok (.isub, 1) := by decide +kernel
theorem dX3_handOn_132 : decode cX3_handOn 132 = .ok (.iaload, 1) := by decide +kernel
theorem dX3_handOn_133 : decode cX3_handOn 133 = .ok (.iadd, 1) := by decide +kernel
theorem dX3_handOn_134 : decode cX3_handOn 134 = .ok (.iastore, 1) := by decide +kernel
theorem dX3_handOn_135 : decode cX3_handOn 135 = .ok (.aload_n 0, 1) := by decide +kernel
theorem dX3_handOn_136 : decode cX3_handOn 136 = .ok (.getfield 15, 3) := by decide +kernel
theorem dX3_handOn_139 : decode cX3_handOn 139 = .ok (.iload_n 2, 1) := by decide +kernel
theorem dX3_handOn_140 : decode cX3_handOn 140 = .ok (.dup2, 1) := by decide +kernel
theorem dX3_handOn_141 : decode cX3_handOn 141 = .ok (.iaload, 1) := by decide +kernel
theorem dX3_handOn_142 : decode cX3_handOn 142 = .ok (.aload_n 0, 1) := by decide +kernel
theorem dX3_handOn_143 : decode cX3_handOn 143 = .ok (.getfield 21, 3) := by decide +kernel
theorem dX3_handOn_146 : decode cX3_handOn 146 = .ok (.iload_n 2, 1) := by decide +kernel
theorem dX3_handOn_147 : decode cX3_handOn 147 = .ok (.iconst 1, 1) := by decide +kernel
theorem dX3_handOn_148 : decode cX3_handOn 148 = .ok (.isub, 1) := by decide +kernel
theorem dX3_handOn_149 : decode cX3_handOn 149 = .ok (.iaload, 1) := by decide +kernel
theorem dX3_handOn_150 : decode cX3_handOn 150 = .ok (.iadd, 1) := by decide +kernel
theorem dX3_handOn_151 : decode cX3_handOn 151 = .ok (.iastore, 1) := by decide +kernel
theorem dX3_handOn_152 : decode cX3_handOn 152 = .ok (.iinc 2 1, 3) := by decide +kernel
theorem dX3_handOn_155 : decode cX3_handOn 155 = .ok (.goto (-76), 3) := by decide +kernel
theorem dX3_handOn_158 : decode cX3_handOn 158 = .ok (.return_, 1) := by decide +kernel
theorem dX3_tellOut_0 : decode cX3_tellOut 0 = .ok (.aload_n 0, 1) := by decide +kernel
theorem dX3_tellOut_1 : decode cX3_tellOut 1 = .ok (.getfield 18, 3) := by decide +kernel
theorem dX3_tellOut_4 : decode cX3_tellOut 4 = .ok (.iconst 3, 1) := by decide +kernel
theorem dX3_tellOut_5 : decode cX3_tellOut 5 = .ok (.iaload, 1) := by decide +kernel
theorem dX3_tellOut_6 : decode cX3_tellOut 6 = .ok (.istore_n 1, 1) := by decide +kernel
theorem dX3_tellOut_7 : decode cX3_tellOut 7 = .ok (.iload_n 1, 1) := by decide +kernel
theorem dX3_tellOut_8 : decode cX3_tellOut 8 = .ok (.ifCond .ne 7, 3) := by decide +kernel
theorem dX3_tellOut_11 : decode cX3_tellOut 11 = .ok (.iconst 0, 1) := by decide +kernel
theorem dX3_tellOut_12 : decode cX3_tellOut 12 = .ok (.goto 11, 3) := by decide +kernel
theorem dX3_tellOut_15 : decode cX3_tellOut 15 = .ok (.aload_n 0, 1) := by decide +kernel
theorem dX3_tellOut_16 : decode cX3_tellOut 16 = .ok (.getfield 21, 3) := by decide +kernel
theorem dX3_tellOut_19 : decode cX3_tellOut 19 = .ok (.iconst 3, 1) := by decide +kernel
theorem dX3_tellOut_20 : decode cX3_tellOut 20 = .ok (.iaload, 1) := by decide +kernel
theorem dX3_tellOut_21 : decode cX3_tellOut 21 = .ok (.iload_n 1, 1) := by decide +kernel
theorem dX3_tellOut_22 : decode cX3_tellOut 22 = .ok (.idiv, 1) := by decide +kernel
theorem dX3_tellOut_23 : decode cX3_tellOut 23 = .ok (.istore_n 2, 1) := by decide +kernel
theorem dX3_tellOut_24 : decode cX3_tellOut 24 = .ok (.aload_n 0, 1) := by decide +kernel
theorem dX3_tellOut_25 : decode cX3_tellOut 25 = .ok (.getfield 24, 3) := by decide +kernel
theorem dX3_tellOut_28 : decode cX3_tellOut 28 = .ok (.iconst 0, 1) := by decide +kernel
theorem dX3_tellOut_29 : decode cX3_tellOut 29 = .ok (.iload_n 1, 1) := by decide +kernel
theorem dX3_tellOut_30 : decode cX3_tellOut 30 = .ok (.iastore, 1) := by decide +kernel
theorem dX3_tellOut_31 : decode cX3_tellOut 31 = .ok (.aload_n 0, 1) := by decide +kernel
theorem dX3_tellOut_32 : decode cX3_tellOut 32 = .ok (.getfield 24, 3) := by decide +kernel
theorem dX3_tellOut_35 : decode cX3_tellOut 35 = .ok (.iconst 1, 1) := by decide +kernel
theorem dX3_tellOut_36 : decode cX3_tellOut 36 = .ok (.aload_n 0, 1) := by decide +kernel
theorem dX3_tellOut_37 : decode cX3_tellOut 37 = .ok (.getfield 21, 3) := by decide +kernel
theorem dX3_tellOut_40 : decode cX3_tellOut 40 = .ok (.iconst 3, 1) := by decide +kernel
theorem dX3_tellOut_41 : decode cX3_tellOut 41 = .ok (.iaload, 1) := by decide +kernel
theorem dX3_tellOut_42 : decode cX3_tellOut 42 = .ok (.iastore, 1) := by decide +kernel
theorem dX3_tellOut_43 : decode cX3_tellOut 43 = .ok (.aload_n 0, 1) := by decide +kernel
theorem dX3_tellOut_44 : decode cX3_tellOut 44 = .ok (.getfield 24, 3) := by decide +kernel
theorem dX3_tellOut_47 : decode cX3_tellOut 47 = .ok (.iconst 2, 1) := by decide +kernel
theorem dX3_tellOut_48 : decode cX3_tellOut 48 = .ok (.iload_n 2, 1) := by decide +kernel
theorem dX3_tellOut_49 : decode cX3_tellOut 49 = .ok (.iastore, 1) := by decide +kernel
theorem dX3_tellOut_50 : decode cX3_tellOut 50 = .ok (.aload_n 0, 1) := by decide +kernel
theorem dX3_tellOut_51 : decode cX3_tellOut 51 = .ok (.getfield 24, 3) := by decide +kernel
theorem dX3_tellOut_54 : decode cX3_tellOut 54 = .ok (.iconst 3, 1) := by decide +kernel
theorem dX3_tellOut_55 : decode cX3_tellOut 55 = .ok (.iload_n 2, 1) := by decide +kernel
theorem dX3_tellOut_56 : decode cX3_tellOut 56 = .ok (.bipush 60, 2) := by decide +kernel
theorem dX3_tellOut_58 : decode cX3_tellOut 58 = .ok (.if_icmp .lt 7, 3) := by decide +kernel
theorem dX3_tellOut_61 : decode cX3_tellOut 61 = .ok (.iconst 2, 1) := by decide +kernel
theorem dX3_tellOut_62 : decode cX3_tellOut 62 = .ok (.goto 14, 3) := by decide +kernel
theorem dX3_tellOut_65 : decode cX3_tellOut 65 = .ok (.iload_n 2, 1) := by decide +kernel
theorem dX3_tellOut_66 : decode cX3_tellOut 66 = .ok (.bipush 30, 2) := by decide +kernel
theorem dX3_tellOut_68 : decode cX3_tellOut 68 = .ok (.if_icmp .lt 7, 3) := by decide +kernel
theorem dX3_tellOut_71 : decode cX3_tellOut 71 = .ok (.iconst 1, 1) := by decide +kernel
theorem dX3_tellOut_72 : decode cX3_tellOut 72 = .ok (.goto 4, 3) := by decide +kernel
theorem dX3_tellOut_75 : decode cX3_tellOut 75 = .ok (.iconst 0, 1) := by decide +kernel
theorem dX3_tellOut_76 : decode cX3_tellOut 76 = .ok (.iastore, 1) := by decide +kernel
theorem dX3_tellOut_77 : decode cX3_tellOut 77 = .ok (.return_, 1) := by decide +kernel
theorem dX3_findCause_0 : decode cX3_findCause 0 = .ok (.aload_n 0, 1) := by decide +kernel
theorem dX3_findCause_1 : decode cX3_findCause 1 = .ok (.invokevirtual 65, 3) := by decide +kernel
theorem dX3_findCause_4 : decode cX3_findCause 4 = .ok (.istore_n 2, 1) := by decide +kernel
theorem dX3_findCause_5 : decode cX3_findCause 5 = .ok (.aload_n 0, 1) := by decide +kernel
theorem dX3_findCause_6 : decode cX3_findCause 6 = .ok (.invokevirtual 69, 3) := by decide +kernel
theorem dX3_findCause_9 : decode cX3_findCause 9 = .ok (.istore_n 3, 1) := by decide +kernel
theorem dX3_findCause_10 : decode cX3_findCause 10 = .ok (.iload_n 2, 1) := by decide +kernel
theorem dX3_findCause_11 : decode cX3_findCause 11 = .ok (.bipush (-9), 2) := by decide +kernel
theorem dX3_findCause_13 : decode cX3_findCause 13 = .ok (.if_icmp .eq 12, 3) := by decide +kernel
theorem dX3_findCause_16 : decode cX3_findCause 16 = .ok (.aload_n 0, 1) := by decide +kernel
theorem dX3_findCause_17 : decode cX3_findCause 17 = .ok (.iconst 1, 1) := by decide +kernel
theorem dX3_findCause_18 : decode cX3_findCause 18 = .ok (.iload_n 2, 1) := by decide +kernel
theorem dX3_findCause_19 : decode cX3_findCause 19 = .ok (.invokevirtual 72, 3) := by decide +kernel
theorem dX3_findCause_22 : decode cX3_findCause 22 = .ok (.goto 74, 3) := by decide +kernel
theorem dX3_findCause_25 : decode cX3_findCause 25 = .ok (.iload_n 3, 1) := by decide +kernel
theorem dX3_findCause_26 : decode cX3_findCause 26 = .ok (.bipush (-9), 2) := by decide +kernel
theorem dX3_findCause_28 : decode cX3_findCause 28 = .ok (.if_icmp .eq 12, 3) := by decide +kernel
theorem dX3_findCause_31 : decode cX3_findCause 31 = .ok (.aload_n 0, 1) := by decide +kernel
theorem dX3_findCause_32 : decode cX3_findCause 32 = .ok (.iconst 2, 1) := by decide +kernel
theorem dX3_findCause_33 : decode cX3_findCause 33 = .ok (.iload_n 3, 1) := by decide +kernel
theorem dX3_findCause_34 : decode cX3_findCause 34 = .ok (.invokevirtual 72, 3) := by decide +kernel
theorem dX3_findCause_37 : decode cX3_findCause 37 = .ok (.goto 59, 3) := by decide +kernel
theorem dX3_findCause_40 : decode cX3_findCause 40 = .ok (.aload_n 0, 1) := by decide +kernel
theorem dX3_findCause_41 : decode cX3_findCause 41 = .ok (.getfield 24, 3) := by decide +kernel
theorem dX3_findCause_44 : decode cX3_findCause 44 = .ok (.iconst 0, 1) := by decide +kernel
theorem dX3_findCause_45 : decode cX3_findCause 45 = .ok (.iaload, 1) := by decide +kernel
theorem dX3_findCause_46 : decode cX3_findCause 46 = .ok (.ifCond .le 21, 3) := by decide +kernel
theorem dX3_findCause_49 : decode cX3_findCause 49 = .ok (.aload_n 0, 1) := by decide +kernel
theorem dX3_findCause_50 : decode cX3_findCause 50 = .ok (.getfield 24, 3) := by decide +kernel
theorem dX3_findCause_53 : decode cX3_findCause 53 = .ok (.iconst 3, 1) := by decide +kernel
theorem dX3_findCause_54 : decode cX3_findCause 54 = .ok (.iaload, 1) := by decide +kernel
theorem dX3_findCause_55 : decode cX3_findCause 55 = .ok (.ifCond .ne 12, 3) := by decide +kernel
theorem dX3_findCause_58 : decode cX3_findCause 58 = .ok (.aload_n 0, 1) := by decide +kernel
theorem dX3_findCause_59 : decode cX3_findCause 59 = .ok (.iconst 3, 1) := by decide +kernel
theorem dX3_findCause_60 : decode cX3_findCause 60 = .ok (.iconst 3, 1) := by decide +kernel
theorem dX3_findCause_61 : decode cX3_findCause 61 = .ok (.invokevirtual 72, 3) := by decide +kernel
theorem dX3_findCause_64 : decode cX3_findCause 64 = .ok (.goto 32, 3) := by decide +kernel
theorem dX3_findCause_67 : decode cX3_findCause 67 = .ok (.iload_n 1, 1) := by decide +kernel
theorem dX3_findCause_68 : decode cX3_findCause 68 = .ok (.ifCond .le 21, 3) := by decide +kernel
theorem dX3_findCause_71 : decode cX3_findCause 71 = .ok (.aload_n 0, 1) := by decide +kernel
theorem dX3_findCause_72 : decode cX3_findCause 72 = .ok (.getfield 9, 3) := by decide +kernel
theorem dX3_findCause_75 : decode cX3_findCause 75 = .ok (.iconst 2, 1) := by decide +kernel
theorem dX3_findCause_76 : decode cX3_findCause 76 = .ok (.iaload, 1) := by decide +kernel
theorem dX3_findCause_77 : decode cX3_findCause 77 = .ok (.ifCond .ne 12, 3) := by decide +kernel
theorem dX3_findCause_80 : decode cX3_findCause 80 = .ok (.aload_n 0, 1) := by decide +kernel
theorem dX3_findCause_81 : decode cX3_findCause 81 = .ok (.iconst 4, 1) := by decide +kernel
theorem dX3_findCause_82 : decode cX3_findCause 82 = .ok (.iconst 2, 1) := by decide +kernel
theorem dX3_findCause_83 : decode cX3_findCause 83 = .ok (.invokevirtual 72, 3) := by decide +kernel
theorem dX3_findCause_86 : decode cX3_findCause 86 = .ok (.goto 10, 3) := by decide +kernel
theorem dX3_findCause_89 : decode cX3_findCause 89 = .ok (.aload_n 0, 1) := by decide +kernel
theorem dX3_findCause_90 : decode cX3_findCause 90 = .ok (.iconst 0, 1) := by decide +kernel
theorem dX3_findCause_91 : decode cX3_findCause 91 = .ok (.bipush (-9), 2) := by decide +kernel
theorem dX3_findCause_93 : decode cX3_findCause 93 = .ok (.invokevirtual 72, 3) := by decide +kernel
theorem dX3_findCause_96 : decode cX3_findCause 96 = .ok (.iload_n 2, 1) := by decide +kernel
theorem dX3_findCause_97 : decode cX3_findCause 97 = .ok (.bipush (-9), 2) := by decide +kernel
theorem dX3_findCause_99 : decode cX3_findCause 99 = .ok (.if_icmp .ne 9, 3) := by decide +kernel
theorem dX3_findCause_102 : decode cX3_findCause 102 = .ok (.iload_n 3, 1) := by decide +kernel
theorem dX3_findCause_103 : decode cX3_findCause 103 = .ok (.bipush (-9), 2) := by decide +kernel
theorem dX3_findCause_105 : decode cX3_findCause 105 = .ok (.if_icmp .eq 8, 3) := by decide +kernel
theorem dX3_findCause_108 : decode cX3_findCause 108 = .ok (.aload_n 0, 1) := by decide +kernel
theorem dX3_findCause_109 : decode cX3_findCause 109 = .ok (.iconst 1, 1) := by decide +kernel
theorem dX3_findCause_110 : decode cX3_findCause 110 = .ok (.putfield 38, 3) := by decide +kernel
theorem dX3_findCause_113 : decode cX3_findCause 113 = .ok (.return_, 1) := by decide +kernel
theorem dX3_setCause_0 : decode cX3_setCause 0 = .ok (.aload_n 0, 1) := by decide +kernel
theorem dX3_setCause_1 : decode cX3_setCause 1 = .ok (.getfield 24, 3) := by decide +kernel
theorem dX3_setCause_4 : decode cX3_setCause 4 = .ok (.iconst 4, 1) := by decide +kernel
theorem dX3_setCause_5 : decode cX3_setCause 5 = .ok (.iload_n 1, 1) := by decide +kernel
theorem dX3_setCause_6 : decode cX3_setCause 6 = .ok (.iastore, 1) := by decide +kernel
theorem dX3_setCause_7 : decode cX3_setCause 7 = .ok (.aload_n 0, 1) := by decide +kernel
theorem dX3_setCause_8 : decode cX3_setCause 8 = .ok (.getfield 24, 3) := by decide +kernel
theorem dX3_setCause_11 : decode cX3_setCause 11 = .ok (.iconst 5, 1) := by decide +kernel
theorem dX3_setCause_12 : decode cX3_setCause 12 = .ok (.iload_n 2, 1) := by decide +kernel
theorem dX3_setCause_13 : decode cX3_setCause 13 = .ok (.iastore, 1) := by decide +kernel
theorem dX3_setCause_14 : decode cX3_setCause 14 = .ok (.return_, 1) := by decide +kernel
theorem dX3_leastTooHot_0 : decode cX3_leastTooHot 0 = .ok (.iconst 0, 1) := by decide +kernel
theorem dX3_leastTooHot_1 : decode cX3_leastTooHot 1 = .ok (.istore_n 1, 1) := by decide +kernel
theorem dX3_leastTooHot_2 : decode cX3_leastTooHot 2 = .ok (.iload_n 1, 1) := by decide +kernel
theorem dX3_leastTooHot_3 : decode cX3_leastTooHot 3 = .ok (.iconst 4, 1) := by decide +kernel
theorem dX3_leastTooHot_4 : decode cX3_leastTooHot 4 = .ok (.if_icmp .ge 42, 3) := by decide +kernel
theorem dX3_leastTooHot_7 : decode cX3_leastTooHot 7 = .ok (.aload_n 0, 1) := by decide +kernel
theorem dX3_leastTooHot_8 : decode cX3_leastTooHot 8 = .ok (.getfield 9, 3) := by decide +kernel
theorem dX3_leastTooHot_11 : decode cX3_leastTooHot 11 = .ok (.iload_n 1, 1) := by decide +kernel
theorem dX3_leastTooHot_12 : decode cX3_leastTooHot 12 = .ok (.iaload, 1) := by decide +kernel
theorem dX3_leastTooHot_13 : decode cX3_leastTooHot 13 = .ok (.ifCond .le 27, 3) := by decide +kernel
theorem dX3_leastTooHot_16 : decode cX3_leastTooHot 16 = .ok (.aload_n 0, 1) := by decide +kernel
theorem dX3_leastTooHot_17 : decode cX3_leastTooHot 17 = .ok (.getfield 15, 3) := by decide +kernel
theorem dX3_leastTooHot_20 : decode cX3_leastTooHot 20 = .ok (.iload_n 1, 1) := by decide +kernel
theorem dX3_leastTooHot_21 : decode cX3_leastTooHot 21 = .ok (.iaload, 1) := by decide +kernel
theorem dX3_leastTooHot_22 : decode cX3_leastTooHot 22 = .ok (.i2l, 1) := by decide +kernel
theorem dX3_leastTooHot_23 : decode cX3_leastTooHot 23 = .ok (.ldc2_w 75, 3) := by decide +kernel
theorem dX3_leastTooHot_26 : decode cX3_leastTooHot 26 = .ok (.aload_n 0, 1) := by decide +kernel
theorem dX3_leastTooHot_27 : decode cX3_leastTooHot 27 = .ok (.getfield 9, 3) := by decide +kernel
theorem dX3_leastTooHot_30 : decode cX3_leastTooHot 30 = .ok (.iload_n 1, 1) := by decide +kernel
theorem dX3_leastTooHot_31 : decode cX3_leastTooHot 31 = .ok (.iaload, 1) := by decide +kernel
theorem dX3_leastTooHot_32 : decode cX3_leastTooHot 32 = .ok (.i2l, 1) := by decide +kernel
theorem dX3_leastTooHot_33 : decode cX3_leastTooHot 33 = .ok (.lmul, 1) := by decide +kernel
theorem dX3_leastTooHot_34 : decode cX3_leastTooHot 34 = .ok (.lcmp, 1) := by decide +kernel
theorem dX3_leastTooHot_35 : decode cX3_leastTooHot 35 = .ok (.ifCond .le 5, 3) := by decide +kernel
theorem dX3_leastTooHot_38 : decode cX3_leastTooHot 38 = .ok (.iload_n 1, 1) := by decide +kernel
theorem dX3_leastTooHot_39 : decode cX3_leastTooHot 39 = .ok (.ireturn, 1) := by decide +kernel
theorem dX3_leastTooHot_40 : decode cX3_leastTooHot 40 = .ok (.iinc 1 1, 3) := by decide +kernel
theorem dX3_leastTooHot_43 : decode cX3_leastTooHot 43 = .ok (.goto (-41), 3) := by decide +kernel
theorem dX3_leastTooHot_46 : decode cX3_leastTooHot 46 = .ok (.bipush (-9), 2) := by decide +kernel
theorem dX3_leastTooHot_48 : decode cX3_leastTooHot 48 = .ok (.ireturn, 1) := by decide +kernel
theorem dX3_leastTooMuch_0 : decode cX3_leastTooMuch 0 = .ok (.iconst 0, 1) := by decide +kernel
theorem dX3_leastTooMuch_1 : decode cX3_leastTooMuch 1 = .ok (.istore_n 1, 1) := by decide +kernel
theorem dX3_leastTooMuch_2 : decode cX3_leastTooMuch 2 = .ok (.iload_n 1, 1) := by decide +kernel
theorem dX3_leastTooMuch_3 : decode cX3_leastTooMuch 3 = .ok (.iconst 4, 1) := by decide +kernel
theorem dX3_leastTooMuch_4 : decode cX3_leastTooMuch 4 = .ok (.if_icmp .ge 23, 3) := by decide +kernel
theorem dX3_leastTooMuch_7 : decode cX3_leastTooMuch 7 = .ok (.aload_n 0, 1) := by decide +kernel
theorem dX3_leastTooMuch_8 : decode cX3_leastTooMuch 8 = .ok (.getfield 9, 3) := by decide +kernel
theorem dX3_leastTooMuch_11 : decode cX3_leastTooMuch 11 = .ok (.iload_n 1, 1) := by decide +kernel
theorem dX3_leastTooMuch_12 : decode cX3_leastTooMuch 12 = .ok (.iaload, 1) := by decide +kernel
theorem dX3_leastTooMuch_13 : decode cX3_leastTooMuch 13 = .ok (.sipush 2000, 3) := by decide +kernel
theorem dX3_leastTooMuch_16 : decode cX3_leastTooMuch 16 = .ok (.if_icmp .le 5, 3) := by decide +kernel
theorem dX3_leastTooMuch_19 : decode cX3_leastTooMuch 19 = .ok (.iload_n 1, 1) := by decide +kernel
theorem dX3_leastTooMuch_20 : decode cX3_leastTooMuch 20 = .ok (.ireturn, 1) := by decide +kernel
theorem dX3_leastTooMuch_21 : decode cX3_leastTooMuch 21 = .ok (.iinc 1 1, 3) := by decide +kernel
theorem dX3_leastTooMuch_24 : decode cX3_leastTooMuch 24 = .ok (.goto (-22), 3) := by decide +kernel
theorem dX3_leastTooMuch_27 : decode cX3_leastTooMuch 27 = .ok (.bipush (-9), 2) := by decide +kernel
theorem dX3_leastTooMuch_29 : decode cX3_leastTooMuch 29 = .ok (.ireturn, 1) := by decide +kernel
theorem dX3_addSums_0 : decode cX3_addSums 0 = .ok (.aload_n 0, 1) := by decide +kernel
theorem dX3_addSums_1 : decode cX3_addSums 1 = .ok (.getfield 27, 3) := by decide +kernel
theorem dX3_addSums_4 : decode cX3_addSums 4 = .ok (.iconst 0, 1) := by decide +kernel
theorem dX3_addSums_5 : decode cX3_addSums 5 = .ok (.dup2, 1) := by decide +kernel
theorem dX3_addSums_6 : decode cX3_addSums 6 = .ok (.laload, 1) := by decide +kernel
theorem dX3_addSums_7 : decode cX3_addSums 7 = .ok (.iload_n 1, 1) := by decide +kernel
theorem dX3_addSums_8 : decode cX3_addSums 8 = .ok (.i2l, 1) := by decide +kernel
theorem dX3_addSums_9 : decode cX3_addSums 9 = .ok (.ladd, 1) := by decide +kernel
theorem dX3_addSums_10 : decode cX3_addSums 10 = .ok (.lastore, 1) := by decide +kernel
theorem dX3_addSums_11 : decode cX3_addSums 11 = .ok (.aload_n 0, 1) := by decide +kernel
theorem dX3_addSums_12 : decode cX3_addSums 12 = .ok (.getfield 27, 3) := by decide +kernel
theorem dX3_addSums_15 : decode cX3_addSums 15 = .ok (.iconst 1, 1) := by decide +kernel
theorem dX3_addSums_16 : decode cX3_addSums 16 = .ok (.dup2, 1) := by decide +kernel
theorem dX3_addSums_17 : decode cX3_addSums 17 = .ok (.laload, 1) := by decide +kernel
theorem dX3_addSums_18 : decode cX3_addSums 18 = .ok (.iload_n 2, 1) := by decide +kernel
theorem dX3_addSums_19 : decode cX3_addSums 19 = .ok (.i2l, 1) := by decide +kernel
theorem dX3_addSums_20 : decode cX3_addSums 20 = .ok (.ladd, 1) := by decide +kernel
theorem dX3_addSums_21 : decode cX3_addSums 21 = .ok (.lastore, 1) := by decide +kernel
theorem dX3_addSums_22 : decode cX3_addSums 22 = .ok (.aload_n 0, 1) := by decide +kernel
theorem dX3_addSums_23 : decode cX3_addSums 23 = .ok (.getfield 27, 3) := by decide +kernel
theorem dX3_addSums_26 : decode cX3_addSums 26 = .ok (.iconst 2, 1) := by decide +kernel
theorem dX3_addSums_27 : decode cX3_addSums 27 = .ok (.dup2, 1) := by decide +kernel
theorem dX3_addSums_28 : decode cX3_addSums 28 = .ok (.laload, 1) := by decide +kernel
theorem dX3_addSums_29 : decode cX3_addSums 29 = .ok (.aload_n 0, 1) := by decide +kernel
theorem dX3_addSums_30 : decode cX3_addSums 30 = .ok (.getfield 24, 3) := by decide +kernel
theorem dX3_addSums_33 : decode cX3_addSums 33 = .ok (.iconst 0, 1) := by decide +kernel
theorem dX3_addSums_34 : decode cX3_addSums 34 = .ok (.iaload, 1) := by decide +kernel
theorem dX3_addSums_35 : decode cX3_addSums 35 = .ok (.i2l, 1) := by decide +kernel
theorem dX3_addSums_36 : decode cX3_addSums 36 = .ok (.ladd, 1) := by decide +kernel
theorem dX3_addSums_37 : decode cX3_addSums 37 = .ok (.lastore, 1) := by decide +kernel
theorem dX3_addSums_38 : decode cX3_addSums 38 = .ok (.aload_n 0, 1) := by decide +kernel
theorem dX3_addSums_39 : decode cX3_addSums 39 = .ok (.getfield 27, 3) := by decide +kernel
theorem dX3_addSums_42 : decode cX3_addSums 42 = .ok (.iconst 3, 1) := by decide +kernel
theorem dX3_addSums_43 : decode cX3_addSums 43 = .ok (.dup2, 1) := by decide +kernel
theorem dX3_addSums_44 : decode cX3_addSums 44 = .ok (.laload, 1) := by decide +kernel
theorem dX3_addSums_45 : decode cX3_addSums 45 = .ok (.aload_n 0, 1) := by decide +kernel
theorem dX3_addSums_46 : decode cX3_addSums 46 = .ok (.getfield 24, 3) := by decide +kernel
theorem dX3_addSums_49 : decode cX3_addSums 49 = .ok (.iconst 1, 1) := by decide +kernel
theorem dX3_addSums_50 : decode cX3_addSums 50 = .ok (.iaload, 1) := by decide +kernel
theorem dX3_addSums_51 : decode cX3_addSums 51 = .ok (.i2l, 1) := by decide +kernel
theorem dX3_addSums_52 : decode cX3_addSums 52 = .ok (.ladd, 1) := by decide +kernel
theorem dX3_addSums_53 : decode cX3_addSums 53 = .ok (.lastore, 1) := by decide +kernel
theorem dX3_addSums_54 : decode cX3_addSums 54 = .ok (.aload_n 0, 1) := by decide +kernel
theorem dX3_addSums_55 : decode cX3_addSums 55 = .ok (.getfield 27, 3) := by decide +kernel
theorem dX3_addSums_58 : decode cX3_addSums 58 = .ok (.iconst 4, 1) := by decide +kernel
theorem dX3_addSums_59 : decode cX3_addSums 59 = .ok (.dup2, 1) := by decide +kernel
theorem dX3_addSums_60 : decode cX3_addSums 60 = .ok (.laload, 1) := by decide +kernel
theorem dX3_addSums_61 : decode cX3_addSums 61 = .ok (.aload_n 0, 1) := by decide +kernel
theorem dX3_addSums_62 : decode cX3_addSums 62 = .ok (.getfield 24, 3) := by decide +kernel
theorem dX3_addSums_65 : decode cX3_addSums 65 = .ok (.bipush 6, 2) := by decide +kernel
theorem dX3_addSums_67 : decode cX3_addSums 67 = .ok (.iaload, 1) := by decide +kernel
theorem dX3_addSums_68 : decode cX3_addSums 68 = .ok (.i2l, 1) := by decide +kernel
theorem dX3_addSums_69 : decode cX3_addSums 69 = .ok (.ladd, 1) := by decide +kernel
theorem dX3_addSums_70 : decode cX3_addSums 70 = .ok (.lastore, 1) := by decide +kernel
theorem dX3_addSums_71 : decode cX3_addSums 71 = .ok (.return_, 1) := by decide +kernel
theorem dX3_foldInto_0 : decode cX3_foldInto 0 = .ok (.lload_n 1, 1) := by decide +kernel
theorem dX3_foldInto_1 : decode cX3_foldInto 1 = .ok (.lstore_n 3, 1) := by decide +kernel
theorem dX3_foldInto_2 : decode cX3_foldInto 2 = .ok (.iconst 0, 1) := by decide +kernel
theorem dX3_foldInto_3 : decode cX3_foldInto 3 = .ok (.istore 5, 2) := by decide +kernel
theorem dX3_foldInto_5 : decode cX3_foldInto 5 = .ok (.iload 5, 2) := by decide +kernel
theorem dX3_foldInto_7 : decode cX3_foldInto 7 = .ok (.iconst 4, 1) := by decide +kernel
theorem dX3_foldInto_8 : decode cX3_foldInto 8 = .ok (.if_icmp .ge 35, 3) := by decide +kernel
theorem dX3_foldInto_11 : decode cX3_foldInto 11 = .ok (.lload_n 3, 1) := by decide +kernel
theorem dX3_foldInto_12 : decode cX3_foldInto 12 = .ok (.aload_n 0, 1) := by decide +kernel
theorem dX3_foldInto_13 : decode cX3_foldInto 13 = .ok (.getfield 9, 3) := by decide +kernel
theorem dX3_foldInto_16 : decode cX3_foldInto 16 = .ok (.iload 5, 2) := by decide +kernel
theorem dX3_foldInto_18 : decode cX3_foldInto 18 = .ok (.iaload, 1) := by decide +kernel
theorem dX3_foldInto_19 : decode cX3_foldInto 19 = .ok (.i2l, 1) := by decide +kernel
theorem dX3_foldInto_20 : decode cX3_foldInto 20 = .ok (.invokestatic 77, 3) := by decide +kernel
theorem dX3_foldInto_23 : decode cX3_foldInto 23 = .ok (.lstore_n 3, 1) := by decide +kernel
theorem dX3_foldInto_24 : decode cX3_foldInto 24 = .ok (.lload_n 3, 1) := by decide +kernel
theorem dX3_foldInto_25 : decode cX3_foldInto 25 = .ok (.aload_n 0, 1) := by decide +kernel
theorem dX3_foldInto_26 : decode cX3_foldInto 26 = .ok (.getfield 15, 3) := by decide +kernel
theorem dX3_foldInto_29 : decode cX3_foldInto 29 = .ok (.iload 5, 2) := by decide +kernel
theorem dX3_foldInto_31 : decode cX3_foldInto 31 = .ok (.iaload, 1) := by decide +kernel
theorem dX3_foldInto_32 : decode cX3_foldInto 32 = .ok (.i2l, 1) := by decide +kernel
theorem dX3_foldInto_33 : decode cX3_foldInto 33 = .ok (.invokestatic 77, 3) := by decide +kernel
theorem dX3_foldInto_36 : decode cX3_foldInto 36 = .ok (.lstore_n 3, 1) := by decide +kernel
theorem dX3_foldInto_37 : decode cX3_foldInto 37 = .ok (.iinc 5 1, 3) := by decide +kernel
theorem dX3_foldInto_40 : decode cX3_foldInto 40 = .ok (.goto (-35), 3) := by decide +kernel
theorem dX3_foldInto_43 : decode cX3_foldInto 43 = .ok (.lload_n 3, 1) := by decide +kernel
theorem dX3_foldInto_44 : decode cX3_foldInto 44 = .ok (.lreturn, 1) := by decide +kernel
theorem dX4_init_0 : decode cX4_init 0 = .ok (.aload_n 0, 1) := by decide +kernel
theorem dX4_init_1 : decode cX4_init 1 = .ok (.invokespecial 3, 3) := by decide +kernel
theorem dX4_init_4 : decode cX4_init 4 = .ok (.aload_n 0, 1) := by decide +kernel
theorem dX4_init_5 : decode cX4_init 5 = .ok (.bipush 7, 2) := by decide +kernel
theorem dX4_init_7 : decode cX4_init 7 = .ok (.newarray .boolean, 2) := by decide +kernel
theorem dX4_init_9 : decode cX4_init 9 = .ok (.putfield 9, 3) := by decide +kernel
theorem dX4_init_12 : decode cX4_init 12 = .ok (.aload_n 0, 1) := by decide +kernel
theorem dX4_init_13 : decode cX4_init 13 = .ok (.bipush 7, 2) := by decide +kernel
theorem dX4_init_15 : decode cX4_init 15 = .ok (.bipush 24, 2) := by decide +kernel
theorem dX4_init_17 : decode cX4_init 17 = .ok (.multianewarray 15 2, 4) := by decide +kernel
theorem dX4_init_21 : decode cX4_init 21 = .ok (.putfield 17, 3) := by decide +kernel
theorem dX4_init_24 : decode cX4_init 24 = .ok (.aload_n 0, 1) := by decide +kernel
theorem dX4_init_25 : decode cX4_init 25 = .ok (.bipush 24, 2) := by decide +kernel
theorem dX4_init_27 : decode cX4_init 27 = .ok (.newarray .int, 2) := by decide +kernel
theorem dX4_init_29 : decode cX4_init 29 = .ok (.putfield 20, 3) := by decide +kernel
theorem dX4_init_32 : decode cX4_init 32 = .ok (.aload_n 0, 1) := by decide +kernel
theorem dX4_init_33 : decode cX4_init 33 = .ok (.bipush 25, 2) := by decide +kernel
theorem dX4_init_35 : decode cX4_init 35 = .ok (.newarray .long, 2) := by decide +kernel
theorem dX4_init_37 : decode cX4_init 37 = .ok (.putfield 24, 3) := by decide +kernel
theorem dX4_init_40 : decode cX4_init 40 = .ok (.aload_n 0, 1) := by decide +kernel
theorem dX4_init_41 : decode cX4_init 41 = .ok (.iconst 0, 1) := by decide +kernel
theorem dX4_init_42 : decode cX4_init 42 = .ok (.putfield 28, 3) := by decide +kernel
theorem dX4_init_45 : decode cX4_init 45 = .ok (.return_, 1) := by decide +kernel
theorem dX4_rows_0 : decode cX4_rows 0 = .ok (.aload_n 0, 1) := by decide +kernel
theorem dX4_rows_1 : decode cX4_rows 1 = .ok (.getfield 28, 3) := by decide +kernel
theorem dX4_rows_4 : decode cX4_rows 4 = .ok (.ireturn, 1) := by decide +kernel
theorem dX4_has_0 : decode cX4_has 0 = .ok (.aload_n 0, 1) := by decide +kernel
theorem dX4_has_1 : decode cX4_has 1 = .ok (.getfield 9, 3) := by decide +kernel
theorem dX4_has_4 : decode cX4_has 4 = .ok (.iload_n 1, 1) := by decide +kernel
theorem dX4_has_5 : decode cX4_has 5 = .ok (.baload, 1) := by decide +kernel
theorem dX4_has_6 : decode cX4_has 6 = .ok (.ireturn, 1) := by decide +kernel
theorem dX4_layRow_0 : decode cX4_layRow 0 = .ok (.aload_n 0, 1) := by decide +kernel
theorem dX4_layRow_1 : decode cX4_layRow 1 = .ok (.getfield 9, 3) := by decide +kernel
theorem dX4_layRow_4 : decode cX4_layRow 4 = .ok (.iload_n 1, 1) := by decide +kernel
theorem dX4_layRow_5 : decode cX4_layRow 5 = .ok (.baload, 1) := by decide +kernel
theorem dX4_layRow_6 : decode cX4_layRow 6 = .ok (.istore_n 2, 1) := by decide +kernel
theorem dX4_layRow_7 : decode cX4_layRow 7 = .ok (.aload_n 0, 1) := by decide +kernel
theorem dX4_layRow_8 : decode cX4_layRow 8 = .ok (.getfield 17, 3) := by decide +kernel
theorem dX4_layRow_11 : decode cX4_layRow 11 = .ok (.iload_n 1, 1) := by decide +kernel
theorem dX4_layRow_12 : decode cX4_layRow 12 = .ok (.aaload, 1) := by decide +kernel
theorem dX4_layRow_13 : decode cX4_layRow 13 = .ok (.iconst 0, 1) := by decide +kernel
theorem dX4_layRow_14 : decode cX4_layRow 14 = .ok (.invokestatic 32, 3) := by decide +kernel
theorem dX4_layRow_17 : decode cX4_layRow 17 = .ok (.aload_n 0, 1) := by decide +kernel
theorem dX4_layRow_18 : decode cX4_layRow 18 = .ok (.getfield 9, 3) := by decide +kernel
theorem dX4_layRow_21 : decode cX4_layRow 21 = .ok (.iload_n 1, 1) := by decide +kernel
theorem dX4_layRow_22 : decode cX4_layRow 22 = .ok (.iconst 1, 1) := by decide +kernel
theorem dX4_layRow_23 : decode cX4_layRow 23 = .ok (.bastore, 1) := by decide +kernel
theorem dX4_layRow_24 : decode cX4_layRow 24 = .ok (.iload_n 2, 1) := by decide +kernel
theorem dX4_layRow_25 : decode cX4_layRow 25 = .ok (.ifCond .ne 13, 3) := by decide +kernel
theorem dX4_layRow_28 : decode cX4_layRow 28 = .ok (.aload_n 0, 1) := by decide +kernel
theorem dX4_layRow_29 : decode cX4_layRow 29 = .ok (.dup, 1) := by decide +kernel
theorem dX4_layRow_30 : decode cX4_layRow 30 = .ok (.getfield 28, 3) := by decide +kernel
theorem dX4_layRow_33 : decode cX4_layRow 33 = .ok (.iconst 1, 1) := by decide +kernel
theorem dX4_layRow_34 : decode cX4_layRow 34 = .ok (.iadd, 1) := by decide +kernel
theorem dX4_layRow_35 : decode cX4_layRow 35 = .ok (.putfield 28, 3) := by decide +kernel
theorem dX4_layRow_38 : decode cX4_layRow 38 = .ok (.iload_n 2, 1) := by decide +kernel
theorem dX4_layRow_39 : decode cX4_layRow 39 = .ok (.ifCond .eq 7, 3) := by decide +kernel
theorem dX4_layRow_42 : decode cX4_layRow 42 = .ok (.iconst 1, 1) := by decide +kernel
theorem dX4_layRow_43 : decode cX4_layRow 43 = .ok (.goto 4, 3) := by decide +kernel
theorem dX4_layRow_46 : decode cX4_layRow 46 = .ok (.iconst 0, 1) := by decide +kernel
theorem dX4_layRow_47 : decode cX4_layRow 47 = .ok (.ireturn, 1) := by decide +kernel
theorem dX4_drop_0 : decode cX4_drop 0 = .ok (.aload_n 0, 1) := by decide +kernel
theorem dX4_drop_1 : decode cX4_drop 1 = .ok (.getfield 9, 3) := by decide +kernel
theorem dX4_drop_4 : decode cX4_drop 4 = .ok (.iload_n 1, 1) := by decide +kernel
theorem dX4_drop_5 : decode cX4_drop 5 = .ok (.iconst 0, 1) := by decide +kernel
theorem dX4_drop_6 : decode cX4_drop 6 = .ok (.bastore, 1) := by decide +kernel
theorem dX4_drop_7 : decode cX4_drop 7 = .ok (.aload_n 0, 1) := by decide +kernel
theorem dX4_drop_8 : decode cX4_drop 8 = .ok (.dup, 1) := by decide +kernel
theorem dX4_drop_9 : decode cX4_drop 9 = .ok (.getfield 28, 3) := by decide +kernel
theorem dX4_drop_12 : decode cX4_drop 12 = .ok (.iconst 1, 1) := by decide +kernel
theorem dX4_drop_13 : decode cX4_drop 13 = .ok (.isub, 1) := by decide +kernel
theorem dX4_drop_14 : decode cX4_drop 14 = .ok (.putfield 28, 3) := by decide +kernel
theorem dX4_drop_17 : decode cX4_drop 17 = .ok (.return_, 1) := by decide +kernel
theorem dX4_set_0 : decode cX4_set 0 = .ok (.aload_n 0, 1) := by decide +kernel
theorem dX4_set_1 : decode cX4_set 1 = .ok (.getfield 17, 3) := by decide +kernel
theorem dX4_set_4 : decode cX4_set 4 = .ok (.iload_n 1, 1) := by decide +kernel
theorem dX4_set_5 : decode cX4_set 5 = .ok (.aaload, 1) := by decide +kernel
theorem dX4_set_6 : decode cX4_set 6 = .ok (.iload_n 2, 1) := by decide +kernel
theorem dX4_set_7 : decode cX4_set 7 = .ok (.iaload, 1) := by decide +kernel
theorem dX4_set_8 : decode cX4_set 8 = .ok (.istore 4, 2) := by decide +kernel
theorem dX4_set_10 : decode cX4_set 10 = .ok (.aload_n 0, 1) := by decide +kernel
theorem dX4_set_11 : decode cX4_set 11 = .ok (.getfield 17, 3) := by decide +kernel
theorem dX4_set_14 : decode cX4_set 14 = .ok (.iload_n 1, 1) := by decide +kernel
theorem dX4_set_15 : decode cX4_set 15 = .ok (.aaload, 1) := by decide +kernel
theorem dX4_set_16 : decode cX4_set 16 = .ok (.iload_n 2, 1) := by decide +kernel
theorem dX4_set_17 : decode cX4_set 17 = .ok (.iload_n 3, 1) := by decide +kernel
theorem dX4_set_18 : decode cX4_set 18 = .ok (.iastore, 1) := by decide +kernel
theorem dX4_set_19 : decode cX4_set 19 = .ok (.iload 4, 2) := by decide +kernel
theorem dX4_set_21 : decode cX4_set 21 = .ok (.ireturn, 1) := by decide +kernel
theorem dX4_move_0 : decode cX4_move 0 = .ok (.aload_n 0, 1) := by decide +kernel
theorem dX4_move_1 : decode cX4_move 1 = .ok (.getfield 17, 3) := by decide +kernel
theorem dX4_move_4 : decode cX4_move 4 = .ok (.iload_n 1, 1) := by decide +kernel
theorem dX4_move_5 : decode cX4_move 5 = .ok (.aaload, 1) := by decide +kernel
theorem dX4_move_6 : decode cX4_move 6 = .ok (.iload_n 2, 1) := by decide +kernel
theorem dX4_move_7 : decode cX4_move 7 = .ok (.aload_n 0, 1) := by decide +kernel
theorem dX4_move_8 : decode cX4_move 8 = .ok (.getfield 17, 3) := by decide +kernel
theorem dX4_move_11 : decode cX4_move 11 = .ok (.iload_n 3, 1) := by decide +kernel
theorem dX4_move_12 : decode cX4_move 12 = .ok (.aaload, 1) := by decide +kernel
theorem dX4_move_13 : decode cX4_move 13 = .ok (.iload 4, 2) := by decide +kernel
theorem dX4_move_15 : decode cX4_move 15 = .ok (.iload 5, 2) := by decide +kernel
theorem dX4_move_17 : decode cX4_move 17 = .ok (.invokestatic 38, 3) := by decide +kernel
theorem dX4_move_20 : decode cX4_move 20 = .ok (.return_, 1) := by decide +kernel
theorem dX4_setNeed_0 : decode cX4_setNeed 0 = .ok (.aload_n 0, 1) := by decide +kernel
theorem dX4_setNeed_1 : decode cX4_setNeed 1 = .ok (.getfield 20, 3) := by decide +kernel
theorem dX4_setNeed_4 : decode cX4_setNeed 4 = .ok (.iload_n 1, 1) := by decide +kernel
theorem dX4_setNeed_5 : decode cX4_setNeed 5 = .ok (.iaload, 1) := by decide +kernel
theorem dX4_setNeed_6 : decode cX4_setNeed 6 = .ok (.istore_n 3, 1) := by decide +kernel
theorem dX4_setNeed_7 : decode cX4_setNeed 7 = .ok (.aload_n 0, 1) := by decide +kernel
theorem dX4_setNeed_8 : decode cX4_setNeed 8 = .ok (.getfield 20, 3) := by decide +kernel
theorem dX4_setNeed_11 : decode cX4_setNeed 11 = .ok (.iload_n 1, 1) := by decide +kernel
theorem dX4_setNeed_12 : decode cX4_setNeed 12 = .ok (.iload_n 2, 1) := by decide +kernel
theorem dX4_setNeed_13 : decode cX4_setNeed 13 = .ok (.iastore, 1) := by decide +kernel
theorem dX4_setNeed_14 : decode cX4_setNeed 14 = .ok (.iload_n 3, 1) := by decide +kernel
theorem dX4_setNeed_15 : decode cX4_setNeed 15 = .ok (.ireturn, 1) := by decide +kernel
theorem dX4_cheapest_0 : decode cX4_cheapest 0 = .ok (.aload_n 0, 1) := by decide +kernel
theorem dX4_cheapest_1 : decode cX4_cheapest 1 = .ok (.getfield 24, 3) := by decide +kernel
theorem dX4_cheapest_4 : decode cX4_cheapest 4 = .ok (.ldc2_w 44, 3) := by decide +kernel
theorem dX4_cheapest_7 : decode cX4_cheapest 7 = .ok (.invokestatic 46, 3) := by decide +kernel
theorem dX4_cheapest_10 : decode cX4_cheapest 10 = .ok (.aload_n 0, 1) := by decide +kernel
theorem dX4_cheapest_11 : decode cX4_cheapest 11 = .ok (.getfield 24, 3) := by decide +kernel
theorem dX4_cheapest_14 : decode cX4_cheapest 14 = .ok (.iconst 0, 1) := by decide +kernel
theorem dX4_cheapest_15 : decode cX4_cheapest 15 = .ok (.lconst 0, 1) := by decide +kernel
theorem dX4_cheapest_16 : decode cX4_cheapest 16 = .ok (.lastore, 1) := by decide +kernel
theorem dX4_cheapest_17 : decode cX4_cheapest 17 = .ok (.iconst 0, 1) := by decide +kernel
theorem dX4_cheapest_18 : decode cX4_cheapest 18 = .ok (.istore_n 3, 1) := by decide +kernel
theorem dX4_cheapest_19 : decode cX4_cheapest 19 = .ok (.iload_n 3, 1) := by decide +kernel
theorem dX4_cheapest_20 : decode cX4_cheapest 20 = .ok (.bipush 24, 2) := by decide +kernel
theorem dX4_cheapest_22 : decode cX4_cheapest 22 = .ok (.if_icmp .ge 116, 3) := by decide +kernel
theorem dX4_cheapest_25 : decode cX4_cheapest 25 = .ok (.aload_n 0, 1) := by decide +kernel
theorem dX4_cheapest_26 : decode cX4_cheapest 26 = .ok (.getfield 17, 3) := by decide +kernel
theorem dX4_cheapest_29 : decode cX4_cheapest 29 = .ok (.iload_n 1, 1) := by decide +kernel
theorem dX4_cheapest_30 : decode cX4_cheapest 30 = .ok (.aaload, 1) := by decide +kernel
theorem dX4_cheapest_31 : decode cX4_cheapest 31 = .ok (.iload_n 3, 1) := by decide +kernel
theorem dX4_cheapest_32 : decode cX4_cheapest 32 = .ok (.iaload, 1) := by decide +kernel
theorem dX4_cheapest_33 : decode cX4_cheapest 33 = .ok (.i2l, 1) := by decide +kernel
theorem dX4_cheapest_34 : decode cX4_cheapest 34 = .ok (.bipush 24, 2) := by decide +kernel
theorem dX4_cheapest_36 : decode cX4_cheapest 36 = .ok (.lshl, 1) := by decide +kernel
theorem dX4_cheapest_37 : decode cX4_cheapest 37 = .ok (.lconst 1, 1) := by decide +kernel
theorem dX4_cheapest_38 : decode cX4_cheapest 38 = .ok (.iload_n 3, 1) := by decide +kernel
theorem dX4_cheapest_39 : decode cX4_cheapest 39 = .ok (.lshl, 1) := by decide +kernel
theorem dX4_cheapest_40 : decode cX4_cheapest 40 = .ok (.ladd, 1) := by decide +kernel
theorem dX4_cheapest_41 : decode cX4_cheapest 41 = .ok (.lstore 4, 2) := by decide +kernel
theorem dX4_cheapest_43 : decode cX4_cheapest 43 = .ok (.iload_n 3, 1) := by decide +kernel
theorem dX4_cheapest_44 : decode cX4_cheapest 44 = .ok (.iconst 1, 1) := by decide +kernel
theorem dX4_cheapest_45 : decode cX4_cheapest 45 = .ok (.iadd, 1) := by decide +kernel
theorem dX4_cheapest_46 : decode cX4_cheapest 46 = .ok (.istore 6, 2) := by decide +kernel
theorem dX4_cheapest_48 : decode cX4_cheapest 48 = .ok (.iload 6, 2) := by decide +kernel
theorem dX4_cheapest_50 : decode cX4_cheapest 50 = .ok (.ifCond .lt 82, 3) := by decide +kernel
theorem dX4_cheapest_53 : decode cX4_cheapest 53 = .ok (.iload 6, 2) := by decide +kernel
theorem dX4_cheapest_55 : decode cX4_cheapest 55 = .ok (.ifCond .le 48, 3) := by decide +kernel
theorem dX4_cheapest_58 : decode cX4_cheapest 58 = .ok (.aload_n 0, 1) := by decide +kernel
theorem dX4_cheapest_59 : decode cX4_cheapest 59 = .ok (.getfield 24, 3) := by decide +kernel
theorem dX4_cheapest_62 : decode cX4_cheapest 62 = .ok (.iload 6, 2) := by decide +kernel
theorem dX4_cheapest_64 : decode cX4_cheapest 64 = .ok (.iconst 1, 1) := by decide +kernel
theorem dX4_cheapest_65 : decode cX4_cheapest 65 = .ok (.isub, 1) := by decide +kernel
theorem dX4_cheapest_66 : decode cX4_cheapest 66 = .ok (.laload, 1) := by decide +kernel
theorem dX4_cheapest_67 : decode cX4_cheapest 67 = .ok (.ldc2_w 44, 3) := by decide +kernel
theorem dX4_cheapest_70 : decode cX4_cheapest 70 = .ok (.lcmp, 1) := by decide +kernel
theorem dX4_cheapest_71 : decode cX4_cheapest 71 = .ok (.ifCond .eq 32, 3) := by decide +kernel
theorem dX4_cheapest_74 : decode cX4_cheapest 74 = .ok (.aload_n 0, 1) := by decide +kernel
theorem dX4_cheapest_75 : decode cX4_cheapest 75 = .ok (.getfield 24, 3) := by decide +kernel
theorem dX4_cheapest_78 : decode cX4_cheapest 78 = .ok (.iload 6, 2) := by decide +kernel
theorem dX4_cheapest_80 : decode cX4_cheapest 80 = .ok (.aload_n 0, 1) := by decide +kernel
theorem dX4_cheapest_81 : decode cX4_cheapest 81 = .ok (.getfield 24, 3) := by decide +kernel
theorem dX4_cheapest_84 : decode cX4_cheapest 84 = .ok (.iload 6, 2) := by decide +kernel
theorem dX4_cheapest_86 : decode cX4_cheapest 86 = .ok (.laload, 1) := by decide +kernel
theorem dX4_cheapest_87 : decode cX4_cheapest 87 = .ok (.aload_n 0, 1) := by decide +kernel
theorem dX4_cheapest_88 : decode cX4_cheapest 88 = .ok (.getfield 24, 3) := by decide +kernel
theorem dX4_cheapest_91 : decode cX4_cheapest 91 = .ok (.iload 6, 2) := by decide +kernel
theorem dX4_cheapest_93 : decode cX4_cheapest 93 = .ok (.iconst 1, 1) := by decide +kernel
theorem dX4_cheapest_94 : decode cX4_cheapest 94 = .ok (.isub, 1) := by decide +kernel
theorem dX4_cheapest_95 : decode cX4_cheapest 95 = .ok (.laload, 1) := by decide +kernel
theorem dX4_cheapest_96 : decode cX4_cheapest 96 = .ok (.lload 4, 2) := by decide +kernel
theorem dX4_cheapest_98 : decode cX4_cheapest 98 = .ok (.ladd, 1) := by decide +kernel
theorem dX4_cheapest_99 : decode cX4_cheapest 99 = .ok (.invokestatic 49, 3) := by decide +kernel
theorem dX4_cheapest_102 : decode cX4_cheapest 102 = .ok (.lastore, 1) := by decide +kernel
theorem dX4_cheapest_103 : decode cX4_cheapest 103 = .ok (.iload 6, 2) := by decide +kernel
theorem dX4_cheapest_105 : decode cX4_cheapest 105 = .ok (.iload_n 2, 1) := by decide +kernel
theorem dX4_cheapest_106 : decode cX4_cheapest 106 = .ok (.imul, 1) := by decide +kernel
theorem dX4_cheapest_107 : decode cX4_cheapest 107 = .ok (.aload_n 0, 1) := by decide +kernel
theorem dX4_cheapest_108 : decode cX4_cheapest 108 = .ok (.getfield 20, 3) := by decide +kernel
theorem dX4_cheapest_111 : decode cX4_cheapest 111 = .ok (.iload_n 3, 1) := by decide +kernel
theorem dX4_cheapest_112 : decode cX4_cheapest 112 = .ok (.iaload, 1) := by decide +kernel
theorem dX4_cheapest_113 : decode cX4_cheapest 113 = .ok (.if_icmp .ge 13, 3) := by decide +kernel
theorem dX4_cheapest_116 : decode cX4_cheapest 116 = .ok (.aload_n 0, 1) := by decide +kernel
theorem dX4_cheapest_117 : decode cX4_cheapest 117 = .ok (.getfield 24, 3) := by decide +kernel
theorem dX4_cheapest_120 : decode cX4_cheapest 120 = .ok (.iload 6, 2) := by decide +kernel
theorem dX4_cheapest_122 : decode cX4_cheapest 122 = .ok (.ldc2_w 44, 3) := by decide +kernel
theorem dX4_cheapest_125 : decode cX4_cheapest 125 = .ok (.lastore, 1) := by decide +kernel
theorem dX4_cheapest_126 : decode cX4_cheapest 126 = .ok (.iinc 6 (-1), 3) := by decide +kernel
theorem dX4_cheapest_129 : decode cX4_cheapest 129 = .ok (.goto (-81), 3) := by decide +kernel
theorem dX4_cheapest_132 : decode cX4_cheapest 132 = .ok (.iinc 3 1, 3) := by decide +kernel
theorem dX4_cheapest_135 : decode cX4_cheapest 135 = .ok (.goto (-116), 3) := by decide +kernel
theorem dX4_cheapest_138 : decode cX4_cheapest 138 = .ok (.aload_n 0, 1) := by decide +kernel
theorem dX4_cheapest_139 : decode cX4_cheapest 139 = .ok (.invokevirtual 55, 3) := by decide +kernel
theorem dX4_cheapest_142 : decode cX4_cheapest 142 = .ok (.lreturn, 1) := by decide +kernel
theorem dX4_leastPrice_0 : decode cX4_leastPrice 0 = .ok (.ldc2_w 44, 3) := by decide +kernel
theorem dX4_leastPrice_3 : decode cX4_leastPrice 3 = .ok (.lstore_n 1, 1) := by decide +kernel
theorem dX4_leastPrice_4 : decode cX4_leastPrice 4 = .ok (.iconst 0, 1) := by decide +kernel
theorem dX4_leastPrice_5 : decode cX4_leastPrice 5 = .ok (.istore_n 3, 1) := by decide +kernel
theorem dX4_leastPrice_6 : decode cX4_leastPrice 6 = .ok (.iload_n 3, 1) := by decide +kernel
theorem dX4_leastPrice_7 : decode cX4_leastPrice 7 = .ok (.bipush 24, 2) := by decide +kernel
theorem dX4_leastPrice_9 : decode cX4_leastPrice 9 = .ok (.if_icmp .gt 33, 3) := by decide +kernel
theorem dX4_leastPrice_12 : decode cX4_leastPrice 12 = .ok (.aload_n 0, 1) := by decide +kernel
theorem dX4_leastPrice_13 : decode cX4_leastPrice 13 = .ok (.getfield 24, 3) := by decide +kernel
theorem dX4_leastPrice_16 : decode cX4_leastPrice 16 = .ok (.iload_n 3, 1) := by decide +kernel
theorem dX4_leastPrice_17 : decode cX4_leastPrice 17 = .ok (.laload, 1) := by decide +kernel
theorem dX4_leastPrice_18 : decode cX4_leastPrice 18 = .ok (.invokestatic 59, 3) := by decide +kernel
theorem dX4_leastPrice_21 : decode cX4_leastPrice 21 = .ok (.lload_n 1, 1) := by decide +kernel
theorem dX4_leastPrice_22 : decode cX4_leastPrice 22 = .ok (.invokestatic 59, 3) := by decide +kernel
theorem dX4_leastPrice_25 : decode cX4_leastPrice 25 = .ok (.lcmp, 1) := by decide +kernel
theorem dX4_leastPrice_26 : decode cX4_leastPrice 26 = .ok (.ifCond .ge 10, 3) := by decide +kernel
theorem dX4_leastPrice_29 : decode cX4_leastPrice 29 = .ok (.aload_n 0, 1) := by decide +kernel
theorem dX4_leastPrice_30 : decode cX4_leastPrice 30 = .ok (.getfield 24, 3) := by decide +kernel
theorem dX4_leastPrice_33 : decode cX4_leastPrice 33 = .ok (.iload_n 3, 1) := by decide +kernel
theorem dX4_leastPrice_34 : decode cX4_leastPrice 34 = .ok (.laload, 1) := by decide +kernel
theorem dX4_leastPrice_35 : decode cX4_leastPrice 35 = .ok (.lstore_n 1, 1) := by decide +kernel
theorem dX4_leastPrice_36 : decode cX4_leastPrice 36 = .ok (.iinc 3 1, 3) := by decide +kernel
theorem dX4_leastPrice_39 : decode cX4_leastPrice 39 = .ok (.goto (-33), 3) := by decide +kernel
theorem dX4_leastPrice_42 : decode cX4_leastPrice 42 = .ok (.lload_n 1, 1) := by decide +kernel
theorem dX4_leastPrice_43 : decode cX4_leastPrice 43 = .ok (.lreturn, 1) := by decide +kernel
theorem dX4_priceOf_0 : decode cX4_priceOf 0 = .ok (.lload_n 0, 1) := by decide +kernel
theorem dX4_priceOf_1 : decode cX4_priceOf 1 = .ok (.bipush 24, 2) := by decide +kernel
theorem dX4_priceOf_3 : decode cX4_priceOf 3 = .ok (.lshr, 1) := by decide +kernel
theorem dX4_priceOf_4 : decode cX4_priceOf 4 = .ok (.lreturn, 1) := by decide +kernel
theorem dX4_bitsOf_0 : decode cX4_bitsOf 0 = .ok (.lload_n 0, 1) := by decide +kernel
theorem dX4_bitsOf_1 : decode cX4_bitsOf 1 = .ok (.ldc2_w 63, 3) := by decide +kernel
theorem dX4_bitsOf_4 : decode cX4_bitsOf 4 = .ok (.land, 1) := by decide +kernel
theorem dX4_bitsOf_5 : decode cX4_bitsOf 5 = .ok (.l2i, 1) := by decide +kernel
theorem dX4_bitsOf_6 : decode cX4_bitsOf 6 = .ok (.ireturn, 1) := by decide +kernel
theorem dX4_foldInto_0 : decode cX4_foldInto 0 = .ok (.lload_n 1, 1) := by decide +kernel
theorem dX4_foldInto_1 : decode cX4_foldInto 1 = .ok (.lstore_n 3, 1) := by decide +kernel
theorem dX4_foldInto_2 : decode cX4_foldInto 2 = .ok (.iconst 0, 1) := by decide +kernel
theorem dX4_foldInto_3 : decode cX4_foldInto 3 = .ok (.istore 5, 2) := by decide +kernel
theorem dX4_foldInto_5 : decode cX4_foldInto 5 = .ok (.iload 5, 2) := by decide +kernel
theorem dX4_foldInto_7 : decode cX4_foldInto 7 = .ok (.bipush 7, 2) := by decide +kernel
theorem dX4_foldInto_9 : decode cX4_foldInto 9 = .ok (.if_icmp .ge 41, 3) := by decide +kernel
theorem dX4_foldInto_12 : decode cX4_foldInto 12 = .ok (.aload_n 0, 1) := by decide +kernel
theorem dX4_foldInto_13 : decode cX4_foldInto 13 = .ok (.getfield 9, 3) := by decide +kernel
theorem dX4_foldInto_16 : decode cX4_foldInto 16 = .ok (.iload 5, 2) := by decide +kernel
theorem dX4_foldInto_18 : decode cX4_foldInto 18 = .ok (.baload, 1) := by decide +kernel
theorem dX4_foldInto_19 : decode cX4_foldInto 19 = .ok (.ifCond .eq 17, 3) := by decide +kernel
theorem dX4_foldInto_22 : decode cX4_foldInto 22 = .ok (.lload_n 3, 1) := by decide +kernel
theorem dX4_foldInto_23 : decode cX4_foldInto 23 = .ok (.aload_n 0, 1) := by decide +kernel
theorem dX4_foldInto_24 : decode cX4_foldInto 24 = .ok (.getfield 17, 3) := by decide +kernel
theorem dX4_foldInto_27 : decode cX4_foldInto 27 = .ok (.iload 5, 2) := by decide +kernel
theorem dX4_foldInto_29 : decode cX4_foldInto 29 = .ok (.aaload, 1) := by decide +kernel
theorem dX4_foldInto_30 : decode cX4_foldInto 30 = .ok (.invokestatic 65, 3) := by decide +kernel
theorem dX4_foldInto_33 : decode cX4_foldInto 33 = .ok (.goto 10, 3) := by decide +kernel
theorem dX4_foldInto_36 : decode cX4_foldInto 36 = .ok (.lload_n 3, 1) := by decide +kernel
theorem dX4_foldInto_37 : decode cX4_foldInto 37 = .ok (.ldc2_w 69, 3) := by decide +kernel
theorem dX4_foldInto_40 : decode cX4_foldInto 40 = .ok (.invokestatic 71, 3) := by decide +kernel
theorem dX4_foldInto_43 : decode cX4_foldInto 43 = .ok (.lstore_n 3, 1) := by decide +kernel
theorem dX4_foldInto_44 : decode cX4_foldInto 44 = .ok (.iinc 5 1, 3) := by decide +kernel
theorem dX4_foldInto_47 : decode cX4_foldInto 47 = .ok (.goto (-42), 3) := by decide +kernel
theorem dX4_foldInto_50 : decode cX4_foldInto 50 = .ok (.lload_n 3, 1) := by decide +kernel
theorem dX4_foldInto_51 : decode cX4_foldInto 51 = .ok (.aload_n 0, 1) := by decide +kernel
theorem dX4_foldInto_52 : decode cX4_foldInto 52 = .ok (.getfield 20, 3) := by decide +kernel
theorem dX4_foldInto_55 : decode cX4_foldInto 55 = .ok (.invokestatic 65, 3) := by decide +kernel
theorem dX4_foldInto_58 : decode cX4_foldInto 58 = .ok (.lreturn, 1) := by decide +kernel
theorem dX4_foldRow_0 : decode cX4_foldRow 0 = .ok (.lload_n 0, 1) := by decide +kernel
theorem dX4_foldRow_1 : decode cX4_foldRow 1 = .ok (.lstore_n 3, 1) := by decide +kernel
theorem dX4_foldRow_2 : decode cX4_foldRow 2 = .ok (.aload_n 2, 1) := by decide +kernel
theorem dX4_foldRow_3 : decode cX4_foldRow 3 = .ok (.astore 5, 2) := by decide +kernel
theorem dX4_foldRow_5 : decode cX4_foldRow 5 = .ok (.aload 5, 2) := by decide +kernel
theorem dX4_foldRow_7 : decode cX4_foldRow 7 = .ok (.arraylength, 1) := by decide +kernel
theorem dX4_foldRow_8 : decode cX4_foldRow 8 = .ok (.istore 6, 2) := by decide +kernel
theorem dX4_foldRow_10 : decode cX4_foldRow 10 = .ok (.iconst 0, 1) := by decide +kernel
theorem dX4_foldRow_11 : decode cX4_foldRow 11 = .ok (.istore 7, 2) := by decide +kernel
theorem dX4_foldRow_13 : decode cX4_foldRow 13 = .ok (.iload 7, 2) := by decide +kernel
theorem dX4_foldRow_15 : decode cX4_foldRow 15 = .ok (.iload 6, 2) := by decide +kernel
theorem dX4_foldRow_17 : decode cX4_foldRow 17 = .ok (.if_icmp .ge 24, 3) := by decide +kernel
theorem dX4_foldRow_20 : decode cX4_foldRow 20 = .ok (.aload 5, 2) := by decide +kernel
theorem dX4_foldRow_22 : decode cX4_foldRow 22 = .ok (.iload 7, 2) := by decide +kernel
theorem dX4_foldRow_24 : decode cX4_foldRow 24 = .ok (.iaload, 1) := by decide +kernel
theorem dX4_foldRow_25 : decode cX4_foldRow 25 = .ok (.istore 8, 2) := by decide +kernel
theorem dX4_foldRow_27 : decode cX4_foldRow 27 = .ok (.lload_n 3, 1) := by decide +kernel
theorem dX4_foldRow_28 : decode cX4_foldRow 28 = .ok (.iload 8, 2) := by decide +kernel
theorem dX4_foldRow_30 : decode cX4_foldRow 30 = .ok (.i2l, 1) := by decide +kernel
theorem dX4_foldRow_31 : decode cX4_foldRow 31 = .ok (.invokestatic 71, 3) := by decide +kernel
theorem dX4_foldRow_34 : decode cX4_foldRow 34 = .ok (.lstore_n 3, 1) := by decide +kernel
theorem dX4_foldRow_35 : decode cX4_foldRow 35 = .ok (.iinc 7 1, 3) := by decide +kernel
theorem dX4_foldRow_38 : decode cX4_foldRow 38 = .ok (.goto (-25), 3) := by decide +kernel
theorem dX4_foldRow_41 : decode cX4_foldRow 41 = .ok (.lload_n 3, 1) := by decide +kernel
theorem dX4_foldRow_42 : decode cX4_foldRow 42 = .ok (.lreturn, 1) := by decide +kernel
theorem dX5_init_0 : decode cX5_init 0 = .ok (.aload_n 0, 1) := by decide +kernel
theorem dX5_init_1 : decode cX5_init 1 = .ok (.invokespecial 3, 3) := by decide +kernel
theorem dX5_init_4 : decode cX5_init 4 = .ok (.aload_n 0, 1) := by decide +kernel
theorem dX5_init_5 : decode cX5_init 5 = .ok (.sipush 500, 3) := by decide +kernel
theorem dX5_init_8 : decode cX5_init 8 = .ok (.newarray .int, 2) := by decide +kernel
theorem dX5_init_10 : decode cX5_init 10 = .ok (.putfield 9, 3) := by decide +kernel
theorem dX5_init_13 : decode cX5_init 13 = .ok (.aload_n 0, 1) := by decide +kernel
theorem dX5_init_14 : decode cX5_init 14 = .ok (.sipush 500, 3) := by decide +kernel
theorem dX5_init_17 : decode cX5_init 17 = .ok (.newarray .int, 2) := by decide +kernel
theorem dX5_init_19 : decode cX5_init 19 = .ok (.putfield 15, 3) := by decide +kernel
theorem dX5_init_22 : decode cX5_init 22 = .ok (.aload_n 0, 1) := by decide +kernel
theorem dX5_init_23 : decode cX5_init 23 = .ok (.iconst 3, 1) := by decide +kernel
theorem dX5_init_24 : decode cX5_init 24 = .ok (.newarray .int, 2) := by decide +kernel
theorem dX5_init_26 : decode cX5_init 26 = .ok (.putfield 18, 3) := by decide +kernel
theorem dX5_init_29 : decode cX5_init 29 = .ok (.aload_n 0, 1) := by decide +kernel
theorem dX5_init_30 : decode cX5_init 30 = .ok (.iconst 3, 1) := by decide +kernel
theorem dX5_init_31 : decode cX5_init 31 = .ok (.newarray .int, 2) := by decide +kernel
theorem dX5_init_33 : decode cX5_init 33 = .ok (.putfield 21, 3) := by decide +kernel
theorem dX5_init_36 : decode cX5_init 36 = .ok (.aload_n 0, 1) := by decide +kernel
theorem dX5_init_37 : decode cX5_init 37 = .ok (.sipush 500, 3) := by decide +kernel
theorem dX5_init_40 : decode cX5_init 40 = .ok (.newarray .int, 2) := by decide +kernel
theorem dX5_init_42 : decode cX5_init 42 = .ok (.putfield 24, 3) := by decide +kernel
theorem dX5_init_45 : decode cX5_init 45 = .ok (.aload_n 0, 1) := by decide +kernel
theorem dX5_init_46 : decode cX5_init 46 = .ok (.sipush 500, 3) := by decide +kernel
theorem dX5_init_49 : decode cX5_init 49 = .ok (.newarray .int, 2) := by decide +kernel
theorem dX5_init_51 : decode cX5_init 51 = .ok (.putfield 27, 3) := by decide +kernel
theorem dX5_init_54 : decode cX5_init 54 = .ok (.aload_n 0, 1) := by decide +kernel
theorem dX5_init_55 : decode cX5_init 55 = .ok (.iconst 0, 1) := by decide +kernel
theorem dX5_init_56 : decode cX5_init 56 = .ok (.putfield 30, 3) := by decide +kernel
theorem dX5_init_59 : decode cX5_init 59 = .ok (.return_, 1) := by decide +kernel
theorem dX5_tonsIn_0 : decode cX5_tonsIn 0 = .ok (.aload_n 0, 1) := by decide +kernel
theorem dX5_tonsIn_1 : decode cX5_tonsIn 1 = .ok (.getfield 18, 3) := by decide +kernel
theorem dX5_tonsIn_4 : decode cX5_tonsIn 4 = .ok (.iload_n 1, 1) := by decide +kernel
theorem dX5_tonsIn_5 : decode cX5_tonsIn 5 = .ok (.iaload, 1) := by decide +kernel
theorem dX5_tonsIn_6 : decode cX5_tonsIn 6 = .ok (.ireturn, 1) := by decide +kernel
theorem dX5_lotsIn_0 : decode cX5_lotsIn 0 = .ok (.aload_n 0, 1) := by decide +kernel
theorem dX5_lotsIn_1 : decode cX5_lotsIn 1 = .ok (.getfield 21, 3) := by decide +kernel
theorem dX5_lotsIn_4 : decode cX5_lotsIn 4 = .ok (.iload_n 1, 1) := by decide +kernel
theorem dX5_lotsIn_5 : decode cX5_lotsIn 5 = .ok (.iaload, 1) := by decide +kernel
theorem dX5_lotsIn_6 : decode cX5_lotsIn 6 = .ok (.ireturn, 1) := by decide +kernel
theorem dX5_lotsInBag_0 : decode cX5_lotsInBag 0 = .ok (.aload_n 0, 1) := by decide +kernel
theorem dX5_lotsInBag_1 : decode cX5_lotsInBag 1 = .ok (.getfield 30, 3) := by decide +kernel
theorem dX5_lotsInBag_4 : decode cX5_lotsInBag 4 = .ok (.ireturn, 1) := by decide +kernel
theorem dX5_stepInBag_0 : decode cX5_stepInBag 0 = .ok (.aload_n 0, 1) := by decide +kernel
theorem dX5_stepInBag_1 : decode cX5_stepInBag 1 = .ok (.getfield 24, 3) := by decide +kernel
theorem dX5_stepInBag_4 : decode cX5_stepInBag 4 = .ok (.iload_n 1, 1) := by decide +kernel
theorem dX5_stepInBag_5 : decode cX5_stepInBag 5 = .ok (.iaload, 1) := by decide +kernel
theorem dX5_stepInBag_6 : decode cX5_stepInBag 6 = .ok (.ireturn, 1) := by decide +kernel
theorem dX5_tonsInBag_0 : decode cX5_tonsInBag 0 = .ok (.aload_n 0, 1) := by decide +kernel
theorem dX5_tonsInBag_1 : decode cX5_tonsInBag 1 = .ok (.getfield 27, 3) := by decide +kernel
theorem dX5_tonsInBag_4 : decode cX5_tonsInBag 4 = .ok (.iload_n 1, 1) := by decide +kernel
theorem dX5_tonsInBag_5 : decode cX5_tonsInBag 5 = .ok (.iaload, 1) := by decide +kernel
theorem dX5_tonsInBag_6 : decode cX5_tonsInBag 6 = .ok (.ireturn, 1) := by decide +kernel
theorem dX5_store_0 : decode cX5_store 0 = .ok (.aload_n 0, 1) := by decide +kernel
theorem dX5_store_1 : decode cX5_store 1 = .ok (.getfield 9, 3) := by decide +kernel
theorem dX5_store_4 : decode cX5_store 4 = .ok (.iload_n 1, 1) := by decide +kernel
theorem dX5_store_5 : decode cX5_store 5 = .ok (.iload_n 2, 1) := by decide +kernel
theorem dX5_store_6 : decode cX5_store 6 = .ok (.iastore, 1) := by decide +kernel
theorem dX5_store_7 : decode cX5_store 7 = .ok (.aload_n 0, 1) := by decide +kernel
theorem dX5_store_8 : decode cX5_store 8 = .ok (.getfield 15, 3) := by decide +kernel
theorem dX5_store_11 : decode cX5_store 11 = .ok (.iload_n 1, 1) := by decide +kernel
theorem dX5_store_12 : decode cX5_store 12 = .ok (.iload_n 3, 1) := by decide +kernel
theorem dX5_store_13 : decode cX5_store 13 = .ok (.iastore, 1) := by decide +kernel
theorem dX5_store_14 : decode cX5_store 14 = .ok (.aload_n 0, 1) := by decide +kernel
theorem dX5_store_15 : decode cX5_store 15 = .ok (.getfield 18, 3) := by decide +kernel
theorem dX5_store_18 : decode cX5_store 18 = .ok (.iload_n 2, 1) := by decide +kernel
theorem dX5_store_19 : decode cX5_store 19 = .ok (.dup2, 1) := by decide +kernel
theorem dX5_store_20 : decode cX5_store 20 = .ok (.iaload, 1) := by decide +kernel
theorem dX5_store_21 : decode cX5_store 21 = .ok (.iload_n 3, 1) := by decide +kernel
theorem dX5_store_22 : decode cX5_store 22 = .ok (.iadd, 1) := by decide +kernel
theorem dX5_store_23 : decode cX5_store 23 = .ok (.iastore, 1) := by decide +kernel
theorem dX5_store_24 : decode cX5_store 24 = .ok (.aload_n 0, 1) := by decide +kernel
theorem dX5_store_25 : decode cX5_store 25 = .ok (.getfield 21, 3) := by decide +kernel
theorem dX5_store_28 : decode cX5_store 28 = .ok (.iload_n 2, 1) := by decide +kernel
theorem dX5_store_29 : decode cX5_store 29 = .ok (.dup2, 1) := by decide +kernel
theorem dX5_store_30 : decode cX5_store 30 = .ok (.iaload, 1) := by decide +kernel
theorem dX5_store_31 : decode cX5_store 31 = .ok (.iconst 1, 1) := by decide +kernel
theorem dX5_store_32 : decode cX5_store 32 = .ok (.iadd, 1) := by decide +kernel
theorem dX5_store_33 : decode cX5_store 33 = .ok (.iastore, 1) := by decide +kernel
theorem dX5_store_34 : decode cX5_store 34 = .ok (.return_, 1) := by decide +kernel
theorem dX5_fill_0 : decode cX5_fill 0 = .ok (.iload_n 2, 1) := by decide +kernel
theorem dX5_fill_1 : decode cX5_fill 1 = .ok (.istore_n 3, 1) := by decide +kernel
theorem dX5_fill_2 : decode cX5_fill 2 = .ok (.aload_n 0, 1) := by decide +kernel
theorem dX5_fill_3 : decode cX5_fill 3 = .ok (.iconst 0, 1) := by decide +kernel
theorem dX5_fill_4 : decode cX5_fill 4 = .ok (.putfield 30, 3) := by decide +kernel
theorem dX5_fill_7 : decode cX5_fill 7 = .ok (.iconst 0, 1) := by decide +kernel
theorem dX5_fill_8 : decode cX5_fill 8 = .ok (.istore 4, 2) := by decide +kernel
theorem dX5_fill_10 : decode cX5_fill 10 = .ok (.iload 4, 2) := by decide +kernel
theorem dX5_fill_12 : decode cX5_fill 12 = .ok (.sipush 500, 3) := by decide +kernel
theorem dX5_fill_15 : decode cX5_fill 15 = .ok (.if_icmp .ge 44, 3) := by decide +kernel
theorem dX5_fill_18 : decode cX5_fill 18 = .ok (.iload_n 3, 1) := by decide +kernel
theorem dX5_fill_19 : decode cX5_fill 19 = .ok (.ifCond .le 40, 3) := by decide +kernel
theorem dX5_fill_22 : decode cX5_fill 22 = .ok (.aload_n 0, 1) := by decide +kernel
theorem dX5_fill_23 : decode cX5_fill 23 = .ok (.getfield 9, 3) := by decide +kernel
theorem dX5_fill_26 : decode cX5_fill 26 = .ok (.iload 4, 2) := by decide +kernel
theorem dX5_fill_28 : decode cX5_fill 28 = .ok (.iaload, 1) := by decide +kernel
theorem dX5_fill_29 : decode cX5_fill 29 = .ok (.iload_n 1, 1) := by decide +kernel
theorem dX5_fill_30 : decode cX5_fill 30 = .ok (.if_icmp .ne 23, 3) := by decide +kernel
theorem dX5_fill_33 : decode cX5_fill 33 = .ok (.aload_n 0, 1) := by decide +kernel
theorem dX5_fill_34 : decode cX5_fill 34 = .ok (.getfield 15, 3) := by decide +kernel
theorem dX5_fill_37 : decode cX5_fill 37 = .ok (.iload 4, 2) := by decide +kernel
theorem dX5_fill_39 : decode cX5_fill 39 = .ok (.iaload, 1) := by decide +kernel
theorem dX5_fill_40 : decode cX5_fill 40 = .ok (.ifCond .le 13, 3) := by decide +kernel
theorem dX5_fill_43 : decode cX5_fill 43 = .ok (.iload_n 3, 1) := by decide +kernel
theorem dX5_fill_44 : decode cX5_fill 44 = .ok (.aload_n 0, 1) := by decide +kernel
theorem dX5_fill_45 : decode cX5_fill 45 = .ok (.iload 4, 2) := by decide +kernel
theorem dX5_fill_47 : decode cX5_fill 47 = .ok (.iload_n 3, 1) := by decide +kernel
theorem dX5_fill_48 : decode cX5_fill 48 = .ok (.invokevirtual 34, 3) := by decide +kernel
theorem dX5_fill_51 : decode cX5_fill 51 = .ok (.isub, 1) := by decide +kernel
theorem dX5_fill_52 : decode cX5_fill 52 = .ok (.istore_n 3, 1) := by decide +kernel
theorem dX5_fill_53 : decode cX5_fill 53 = .ok (.iinc 4 1, 3) := by decide +kernel
theorem dX5_fill_56 : decode cX5_fill 56 = .ok (.goto (-46), 3) := by decide +kernel
theorem dX5_fill_59 : decode cX5_fill 59 = .ok (.aload_n 0, 1) := by decide +kernel
theorem dX5_fill_60 : decode cX5_fill 60 = .ok (.getfield 30, 3) := by decide +kernel
theorem dX5_fill_63 : decode cX5_fill 63 = .ok (.ireturn, 1) := by decide +kernel
theorem dX5_takeOf_0 : decode cX5_takeOf 0 = .ok (.aload_n 0, 1) := by decide +kernel
theorem dX5_takeOf_1 : decode cX5_takeOf 1 = .ok (.getfield 9, 3) := by decide +kernel
theorem dX5_takeOf_4 : decode cX5_takeOf 4 = .ok (.iload_n 1, 1) := by decide +kernel
theorem dX5_takeOf_5 : decode cX5_takeOf 5 = .ok (.iaload, 1) := by decide +kernel
theorem dX5_takeOf_6 : decode cX5_takeOf 6 = .ok (.istore_n 3, 1) := by decide +kernel
theorem dX5_takeOf_7 : decode cX5_takeOf 7 = .ok (.aload_n 0, 1) := by decide +kernel
theorem dX5_takeOf_8 : decode cX5_takeOf 8 = .ok (.getfield 15, 3) := by decide +kernel
theorem dX5_takeOf_11 : decode cX5_takeOf 11 = .ok (.iload_n 1, 1) := by decide +kernel
theorem dX5_takeOf_12 : decode cX5_takeOf 12 = .ok (.iaload, 1) := by decide +kernel
theorem dX5_takeOf_13 : decode cX5_takeOf 13 = .ok (.iload_n 2, 1) := by decide +kernel
theorem dX5_takeOf_14 : decode cX5_takeOf 14 = .ok (.invokestatic 38, 3) := by decide +kernel
theorem dX5_takeOf_17 : decode cX5_takeOf 17 = .ok (.istore 4, 2) := by decide +kernel
theorem dX5_takeOf_19 : decode cX5_takeOf 19 = .ok (.aload_n 0, 1) := by decide +kernel
theorem dX5_takeOf_20 : decode cX5_takeOf 20 = .ok (.getfield 15, 3) := by decide +kernel
theorem dX5_takeOf_23 : decode cX5_takeOf 23 = .ok (.iload_n 1, 1) := by decide +kernel
theorem dX5_takeOf_24 : decode cX5_takeOf 24 = .ok (.dup2, 1) := by decide +kernel
theorem dX5_takeOf_25 : decode cX5_takeOf 25 = .ok (.iaload, 1) := by decide +kernel
theorem dX5_takeOf_26 : decode cX5_takeOf 26 = .ok (.iload 4, 2) := by decide +kernel
theorem dX5_takeOf_28 : decode cX5_takeOf 28 = .ok (.isub, 1) := by decide +kernel
theorem dX5_takeOf_29 : decode cX5_takeOf 29 = .ok (.iastore, 1) := by decide +kernel
theorem dX5_takeOf_30 : decode cX5_takeOf 30 = .ok (.aload_n 0, 1) := by decide +kernel
theorem dX5_takeOf_31 : decode cX5_takeOf 31 = .ok (.getfield 18, 3) := by decide +kernel
theorem dX5_takeOf_34 : decode cX5_takeOf 34 = .ok (.iload_n 3, 1) := by decide +kernel
theorem dX5_takeOf_35 : decode cX5_takeOf 35 = .ok (.dup2, 1) := by decide +kernel
theorem dX5_takeOf_36 : decode cX5_takeOf 36 = .ok (.iaload, 1) := by decide +kernel
theorem dX5_takeOf_37 : decode cX5_takeOf 37 = .ok (.iload 4, 2) := by decide +kernel
theorem dX5_takeOf_39 : decode cX5_takeOf 39 = .ok (.isub, 1) := by decide +kernel
theorem dX5_takeOf_40 : decode cX5_takeOf 40 = .ok (.iastore, 1) := by decide +kernel
theorem dX5_takeOf_41 : decode cX5_takeOf 41 = .ok (.aload_n 0, 1) := by decide +kernel
theorem dX5_takeOf_42 : decode cX5_takeOf 42 = .ok (.getfield 15, 3) := by decide +kernel
theorem dX5_takeOf_45 : decode cX5_takeOf 45 = .ok (.iload_n 1, 1) := by decide +kernel
theorem dX5_takeOf_46 : decode cX5_takeOf 46 = .ok (.iaload, 1) := by decide +kernel
theorem dX5_takeOf_47 : decode cX5_takeOf 47 = .ok (.ifCond .ne 13, 3) := by decide +kernel
theorem dX5_takeOf_50 : decode cX5_takeOf 50 = .ok (.aload_n 0, 1) := by decide +kernel
theorem dX5_takeOf_51 : decode cX5_takeOf 51 = .ok (.getfield 21, 3) := by decide +kernel
theorem dX5_takeOf_54 : decode cX5_takeOf 54 = .ok (.iload_n 3, 1) := by decide +kernel
theorem dX5_takeOf_55 : decode cX5_takeOf 55 = .ok (.dup2, 1) := by decide +kernel
theorem dX5_takeOf_56 : decode cX5_takeOf 56 = .ok (.iaload, 1) := by decide +kernel
theorem dX5_takeOf_57 : decode cX5_takeOf 57 = .ok (.iconst 1, 1) := by decide +kernel
theorem dX5_takeOf_58 : decode cX5_takeOf 58 = .ok (.isub, 1) := by decide +kernel
theorem dX5_takeOf_59 : decode cX5_takeOf 59 = .ok (.iastore, 1) := by decide +kernel
theorem dX5_takeOf_60 : decode cX5_takeOf 60 = .ok (.aload_n 0, 1) := by decide +kernel
theorem dX5_takeOf_61 : decode cX5_takeOf 61 = .ok (.getfield 24, 3) := by decide +kernel
theorem dX5_takeOf_64 : decode cX5_takeOf 64 = .ok (.aload_n 0, 1) := by decide +kernel
theorem dX5_takeOf_65 : decode cX5_takeOf 65 = .ok (.getfield 30, 3) := by decide +kernel
theorem dX5_takeOf_68 : decode cX5_takeOf 68 = .ok (.iload_n 1, 1) := by decide +kernel
theorem dX5_takeOf_69 : decode cX5_takeOf 69 = .ok (.iastore, 1) := by decide +kernel
theorem dX5_takeOf_70 : decode cX5_takeOf 70 = .ok (.aload_n 0, 1) := by decide +kernel
theorem dX5_takeOf_71 : decode cX5_takeOf 71 = .ok (.getfield 27, 3) := by decide +kernel
theorem dX5_takeOf_74 : decode cX5_takeOf 74 = .ok (.aload_n 0, 1) := by decide +kernel
theorem dX5_takeOf_75 : decode cX5_takeOf 75 = .ok (.getfield 30, 3) := by decide +kernel
theorem dX5_takeOf_78 : decode cX5_takeOf 78 = .ok (.iload 4, 2) := by decide +kernel
theorem dX5_takeOf_80 : decode cX5_takeOf 80 = .ok (.iastore, 1) := by decide +kernel
theorem dX5_takeOf_81 : decode cX5_takeOf 81 = .ok (.aload_n 0, 1) := by decide +kernel
theorem dX5_takeOf_82 : decode cX5_takeOf 82 = .ok (.dup, 1) := by decide +kernel
theorem dX5_takeOf_83 : decode cX5_takeOf 83 = .ok (.getfield 30, 3) := by decide +kernel
theorem dX5_takeOf_86 : decode cX5_takeOf 86 = .ok (.iconst 1, 1) := by decide +kernel
theorem dX5_takeOf_87 : decode cX5_takeOf 87 = .ok (.iadd, 1) := by decide +kernel
theorem dX5_takeOf_88 : decode cX5_takeOf 88 = .ok (.putfield 30, 3) := by decide +kernel
theorem dX5_takeOf_91 : decode cX5_takeOf 91 = .ok (.iload 4, 2) := by decide +kernel
theorem dX5_takeOf_93 : decode cX5_takeOf 93 = .ok (.ireturn, 1) := by decide +kernel
theorem dX5_foldInto_0 : decode cX5_foldInto 0 = .ok (.lload_n 1, 1) := by decide +kernel
theorem dX5_foldInto_1 : decode cX5_foldInto 1 = .ok (.lstore_n 3, 1) := by decide +kernel
theorem dX5_foldInto_2 : decode cX5_foldInto 2 = .ok (.iconst 0, 1) := by decide +kernel
theorem dX5_foldInto_3 : decode cX5_foldInto 3 = .ok (.istore 5, 2) := by decide +kernel
theorem dX5_foldInto_5 : decode cX5_foldInto 5 = .ok (.iload 5, 2) := by decide +kernel
theorem dX5_foldInto_7 : decode cX5_foldInto 7 = .ok (.iconst 3, 1) := by decide +kernel
theorem dX5_foldInto_8 : decode cX5_foldInto 8 = .ok (.if_icmp .ge 35, 3) := by decide +kernel
theorem dX5_foldInto_11 : decode cX5_foldInto 11 = .ok (.lload_n 3, 1) := by decide +kernel
theorem dX5_foldInto_12 : decode cX5_foldInto 12 = .ok (.aload_n 0, 1) := by decide +kernel
theorem dX5_foldInto_13 : decode cX5_foldInto 13 = .ok (.getfield 18, 3) := by decide +kernel
theorem dX5_foldInto_16 : decode cX5_foldInto 16 = .ok (.iload 5, 2) := by decide +kernel
theorem dX5_foldInto_18 : decode cX5_foldInto 18 = .ok (.iaload, 1) := by decide +kernel
theorem dX5_foldInto_19 : decode cX5_foldInto 19 = .ok (.i2l, 1) := by decide +kernel
theorem dX5_foldInto_20 : decode cX5_foldInto 20 = .ok (.invokestatic 43, 3) := by decide +kernel
theorem dX5_foldInto_23 : decode cX5_foldInto 23 = .ok (.lstore_n 3, 1) := by decide +kernel
theorem dX5_foldInto_24 : decode cX5_foldInto 24 = .ok (.lload_n 3, 1) := by decide +kernel
theorem dX5_foldInto_25 : decode cX5_foldInto 25 = .ok (.aload_n 0, 1) := by decide +kernel
theorem dX5_foldInto_26 : decode cX5_foldInto 26 = .ok (.getfield 21, 3) := by decide +kernel
theorem dX5_foldInto_29 : decode cX5_foldInto 29 = .ok (.iload 5, 2) := by decide +kernel
theorem dX5_foldInto_31 : decode cX5_foldInto 31 = .ok (.iaload, 1) := by decide +kernel
theorem dX5_foldInto_32 : decode cX5_foldInto 32 = .ok (.i2l, 1) := by decide +kernel
theorem dX5_foldInto_33 : decode cX5_foldInto 33 = .ok (.invokestatic 43, 3) := by decide +kernel
theorem dX5_foldInto_36 : decode cX5_foldInto 36 = .ok (.lstore_n 3, 1) := by decide +kernel
theorem dX5_foldInto_37 : decode cX5_foldInto 37 = .ok (.iinc 5 1, 3) := by decide +kernel
theorem dX5_foldInto_40 : decode cX5_foldInto 40 = .ok (.goto (-35), 3) := by decide +kernel
theorem dX5_foldInto_43 : decode cX5_foldInto 43 = .ok (.lload_n 3, 1) := by decide +kernel
theorem dX5_foldInto_44 : decode cX5_foldInto 44 = .ok (.lreturn, 1) := by decide +kernel
theorem dX6_init_0 : decode cX6_init 0 = .ok (.aload_n 0, 1) := by decide +kernel
theorem dX6_init_1 : decode cX6_init 1 = .ok (.invokespecial 1, 3) := by decide +kernel
theorem dX6_init_4 : decode cX6_init 4 = .ok (.aload_n 0, 1) := by decide +kernel
theorem dX6_init_5 : decode cX6_init 5 = .ok (.new 7, 3) := by decide +kernel
theorem dX6_init_8 : decode cX6_init 8 = .ok (.dup, 1) := by decide +kernel
theorem dX6_init_9 : decode cX6_init 9 = .ok (.invokespecial 9, 3) := by decide +kernel
theorem dX6_init_12 : decode cX6_init 12 = .ok (.putfield 10, 3) := by decide +kernel
theorem dX6_init_15 : decode cX6_init 15 = .ok (.aload_n 0, 1) := by decide +kernel
theorem dX6_init_16 : decode cX6_init 16 = .ok (.new 16, 3) := by decide +kernel
theorem dX6_init_19 : decode cX6_init 19 = .ok (.dup, 1) := by decide +kernel
theorem dX6_init_20 : decode cX6_init 20 = .ok (.invokespecial 18, 3) := by decide +kernel
theorem dX6_init_23 : decode cX6_init 23 = .ok (.putfield 19, 3) := by decide +kernel
theorem dX6_init_26 : decode cX6_init 26 = .ok (.aload_n 0, 1) := by decide +kernel
theorem dX6_init_27 : decode cX6_init 27 = .ok (.new 23, 3) := by decide +kernel
theorem dX6_init_30 : decode cX6_init 30 = .ok (.dup, 1) := by decide +kernel
theorem dX6_init_31 : decode cX6_init 31 = .ok (.invokespecial 25, 3) := by decide +kernel
theorem dX6_init_34 : decode cX6_init 34 = .ok (.putfield 26, 3) := by decide +kernel
theorem dX6_init_37 : decode cX6_init 37 = .ok (.aload_n 0, 1) := by decide +kernel
theorem dX6_init_38 : decode cX6_init 38 = .ok (.new 30, 3) := by decide +kernel
theorem dX6_init_41 : decode cX6_init 41 = .ok (.dup, 1) := by decide +kernel
theorem dX6_init_42 : decode cX6_init 42 = .ok (.invokespecial 32, 3) := by decide +kernel
theorem dX6_init_45 : decode cX6_init 45 = .ok (.putfield 33, 3) := by decide +kernel
theorem dX6_init_48 : decode cX6_init 48 = .ok (.aload_n 0, 1) := by decide +kernel
theorem dX6_init_49 : decode cX6_init 49 = .ok (.new 37, 3) := by decide +kernel
theorem dX6_init_52 : decode cX6_init 52 = .ok (.dup, 1) := by decide +kernel
theorem dX6_init_53 : decode cX6_init 53 = .ok (.invokespecial 39, 3) := by decide +kernel
theorem dX6_init_56 : decode cX6_init 56 = .ok (.putfield 40, 3) := by decide +kernel
theorem dX6_init_59 : decode cX6_init 59 = .ok (.aload_n 0, 1) := by decide +kernel
theorem dX6_init_60 : decode cX6_init 60 = .ok (.new 44, 3) := by decide +kernel
theorem dX6_init_63 : decode cX6_init 63 = .ok (.dup, 1) := by decide +kernel
theorem dX6_init_64 : decode cX6_init 64 = .ok (.invokespecial 46, 3) := by decide +kernel
theorem dX6_init_67 : decode cX6_init 67 = .ok (.putfield 47, 3) := by decide +kernel
theorem dX6_init_70 : decode cX6_init 70 = .ok (.aload_n 0, 1) := by decide +kernel
theorem dX6_init_71 : decode cX6_init 71 = .ok (.lconst 0, 1) := by decide +kernel
theorem dX6_init_72 : decode cX6_init 72 = .ok (.putfield 51, 3) := by decide +kernel
theorem dX6_init_75 : decode cX6_init 75 = .ok (.aload_n 0, 1) := by decide +kernel
theorem dX6_init_76 : decode cX6_init 76 = .ok (.lconst 1, 1) := by decide +kernel
theorem dX6_init_77 : decode cX6_init 77 = .ok (.putfield 55, 3) := by decide +kernel
theorem dX6_init_80 : decode cX6_init 80 = .ok (.aload_n 0, 1) := by decide +kernel
theorem dX6_init_81 : decode cX6_init 81 = .ok (.lconst 0, 1) := by decide +kernel
theorem dX6_init_82 : decode cX6_init 82 = .ok (.putfield 58, 3) := by decide +kernel
theorem dX6_init_85 : decode cX6_init 85 = .ok (.return_, 1) := by decide +kernel
theorem dX6_stroke_0 : decode cX6_stroke 0 = .ok (.iload_n 2, 1) := by decide +kernel
theorem dX6_stroke_1 : decode cX6_stroke 1 = .ok (.i2l, 1) := by decide +kernel
theorem dX6_stroke_2 : decode cX6_stroke 2 = .ok (.ldc2_w 61, 3) := by decide +kernel
theorem dX6_stroke_5 : decode cX6_stroke 5 = .ok (.iload_n 3, 1) := by decide +kernel
theorem dX6_stroke_6 : decode cX6_stroke 6 = .ok (.i2l, 1) := by decide +kernel
theorem dX6_stroke_7 : decode cX6_stroke 7 = .ok (.lmul, 1) := by decide +kernel
theorem dX6_stroke_8 : decode cX6_stroke 8 = .ok (.ladd, 1) := by decide +kernel
theorem dX6_stroke_9 : decode cX6_stroke 9 = .ok (.lstore 4, 2) := by decide +kernel
theorem dX6_stroke_11 : decode cX6_stroke 11 = .ok (.iload_n 1, 1) := by decide +kernel
theorem dX6_stroke_12 : decode cX6_stroke 12 = .ok (.iconst 1, 1) := by decide +kernel
theorem dX6_stroke_13 : decode cX6_stroke 13 = .ok (.sipush 1000, 3) := by decide +kernel
theorem dX6_stroke_16 : decode cX6_stroke 16 = .ok (.invokestatic 63, 3) := by decide +kernel
theorem dX6_stroke_19 : decode cX6_stroke 19 = .ok (.ifCond .eq 27, 3) := by decide +kernel
theorem dX6_stroke_22 : decode cX6_stroke 22 = .ok (.iload_n 2, 1) := by decide +kernel
theorem dX6_stroke_23 : decode cX6_stroke 23 = .ok (.iconst 0, 1) := by decide +kernel
theorem dX6_stroke_24 : decode cX6_stroke 24 = .ok (.iload_n 1, 1) := by decide +kernel
theorem dX6_stroke_25 : decode cX6_stroke 25 = .ok (.invokestatic 63, 3) := by decide +kernel
theorem dX6_stroke_28 : decode cX6_stroke 28 = .ok (.ifCond .eq 18, 3) := by decide +kernel
theorem dX6_stroke_31 : decode cX6_stroke 31 = .ok (.lload 4, 2) := by decide +kernel
theorem dX6_stroke_33 : decode cX6_stroke 33 = .ok (.lconst 0, 1) := by decide +kernel
theorem dX6_stroke_34 : decode cX6_stroke 34 = .ok (.lcmp, 1) := by decide +kernel
theorem dX6_stroke_35 : decode cX6_stroke 35 = .ok (.ifCond .lt 11, 3) := by decide +kernel
theorem dX6_stroke_38 : decode cX6_stroke 38 = .ok (.lload 4, 2) := by decide +kernel
theorem dX6_stroke_40 : decode cX6_stroke 40 = .ok (.iload_n 1, 1) := by decide +kernel
theorem dX6_stroke_41 : decode cX6_stroke 41 = .ok (.i2l, 1) := by decide +kernel
theorem dX6_stroke_42 : decode cX6_stroke 42 = .ok (.lcmp, 1) := by decide +kernel
theorem dX6_stroke_43 : decode cX6_stroke 43 = .ok (.ifCond .le 5, 3) := by decide +kernel
theorem dX6_stroke_46 : decode cX6_stroke 46 = .ok (.iconst (-1), 1) := by decide +kernel
theorem dX6_stroke_47 : decode cX6_stroke 47 = .ok (.ireturn, 1) := by decide +kernel
theorem dX6_stroke_48 : decode cX6_stroke 48 = .ok (.aload_n 0, 1) := by decide +kernel
theorem dX6_stroke_49 : decode cX6_stroke 49 = .ok (.getfield 10, 3) := by decide +kernel
theorem dX6_stroke_52 : decode cX6_stroke 52 = .ok (.invokevirtual 67, 3) := by decide +kernel
theorem dX6_stroke_55 : decode cX6_stroke 55 = .ok (.bipush 30, 2) := by decide +kernel
theorem dX6_stroke_57 : decode cX6_stroke 57 = .ok (.if_icmp .lt 6, 3) := by decide +kernel
theorem dX6_stroke_60 : decode cX6_stroke 60 = .ok (.bipush (-2), 2) := by decide +kernel
theorem dX6_stroke_62 : decode cX6_stroke 62 = .ok (.ireturn, 1) := by decide +kernel
theorem dX6_stroke_63 : decode cX6_stroke 63 = .ok (.aload_n 0, 1) := by decide +kernel
theorem dX6_stroke_64 : decode cX6_stroke 64 = .ok (.getfield 10, 3) := by decide +kernel
theorem dX6_stroke_67 : decode cX6_stroke 67 = .ok (.iload_n 1, 1) := by decide +kernel
theorem dX6_stroke_68 : decode cX6_stroke 68 = .ok (.iload_n 2, 1) := by decide +kernel
theorem dX6_stroke_69 : decode cX6_stroke 69 = .ok (.iload_n 3, 1) := by decide +kernel
theorem dX6_stroke_70 : decode cX6_stroke 70 = .ok (.invokevirtual 71, 3) := by decide +kernel
theorem dX6_stroke_73 : decode cX6_stroke 73 = .ok (.ireturn, 1) := by decide +kernel
theorem dX6_cut_0 : decode cX6_cut 0 = .ok (.iload_n 1, 1) := by decide +kernel
theorem dX6_cut_1 : decode cX6_cut 1 = .ok (.iconst 0, 1) := by decide +kernel
theorem dX6_cut_2 : decode cX6_cut 2 = .ok (.bipush 9, 2) := by decide +kernel
theorem dX6_cut_4 : decode cX6_cut 4 = .ok (.invokestatic 63, 3) := by decide +kernel
theorem dX6_cut_7 : decode cX6_cut 7 = .ok (.ifCond .ne 5, 3) := by decide +kernel
theorem dX6_cut_10 : decode cX6_cut 10 = .ok (.iconst (-1), 1) := by decide +kernel
theorem dX6_cut_11 : decode cX6_cut 11 = .ok (.ireturn, 1) := by decide +kernel
theorem dX6_cut_12 : decode cX6_cut 12 = .ok (.aload_n 0, 1) := by decide +kernel
theorem dX6_cut_13 : decode cX6_cut 13 = .ok (.getfield 10, 3) := by decide +kernel
theorem dX6_cut_16 : decode cX6_cut 16 = .ok (.iload_n 1, 1) := by decide +kernel
theorem dX6_cut_17 : decode cX6_cut 17 = .ok (.invokevirtual 75, 3) := by decide +kernel
theorem dX6_cut_20 : decode cX6_cut 20 = .ok (.ifCond .eq 6, 3) := by decide +kernel
theorem dX6_cut_23 : decode cX6_cut 23 = .ok (.bipush (-4), 2) := by decide +kernel
theorem dX6_cut_25 : decode cX6_cut 25 = .ok (.ireturn, 1) := by decide +kernel
theorem dX6_cut_26 : decode cX6_cut 26 = .ok (.aload_n 0, 1) := by decide +kernel
theorem dX6_cut_27 : decode cX6_cut 27 = .ok (.aload_n 0, 1) := by decide +kernel
theorem dX6_cut_28 : decode cX6_cut 28 = .ok (.getfield 10, 3) := by decide +kernel
theorem dX6_cut_31 : decode cX6_cut 31 = .ok (.iload_n 1, 1) := by decide +kernel
theorem dX6_cut_32 : decode cX6_cut 32 = .ok (.invokevirtual 79, 3) := by decide +kernel
theorem dX6_cut_35 : decode cX6_cut 35 = .ok (.i2l, 1) := by decide +kernel
theorem dX6_cut_36 : decode cX6_cut 36 = .ok (.putfield 58, 3) := by decide +kernel
theorem dX6_cut_39 : decode cX6_cut 39 = .ok (.aload_n 0, 1) := by decide +kernel
theorem dX6_cut_40 : decode cX6_cut 40 = .ok (.getfield 10, 3) := by decide +kernel
theorem dX6_cut_43 : decode cX6_cut 43 = .ok (.iload_n 1, 1) := by decide +kernel
theorem dX6_cut_44 : decode cX6_cut 44 = .ok (.invokevirtual 83, 3) := by decide +kernel
theorem dX6_cut_47 : decode cX6_cut 47 = .ok (.ireturn, 1) := by decide +kernel
theorem dX6_place_0 : decode cX6_place 0 = .ok (.iload_n 1, 1) := by decide +kernel
theorem dX6_place_1 : decode cX6_place 1 = .ok (.iconst 0, 1) := by decide +kernel
theorem dX6_place_2 : decode cX6_place 2 = .ok (.bipush 9, 2) := by decide +kernel
theorem dX6_place_4 : decode cX6_place 4 = .ok (.invokestatic 63, 3) := by decide +kernel
theorem dX6_place_7 : decode cX6_place 7 = .ok (.ifCond .eq 12, 3) := by decide +kernel
theorem dX6_place_10 : decode cX6_place 10 = .ok (.iload_n 2, 1) := by decide +kernel
theorem dX6_place_11 : decode cX6_place 11 = .ok (.iconst 0, 1) := by decide +kernel
theorem dX6_place_12 : decode cX6_place 12 = .ok (.iconst 1, 1) := by decide +kernel
theorem dX6_place_13 : decode cX6_place 13 = .ok (.invokestatic 63, 3) := by decide +kernel
theorem dX6_place_16 : decode cX6_place 16 = .ok (.ifCond .ne 5, 3) := by decide +kernel
theorem dX6_place_19 : decode cX6_place 19 = .ok (.iconst (-1), 1) := by decide +kernel
theorem dX6_place_20 : decode cX6_place 20 = .ok (.ireturn, 1) := by decide +kernel
theorem dX6_place_21 : decode cX6_place 21 = .ok (.iload_n 2, 1) := by decide +kernel
theorem dX6_place_22 : decode cX6_place 22 = .ok (.ifCond .ne 14, 3) := by decide +kernel
theorem dX6_place_25 : decode cX6_place 25 = .ok (.aload_n 0, 1) := by decide +kernel
theorem dX6_place_26 : decode cX6_place 26 = .ok (.getfield 10, 3) := by decide +kernel
theorem dX6_place_29 : decode cX6_place 29 = .ok (.iload_n 1, 1) := by decide +kernel
theorem dX6_place_30 : decode cX6_place 30 = .ok (.invokevirtual 86, 3) := by decide +kernel
theorem dX6_place_33 : decode cX6_place 33 = .ok (.goto 11, 3) := by decide +kernel
theorem dX6_place_36 : decode cX6_place 36 = .ok (.aload_n 0, 1) := by decide +kernel
theorem dX6_place_37 : decode cX6_place 37 = .ok (.getfield 10, 3) := by decide +kernel
theorem dX6_place_40 : decode cX6_place 40 = .ok (.iload_n 1, 1) := by decide +kernel
theorem dX6_place_41 : decode cX6_place 41 = .ok (.invokevirtual 79, 3) := by decide +kernel
theorem dX6_place_44 : decode cX6_place 44 = .ok (.ireturn, 1) := by decide +kernel
theorem dX6_spread_0 : decode cX6_spread 0 = .ok (.aload_n 0, 1) := by decide +kernel
theorem dX6_spread_1 : decode cX6_spread 1 = .ok (.getfield 10, 3) := by decide +kernel
theorem dX6_spread_4 : decode cX6_spread 4 = .ok (.invokevirtual 89, 3) := by decide +kernel
theorem dX6_spread_7 : decode cX6_spread 7 = .ok (.ireturn, 1) := by decide +kernel
theorem dX6_strokeSpread_0 : decode cX6_strokeSpread 0 = .ok (.iload_n 1, 1) := by decide +kernel
theorem dX6_strokeSpread_1 : decode cX6_strokeSpread 1 = .ok (.iconst 0, 1) := by decide +kernel
theorem dX6_strokeSpread_2 : decode cX6_strokeSpread 2 = .ok (.aload_n 0, 1) := by decide +kernel
theorem dX6_strokeSpread_3 : decode cX6_strokeSpread 3 = .ok (.getfield 10, 3) := by decide +kernel
theorem dX6_strokeSpread_6 : decode cX6_strokeSpread 6 = .ok (.invokevirtual 67, 3) := by decide +kernel
theorem dX6_strokeSpread_9 : decode cX6_strokeSpread 9 = .ok (.iconst 1, 1) := by decide +kernel
theorem dX6_strokeSpread_10 : decode cX6_strokeSpread 10 = .ok (.isub, 1) := by decide +kernel
theorem dX6_strokeSpread_11 : decode cX6_strokeSpread 11 = .ok (.invokestatic 63, 3) := by decide +kernel
theorem dX6_strokeSpread_14 : decode cX6_strokeSpread 14 = .ok (.ifCond .ne 5, 3) := by decide +kernel
theorem dX6_strokeSpread_17 : decode cX6_strokeSpread 17 = .ok (.iconst (-1), 1) := by decide +kernel
theorem dX6_strokeSpread_18 : decode cX6_strokeSpread 18 = .ok (.ireturn, 1) := by decide +kernel
theorem dX6_strokeSpread_19 : decode cX6_strokeSpread 19 = .ok (.aload_n 0, 1) := by decide +kernel
theorem dX6_strokeSpread_20 : decode cX6_strokeSpread 20 = .ok (.getfield 10, 3) := by decide +kernel
theorem dX6_strokeSpread_23 : decode cX6_strokeSpread 23 = .ok (.iload_n 1, 1) := by decide +kernel
theorem dX6_strokeSpread_24 : decode cX6_strokeSpread 24 = .ok (.invokevirtual 92, 3) := by decide +kernel
theorem dX6_strokeSpread_27 : decode cX6_strokeSpread 27 = .ok (.ireturn, 1) := by decide +kernel
theorem dX6_clear_0 : decode cX6_clear 0 = .ok (.aload_n 0, 1) := by decide +kernel
theorem dX6_clear_1 : decode cX6_clear 1 = .ok (.getfield 10, 3) := by decide +kernel
theorem dX6_clear_4 : decode cX6_clear 4 = .ok (.invokevirtual 95, 3) := by decide +kernel
theorem dX6_clear_7 : decode cX6_clear 7 = .ok (.ireturn, 1) := by decide +kernel
theorem dX6_stock_0 : decode cX6_stock 0 = .ok (.iload_n 1, 1) := by decide +kernel
theorem dX6_stock_1 : decode cX6_stock 1 = .ok (.iconst 0, 1) := by decide +kernel
theorem dX6_stock_2 : decode cX6_stock 2 = .ok (.iconst 3, 1) := by decide +kernel
theorem dX6_stock_3 : decode cX6_stock 3 = .ok (.invokestatic 63, 3) := by decide +kernel
theorem dX6_stock_6 : decode cX6_stock 6 = .ok (.ifCond .eq 13, 3) := by decide +kernel
theorem dX6_stock_9 : decode cX6_stock 9 = .ok (.iload_n 2, 1) := by decide +kernel
theorem dX6_stock_10 : decode cX6_stock 10 = .ok (.iload_n 3, 1) := by decide +kernel
theorem dX6_stock_11 : decode cX6_stock 11 = .ok (.iload 4, 2) := by decide +kernel
theorem dX6_stock_13 : decode cX6_stock 13 = .ok (.invokestatic 98, 3) := by decide +kernel
theorem dX6_stock_16 : decode cX6_stock 16 = .ok (.ifCond .ne 5, 3) := by decide +kernel
theorem dX6_stock_19 : decode cX6_stock 19 = .ok (.iconst (-1), 1) := by decide +kernel
theorem dX6_stock_20 : decode cX6_stock 20 = .ok (.ireturn, 1) := by decide +kernel
theorem dX6_stock_21 : decode cX6_stock 21 = .ok (.aload_n 0, 1) := by decide +kernel
theorem dX6_stock_22 : decode cX6_stock 22 = .ok (.getfield 19, 3) := by decide +kernel
theorem dX6_stock_25 : decode cX6_stock 25 = .ok (.iload_n 1, 1) := by decide +kernel
theorem dX6_stock_26 : decode cX6_stock 26 = .ok (.iload_n 2, 1) := by decide +kernel
theorem dX6_stock_27 : decode cX6_stock 27 = .ok (.iload_n 3, 1) := by decide +kernel
theorem dX6_stock_28 : decode cX6_stock 28 = .ok (.iload 4, 2) := by decide +kernel
theorem dX6_stock_30 : decode cX6_stock 30 = .ok (.invokevirtual 101, 3) := by decide +kernel
theorem dX6_stock_33 : decode cX6_stock 33 = .ok (.iconst 1, 1) := by decide +kernel
theorem dX6_stock_34 : decode cX6_stock 34 = .ok (.ireturn, 1) := by decide +kernel
theorem dX6_share_0 : decode cX6_share 0 = .ok (.iload_n 1, 1) := by decide +kernel
theorem dX6_share_1 : decode cX6_share 1 = .ok (.iload_n 2, 1) := by decide +kernel
theorem dX6_share_2 : decode cX6_share 2 = .ok (.iload_n 3, 1) := by decide +kernel
theorem dX6_share_3 : decode cX6_share 3 = .ok (.invokestatic 98, 3) := by decide +kernel
theorem dX6_share_6 : decode cX6_share 6 = .ok (.ifCond .ne 5, 3) := by decide +kernel
theorem dX6_share_9 : decode cX6_share 9 = .ok (.iconst (-1), 1) := by decide +kernel
theorem dX6_share_10 : decode cX6_share 10 = .ok (.ireturn, 1) := by decide +kernel
theorem dX6_share_11 : decode cX6_share 11 = .ok (.aload_n 0, 1) := by decide +kernel
theorem dX6_share_12 : decode cX6_share 12 = .ok (.getfield 19, 3) := by decide +kernel
theorem dX6_share_15 : decode cX6_share 15 = .ok (.iload_n 1, 1) := by decide +kernel
theorem dX6_share_16 : decode cX6_share 16 = .ok (.iload_n 2, 1) := by decide +kernel
theorem dX6_share_17 : decode cX6_share 17 = .ok (.iload_n 3, 1) := by decide +kernel
theorem dX6_share_18 : decode cX6_share 18 = .ok (.invokevirtual 105, 3) := by decide +kernel
theorem dX6_share_21 : decode cX6_share 21 = .ok (.iconst 1, 1) := by decide +kernel
theorem dX6_share_22 : decode cX6_share 22 = .ok (.ireturn, 1) := by decide +kernel
theorem dX6_shareOf_0 : decode cX6_shareOf 0 = .ok (.iload_n 1, 1) := by decide +kernel
theorem dX6_shareOf_1 : decode cX6_shareOf 1 = .ok (.iconst 0, 1) := by decide +kernel
theorem dX6_shareOf_2 : decode cX6_shareOf 2 = .ok (.iconst 3, 1) := by decide +kernel
theorem dX6_shareOf_3 : decode cX6_shareOf 3 = .ok (.invokestatic 63, 3) := by decide +kernel
theorem dX6_shareOf_6 : decode cX6_shareOf 6 = .ok (.ifCond .ne 5, 3) := by decide +kernel
theorem dX6_shareOf_9 : decode cX6_shareOf 9 = .ok (.iconst (-1), 1) := by decide +kernel
theorem dX6_shareOf_10 : decode cX6_shareOf 10 = .ok (.ireturn, 1) := by decide +kernel
theorem dX6_shareOf_11 : decode cX6_shareOf 11 = .ok (.aload_n 0, 1) := by decide +kernel
theorem dX6_shareOf_12 : decode cX6_shareOf 12 = .ok (.getfield 19, 3) := by decide +kernel
theorem dX6_shareOf_15 : decode cX6_shareOf 15 = .ok (.iload_n 1, 1) := by decide +kernel
theorem dX6_shareOf_16 : decode cX6_shareOf 16 = .ok (.invokevirtual 109, 3) := by decide +kernel
theorem dX6_shareOf_19 : decode cX6_shareOf 19 = .ok (.ireturn, 1) := by decide +kernel
theorem dX6_mix_0 : decode cX6_mix 0 = .ok (.iload_n 1, 1) := by decide +kernel
theorem dX6_mix_1 : decode cX6_mix 1 = .ok (.iconst 0, 1) := by decide +kernel
theorem dX6_mix_2 : decode cX6_mix 2 = .ok (.iconst 3, 1) := by decide +kernel
theorem dX6_mix_3 : decode cX6_mix 3 = .ok (.invokestatic 63, 3) := by decide +kernel
theorem dX6_mix_6 : decode cX6_mix 6 = .ok (.ifCond .ne 5, 3) := by decide +kernel
theorem dX6_mix_9 : decode cX6_mix 9 = .ok (.iconst (-1), 1) := by decide +kernel
theorem dX6_mix_10 : decode cX6_mix 10 = .ok (.ireturn, 1) := by decide +kernel
theorem dX6_mix_11 : decode cX6_mix 11 = .ok (.aload_n 0, 1) := by decide +kernel
theorem dX6_mix_12 : decode cX6_mix 12 = .ok (.getfield 19, 3) := by decide +kernel
theorem dX6_mix_15 : decode cX6_mix 15 = .ok (.iload_n 1, 1) := by decide +kernel
theorem dX6_mix_16 : decode cX6_mix 16 = .ok (.invokevirtual 112, 3) := by decide +kernel
theorem dX6_mix_19 : decode cX6_mix 19 = .ok (.ireturn, 1) := by decide +kernel
theorem dX6_number_0 : decode cX6_number 0 = .ok (.aload_n 0, 1) := by decide +kernel
theorem dX6_number_1 : decode cX6_number 1 = .ok (.getfield 19, 3) := by decide +kernel
theorem dX6_number_4 : decode cX6_number 4 = .ok (.invokevirtual 115, 3) := by decide +kernel
theorem dX6_number_7 : decode cX6_number 7 = .ok (.istore_n 1, 1) := by decide +kernel
theorem dX6_number_8 : decode cX6_number 8 = .ok (.aload_n 0, 1) := by decide +kernel
theorem dX6_number_9 : decode cX6_number 9 = .ok (.getfield 19, 3) := by decide +kernel
theorem dX6_number_12 : decode cX6_number 12 = .ok (.invokevirtual 118, 3) := by decide +kernel
theorem dX6_number_15 : decode cX6_number 15 = .ok (.istore_n 2, 1) := by decide +kernel
theorem dX6_number_16 : decode cX6_number 16 = .ok (.iload_n 2, 1) := by decide +kernel
theorem dX6_number_17 : decode cX6_number 17 = .ok (.ifCond .ne 12, 3) := by decide +kernel
theorem dX6_number_20 : decode cX6_number 20 = .ok (.aload_n 0, 1) := by decide +kernel
theorem dX6_number_21 : decode cX6_number 21 = .ok (.getfield 47, 3) := by decide +kernel
theorem dX6_number_24 : decode cX6_number 24 = .ok (.iconst 4, 1) := by decide +kernel
theorem dX6_number_25 : decode cX6_number 25 = .ok (.invokevirtual 121, 3) := by decide +kernel
theorem dX6_number_28 : decode cX6_number 28 = .ok (.ireturn, 1) := by decide +kernel
theorem dX6_number_29 : decode cX6_number 29 = .ok (.iload_n 1, 1) := by decide +kernel
theorem dX6_number_30 : decode cX6_number 30 = .ok (.iload_n 2, 1) := by decide +kernel
theorem dX6_number_31 : decode cX6_number 31 = .ok (.invokestatic 124, 3) := by decide +kernel
theorem dX6_number_34 : decode cX6_number 34 = .ok (.istore_n 3, 1) := by decide +kernel
theorem dX6_number_35 : decode cX6_number 35 = .ok (.aload_n 0, 1) := by decide +kernel
theorem dX6_number_36 : decode cX6_number 36 = .ok (.iload_n 1, 1) := by decide +kernel
theorem dX6_number_37 : decode cX6_number 37 = .ok (.iload_n 3, 1) := by decide +kernel
theorem dX6_number_38 : decode cX6_number 38 = .ok (.idiv, 1) := by decide +kernel
theorem dX6_number_39 : decode cX6_number 39 = .ok (.i2l, 1) := by decide +kernel
theorem dX6_number_40 : decode cX6_number 40 = .ok (.putfield 51, 3) := by decide +kernel
theorem dX6_number_43 : decode cX6_number 43 = .ok (.aload_n 0, 1) := by decide +kernel
theorem dX6_number_44 : decode cX6_number 44 = .ok (.iload_n 2, 1) := by decide +kernel
theorem dX6_number_45 : decode cX6_number 45 = .ok (.iload_n 3, 1) := by decide +kernel
theorem dX6_number_46 : decode cX6_number 46 = .ok (.idiv, 1) := by decide +kernel
theorem dX6_number_47 : decode cX6_number 47 = .ok (.i2l, 1) := by decide +kernel
theorem dX6_number_48 : decode cX6_number 48 = .ok (.putfield 55, 3) := by decide +kernel
theorem dX6_number_51 : decode cX6_number 51 = .ok (.iconst 1, 1) := by decide +kernel
theorem dX6_number_52 : decode cX6_number 52 = .ok (.ireturn, 1) := by decide +kernel
theorem dX6_aim_0 : decode cX6_aim 0 = .ok (.iload_n 1, 1) := by decide +kernel
theorem dX6_aim_1 : decode cX6_aim 1 = .ok (.iconst 1, 1) := by decide +kernel
theorem dX6_aim_2 : decode cX6_aim 2 = .ok (.sipush 1000, 3) := by decide +kernel
theorem dX6_aim_5 : decode cX6_aim 5 = .ok (.invokestatic 63, 3) := by decide +kernel
theorem dX6_aim_8 : decode cX6_aim 8 = .ok (.ifCond .eq 14, 3) := by decide +kernel
theorem dX6_aim_11 : decode cX6_aim 11 = .ok (.iload_n 2, 1) := by decide +kernel
theorem dX6_aim_12 : decode cX6_aim 12 = .ok (.iconst 1, 1) := by decide +kernel
theorem dX6_aim_13 : decode cX6_aim 13 = .ok (.sipush 1000, 3) := by decide +kernel
theorem dX6_aim_16 : decode cX6_aim 16 = .ok (.invokestatic 63, 3) := by decide +kernel
theorem dX6_aim_19 : decode cX6_aim 19 = .ok (.ifCond .ne 5, 3) := by decide +kernel
theorem dX6_aim_22 : decode cX6_aim 22 = .ok (.iconst (-1), 1) := by decide +kernel
theorem dX6_aim_23 : decode cX6_aim 23 = .ok (.ireturn, 1) := by decide +kernel
theorem dX6_aim_24 : decode cX6_aim 24 = .ok (.aload_n 0, 1) := by decide +kernel
theorem dX6_aim_25 : decode cX6_aim 25 = .ok (.getfield 19, 3) := by decide +kernel
theorem dX6_aim_28 : decode cX6_aim 28 = .ok (.iload_n 1, 1) := by decide +kernel
theorem dX6_aim_29 : decode cX6_aim 29 = .ok (.iload_n 2, 1) := by decide +kernel
theorem dX6_aim_30 : decode cX6_aim 30 = .ok (.invokevirtual 128, 3) := by decide +kernel
theorem dX6_aim_33 : decode cX6_aim 33 = .ok (.iconst 1, 1) := by decide +kernel
theorem dX6_aim_34 : decode cX6_aim 34 = .ok (.ireturn, 1) := by decide +kernel
theorem dX6_rule_0 : decode cX6_rule 0 = .ok (.iload_n 1, 1) := by decide +kernel
theorem dX6_rule_1 : decode cX6_rule 1 = .ok (.iconst 0, 1) := by decide +kernel
theorem dX6_rule_2 : decode cX6_rule 2 = .ok (.iconst 5, 1) := by decide +kernel
theorem dX6_rule_3 : decode cX6_rule 3 = .ok (.invokestatic 63, 3) := by decide +kernel
theorem dX6_rule_6 : decode cX6_rule 6 = .ok (.ifCond .eq 13, 3) := by decide +kernel
theorem dX6_rule_9 : decode cX6_rule 9 = .ok (.iload_n 2, 1) := by decide +kernel
theorem dX6_rule_10 : decode cX6_rule 10 = .ok (.iconst 0, 1) := by decide +kernel
theorem dX6_rule_11 : decode cX6_rule 11 = .ok (.bipush 100, 2) := by decide +kernel
theorem dX6_rule_13 : decode cX6_rule 13 = .ok (.invokestatic 63, 3) := by decide +kernel
theorem dX6_rule_16 : decode cX6_rule 16 = .ok (.ifCond .ne 5, 3) := by decide +kernel
theorem dX6_rule_19 : decode cX6_rule 19 = .ok (.iconst (-1), 1) := by decide +kernel
theorem dX6_rule_20 : decode cX6_rule 20 = .ok (.ireturn, 1) := by decide +kernel
theorem dX6_rule_21 : decode cX6_rule 21 = .ok (.aload_n 0, 1) := by decide +kernel
theorem dX6_rule_22 : decode cX6_rule 22 = .ok (.getfield 19, 3) := by decide +kernel
theorem dX6_rule_25 : decode cX6_rule 25 = .ok (.iload_n 1, 1) := by decide +kernel
theorem dX6_rule_26 : decode cX6_rule 26 = .ok (.iload_n 2, 1) := by decide +kernel
theorem dX6_rule_27 : decode cX6_rule 27 = .ok (.invokevirtual 132, 3) := by decide +kernel
theorem dX6_rule_30 : decode cX6_rule 30 = .ok (.iconst 1, 1) := by decide +kernel
theorem dX6_rule_31 : decode cX6_rule 31 = .ok (.ireturn, 1) := by decide +kernel
theorem dX6_hour_0 : decode cX6_hour 0 = .ok (.aload_n 0, 1) := by decide +kernel
theorem dX6_hour_1 : decode cX6_hour 1 = .ok (.getfield 19, 3) := by decide +kernel
theorem dX6_hour_4 : decode cX6_hour 4 = .ok (.invokevirtual 135, 3) := by decide +kernel
theorem dX6_hour_7 : decode cX6_hour 7 = .ok (.sipush 200, 3) := by decide +kernel
theorem dX6_hour_10 : decode cX6_hour 10 = .ok (.if_icmp .lt 6, 3) := by decide +kernel
theorem dX6_hour_13 : decode cX6_hour 13 = .ok (.bipush (-2), 2) := by decide +kernel
theorem dX6_hour_15 : decode cX6_hour 15 = .ok (.ireturn, 1) := by decide +kernel
theorem dX6_hour_16 : decode cX6_hour 16 = .ok (.aload_n 0, 1) := by decide +kernel
theorem dX6_hour_17 : decode cX6_hour 17 = .ok (.getfield 19, 3) := by decide +kernel
theorem dX6_hour_20 : decode cX6_hour 20 = .ok (.iload_n 1, 1) := by decide +kernel
theorem dX6_hour_21 : decode cX6_hour 21 = .ok (.invokevirtual 138, 3) := by decide +kernel
theorem dX6_hour_24 : decode cX6_hour 24 = .ok (.ireturn, 1) := by decide +kernel
theorem dX6_read_0 : decode cX6_read 0 = .ok (.aload_n 0, 1) := by decide +kernel
theorem dX6_read_1 : decode cX6_read 1 = .ok (.getfield 19, 3) := by decide +kernel
theorem dX6_read_4 : decode cX6_read 4 = .ok (.invokevirtual 142, 3) := by decide +kernel
theorem dX6_read_7 : decode cX6_read 7 = .ok (.ireturn, 1) := by decide +kernel
theorem dX6_passed_0 : decode cX6_passed 0 = .ok (.aload_n 0, 1) := by decide +kernel
theorem dX6_passed_1 : decode cX6_passed 1 = .ok (.getfield 19, 3) := by decide +kernel
theorem dX6_passed_4 : decode cX6_passed 4 = .ok (.invokevirtual 145, 3) := by decide +kernel
theorem dX6_passed_7 : decode cX6_passed 7 = .ok (.ireturn, 1) := by decide +kernel
theorem dX6_step_0 : decode cX6_step 0 = .ok (.iload_n 1, 1) := by decide +kernel
theorem dX6_step_1 : decode cX6_step 1 = .ok (.iconst 0, 1) := by decide +kernel
theorem dX6_step_2 : decode cX6_step 2 = .ok (.sipush 1000, 3) := by decide +kernel
theorem dX6_step_5 : decode cX6_step 5 = .ok (.invokestatic 63, 3) := by decide +kernel
theorem dX6_step_8 : decode cX6_step 8 = .ok (.ifCond .eq 23, 3) := by decide +kernel
theorem dX6_step_11 : decode cX6_step 11 = .ok (.iload_n 2, 1) := by decide +kernel
theorem dX6_step_12 : decode cX6_step 12 = .ok (.iconst 0, 1) := by decide +kernel
theorem dX6_step_13 : decode cX6_step 13 = .ok (.ldc 148, 2) := by decide +kernel
theorem dX6_step_15 : decode cX6_step 15 = .ok (.invokestatic 63, 3) := by decide +kernel
theorem dX6_step_18 : decode cX6_step 18 = .ok (.ifCond .eq 13, 3) := by decide +kernel
theorem dX6_step_21 : decode cX6_step 21 = .ok (.iload_n 3, 1) := by decide +kernel
theorem dX6_step_22 : decode cX6_step 22 = .ok (.iconst 0, 1) := by decide +kernel
theorem dX6_step_23 : decode cX6_step 23 = .ok (.bipush 100, 2) := by decide +kernel
theorem dX6_step_25 : decode cX6_step 25 = .ok (.invokestatic 63, 3) := by decide +kernel
theorem dX6_step_28 : decode cX6_step 28 = .ok (.ifCond .ne 5, 3) := by decide +kernel
theorem dX6_step_31 : decode cX6_step 31 = .ok (.iconst (-1), 1) := by decide +kernel
theorem dX6_step_32 : decode cX6_step 32 = .ok (.ireturn, 1) := by decide +kernel
theorem dX6_step_33 : decode cX6_step 33 = .ok (.aload_n 0, 1) := by decide +kernel
theorem dX6_step_34 : decode cX6_step 34 = .ok (.getfield 26, 3) := by decide +kernel
theorem dX6_step_37 : decode cX6_step 37 = .ok (.invokevirtual 149, 3) := by decide +kernel
theorem dX6_step_40 : decode cX6_step 40 = .ok (.istore 4, 2) := by decide +kernel
theorem dX6_step_42 : decode cX6_step 42 = .ok (.iload 4, 2) := by decide +kernel
theorem dX6_step_44 : decode cX6_step 44 = .ok (.sipush 500, 3) := by decide +kernel
theorem dX6_step_47 : decode cX6_step 47 = .ok (.if_icmp .lt 6, 3) := by decide +kernel
theorem dX6_step_50 : decode cX6_step 50 = .ok (.bipush (-2), 2) := by decide +kernel
theorem dX6_step_52 : decode cX6_step 52 = .ok (.ireturn, 1) := by decide +kernel
theorem dX6_step_53 : decode cX6_step 53 = .ok (.aload_n 0, 1) := by decide +kernel
theorem dX6_step_54 : decode cX6_step 54 = .ok (.getfield 26, 3) := by decide +kernel
theorem dX6_step_57 : decode cX6_step 57 = .ok (.iload_n 1, 1) := by decide +kernel
theorem dX6_step_58 : decode cX6_step 58 = .ok (.iload_n 2, 1) := by decide +kernel
theorem dX6_step_59 : decode cX6_step 59 = .ok (.iload_n 3, 1) := by decide +kernel
theorem dX6_step_60 : decode cX6_step 60 = .ok (.invokevirtual 152, 3) := by decide +kernel
theorem dX6_step_63 : decode cX6_step 63 = .ok (.istore 5, 2) := by decide +kernel
theorem dX6_step_65 : decode cX6_step 65 = .ok (.aload_n 0, 1) := by decide +kernel
theorem dX6_step_66 : decode cX6_step 66 = .ok (.getfield 26, 3) := by decide +kernel
theorem dX6_step_69 : decode cX6_step 69 = .ok (.iconst 0, 1) := by decide +kernel
theorem dX6_step_70 : decode cX6_step 70 = .ok (.invokevirtual 155, 3) := by decide +kernel
theorem dX6_step_73 : decode cX6_step 73 = .ok (.istore 6, 2) := by decide +kernel
theorem dX6_step_75 : decode cX6_step 75 = .ok (.iload 6, 2) := by decide +kernel
