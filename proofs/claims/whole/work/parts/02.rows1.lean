theorem dX6_step_77 : decode cX6_step 77 = .ok (.ifCond .le 22, 3) := by decide +kernel
theorem dX6_step_80 : decode cX6_step 80 = .ok (.aload_n 0, 1) := by decide +kernel
theorem dX6_step_81 : decode cX6_step 81 = .ok (.getfield 33, 3) := by decide +kernel
theorem dX6_step_84 : decode cX6_step 84 = .ok (.iload 4, 2) := by decide +kernel
theorem dX6_step_86 : decode cX6_step 86 = .ok (.aload_n 0, 1) := by decide +kernel
theorem dX6_step_87 : decode cX6_step 87 = .ok (.getfield 26, 3) := by decide +kernel
theorem dX6_step_90 : decode cX6_step 90 = .ok (.iconst 3, 1) := by decide +kernel
theorem dX6_step_91 : decode cX6_step 91 = .ok (.invokevirtual 155, 3) := by decide +kernel
theorem dX6_step_94 : decode cX6_step 94 = .ok (.iload 6, 2) := by decide +kernel
theorem dX6_step_96 : decode cX6_step 96 = .ok (.invokevirtual 158, 3) := by decide +kernel
theorem dX6_step_99 : decode cX6_step 99 = .ok (.iload 5, 2) := by decide +kernel
theorem dX6_step_101 : decode cX6_step 101 = .ok (.ireturn, 1) := by decide +kernel
theorem dX6_start_0 : decode cX6_start 0 = .ok (.aload_n 0, 1) := by decide +kernel
theorem dX6_start_1 : decode cX6_start 1 = .ok (.getfield 26, 3) := by decide +kernel
theorem dX6_start_4 : decode cX6_start 4 = .ok (.invokevirtual 161, 3) := by decide +kernel
theorem dX6_start_7 : decode cX6_start 7 = .ok (.ireturn, 1) := by decide +kernel
theorem dX6_zone_0 : decode cX6_zone 0 = .ok (.iload_n 1, 1) := by decide +kernel
theorem dX6_zone_1 : decode cX6_zone 1 = .ok (.iconst 0, 1) := by decide +kernel
theorem dX6_zone_2 : decode cX6_zone 2 = .ok (.iconst 3, 1) := by decide +kernel
theorem dX6_zone_3 : decode cX6_zone 3 = .ok (.invokestatic 63, 3) := by decide +kernel
theorem dX6_zone_6 : decode cX6_zone 6 = .ok (.ifCond .eq 12, 3) := by decide +kernel
theorem dX6_zone_9 : decode cX6_zone 9 = .ok (.iload_n 2, 1) := by decide +kernel
theorem dX6_zone_10 : decode cX6_zone 10 = .ok (.iconst 0, 1) := by decide +kernel
theorem dX6_zone_11 : decode cX6_zone 11 = .ok (.iconst 2, 1) := by decide +kernel
theorem dX6_zone_12 : decode cX6_zone 12 = .ok (.invokestatic 63, 3) := by decide +kernel
theorem dX6_zone_15 : decode cX6_zone 15 = .ok (.ifCond .ne 5, 3) := by decide +kernel
theorem dX6_zone_18 : decode cX6_zone 18 = .ok (.iconst (-1), 1) := by decide +kernel
theorem dX6_zone_19 : decode cX6_zone 19 = .ok (.ireturn, 1) := by decide +kernel
theorem dX6_zone_20 : decode cX6_zone 20 = .ok (.iload_n 2, 1) := by decide +kernel
theorem dX6_zone_21 : decode cX6_zone 21 = .ok (.iconst 2, 1) := by decide +kernel
theorem dX6_zone_22 : decode cX6_zone 22 = .ok (.if_icmp .ne 12, 3) := by decide +kernel
theorem dX6_zone_25 : decode cX6_zone 25 = .ok (.aload_n 0, 1) := by decide +kernel
theorem dX6_zone_26 : decode cX6_zone 26 = .ok (.getfield 26, 3) := by decide +kernel
theorem dX6_zone_29 : decode cX6_zone 29 = .ok (.iload_n 1, 1) := by decide +kernel
theorem dX6_zone_30 : decode cX6_zone 30 = .ok (.invokevirtual 164, 3) := by decide +kernel
theorem dX6_zone_33 : decode cX6_zone 33 = .ok (.ireturn, 1) := by decide +kernel
theorem dX6_zone_34 : decode cX6_zone 34 = .ok (.iload_n 2, 1) := by decide +kernel
theorem dX6_zone_35 : decode cX6_zone 35 = .ok (.ifCond .ne 14, 3) := by decide +kernel
theorem dX6_zone_38 : decode cX6_zone 38 = .ok (.aload_n 0, 1) := by decide +kernel
theorem dX6_zone_39 : decode cX6_zone 39 = .ok (.getfield 26, 3) := by decide +kernel
theorem dX6_zone_42 : decode cX6_zone 42 = .ok (.iload_n 1, 1) := by decide +kernel
theorem dX6_zone_43 : decode cX6_zone 43 = .ok (.invokevirtual 167, 3) := by decide +kernel
theorem dX6_zone_46 : decode cX6_zone 46 = .ok (.goto 11, 3) := by decide +kernel
theorem dX6_zone_49 : decode cX6_zone 49 = .ok (.aload_n 0, 1) := by decide +kernel
theorem dX6_zone_50 : decode cX6_zone 50 = .ok (.getfield 26, 3) := by decide +kernel
theorem dX6_zone_53 : decode cX6_zone 53 = .ok (.iload_n 1, 1) := by decide +kernel
theorem dX6_zone_54 : decode cX6_zone 54 = .ok (.invokevirtual 170, 3) := by decide +kernel
theorem dX6_zone_57 : decode cX6_zone 57 = .ok (.ireturn, 1) := by decide +kernel
theorem dX6_warmth_0 : decode cX6_warmth 0 = .ok (.iload_n 1, 1) := by decide +kernel
theorem dX6_warmth_1 : decode cX6_warmth 1 = .ok (.iconst 0, 1) := by decide +kernel
theorem dX6_warmth_2 : decode cX6_warmth 2 = .ok (.iconst 3, 1) := by decide +kernel
theorem dX6_warmth_3 : decode cX6_warmth 3 = .ok (.invokestatic 63, 3) := by decide +kernel
theorem dX6_warmth_6 : decode cX6_warmth 6 = .ok (.ifCond .eq 12, 3) := by decide +kernel
theorem dX6_warmth_9 : decode cX6_warmth 9 = .ok (.iload_n 2, 1) := by decide +kernel
theorem dX6_warmth_10 : decode cX6_warmth 10 = .ok (.iconst 0, 1) := by decide +kernel
theorem dX6_warmth_11 : decode cX6_warmth 11 = .ok (.iconst 2, 1) := by decide +kernel
theorem dX6_warmth_12 : decode cX6_warmth 12 = .ok (.invokestatic 63, 3) := by decide +kernel
theorem dX6_warmth_15 : decode cX6_warmth 15 = .ok (.ifCond .ne 5, 3) := by decide +kernel
theorem dX6_warmth_18 : decode cX6_warmth 18 = .ok (.iconst (-1), 1) := by decide +kernel
theorem dX6_warmth_19 : decode cX6_warmth 19 = .ok (.ireturn, 1) := by decide +kernel
theorem dX6_warmth_20 : decode cX6_warmth 20 = .ok (.iload_n 2, 1) := by decide +kernel
theorem dX6_warmth_21 : decode cX6_warmth 21 = .ok (.ifCond .eq 24, 3) := by decide +kernel
theorem dX6_warmth_24 : decode cX6_warmth 24 = .ok (.iload_n 2, 1) := by decide +kernel
theorem dX6_warmth_25 : decode cX6_warmth 25 = .ok (.aload_n 0, 1) := by decide +kernel
theorem dX6_warmth_26 : decode cX6_warmth 26 = .ok (.getfield 26, 3) := by decide +kernel
theorem dX6_warmth_29 : decode cX6_warmth 29 = .ok (.iload_n 1, 1) := by decide +kernel
theorem dX6_warmth_30 : decode cX6_warmth 30 = .ok (.invokevirtual 164, 3) := by decide +kernel
theorem dX6_warmth_33 : decode cX6_warmth 33 = .ok (.if_icmp .eq 12, 3) := by decide +kernel
theorem dX6_warmth_36 : decode cX6_warmth 36 = .ok (.aload_n 0, 1) := by decide +kernel
theorem dX6_warmth_37 : decode cX6_warmth 37 = .ok (.getfield 47, 3) := by decide +kernel
theorem dX6_warmth_40 : decode cX6_warmth 40 = .ok (.iconst 3, 1) := by decide +kernel
theorem dX6_warmth_41 : decode cX6_warmth 41 = .ok (.invokevirtual 121, 3) := by decide +kernel
theorem dX6_warmth_44 : decode cX6_warmth 44 = .ok (.ireturn, 1) := by decide +kernel
theorem dX6_warmth_45 : decode cX6_warmth 45 = .ok (.aload_n 0, 1) := by decide +kernel
theorem dX6_warmth_46 : decode cX6_warmth 46 = .ok (.getfield 26, 3) := by decide +kernel
theorem dX6_warmth_49 : decode cX6_warmth 49 = .ok (.iload_n 1, 1) := by decide +kernel
theorem dX6_warmth_50 : decode cX6_warmth 50 = .ok (.invokevirtual 167, 3) := by decide +kernel
theorem dX6_warmth_53 : decode cX6_warmth 53 = .ok (.istore_n 3, 1) := by decide +kernel
theorem dX6_warmth_54 : decode cX6_warmth 54 = .ok (.iload_n 3, 1) := by decide +kernel
theorem dX6_warmth_55 : decode cX6_warmth 55 = .ok (.ifCond .ne 12, 3) := by decide +kernel
theorem dX6_warmth_58 : decode cX6_warmth 58 = .ok (.aload_n 0, 1) := by decide +kernel
theorem dX6_warmth_59 : decode cX6_warmth 59 = .ok (.getfield 47, 3) := by decide +kernel
theorem dX6_warmth_62 : decode cX6_warmth 62 = .ok (.iconst 4, 1) := by decide +kernel
theorem dX6_warmth_63 : decode cX6_warmth 63 = .ok (.invokevirtual 121, 3) := by decide +kernel
theorem dX6_warmth_66 : decode cX6_warmth 66 = .ok (.ireturn, 1) := by decide +kernel
theorem dX6_warmth_67 : decode cX6_warmth 67 = .ok (.aload_n 0, 1) := by decide +kernel
theorem dX6_warmth_68 : decode cX6_warmth 68 = .ok (.getfield 26, 3) := by decide +kernel
theorem dX6_warmth_71 : decode cX6_warmth 71 = .ok (.iload_n 1, 1) := by decide +kernel
theorem dX6_warmth_72 : decode cX6_warmth 72 = .ok (.invokevirtual 170, 3) := by decide +kernel
theorem dX6_warmth_75 : decode cX6_warmth 75 = .ok (.iload_n 3, 1) := by decide +kernel
theorem dX6_warmth_76 : decode cX6_warmth 76 = .ok (.idiv, 1) := by decide +kernel
theorem dX6_warmth_77 : decode cX6_warmth 77 = .ok (.ireturn, 1) := by decide +kernel
theorem dX6_out_0 : decode cX6_out 0 = .ok (.iload_n 1, 1) := by decide +kernel
theorem dX6_out_1 : decode cX6_out 1 = .ok (.iconst 0, 1) := by decide +kernel
theorem dX6_out_2 : decode cX6_out 2 = .ok (.bipush 6, 2) := by decide +kernel
theorem dX6_out_4 : decode cX6_out 4 = .ok (.invokestatic 63, 3) := by decide +kernel
theorem dX6_out_7 : decode cX6_out 7 = .ok (.ifCond .ne 5, 3) := by decide +kernel
theorem dX6_out_10 : decode cX6_out 10 = .ok (.iconst (-1), 1) := by decide +kernel
theorem dX6_out_11 : decode cX6_out 11 = .ok (.ireturn, 1) := by decide +kernel
theorem dX6_out_12 : decode cX6_out 12 = .ok (.aload_n 0, 1) := by decide +kernel
theorem dX6_out_13 : decode cX6_out 13 = .ok (.getfield 26, 3) := by decide +kernel
theorem dX6_out_16 : decode cX6_out 16 = .ok (.invokevirtual 149, 3) := by decide +kernel
theorem dX6_out_19 : decode cX6_out 19 = .ok (.ifCond .ne 8, 3) := by decide +kernel
theorem dX6_out_22 : decode cX6_out 22 = .ok (.bipush (-9), 2) := by decide +kernel
theorem dX6_out_24 : decode cX6_out 24 = .ok (.goto 11, 3) := by decide +kernel
theorem dX6_out_27 : decode cX6_out 27 = .ok (.aload_n 0, 1) := by decide +kernel
theorem dX6_out_28 : decode cX6_out 28 = .ok (.getfield 26, 3) := by decide +kernel
theorem dX6_out_31 : decode cX6_out 31 = .ok (.iload_n 1, 1) := by decide +kernel
theorem dX6_out_32 : decode cX6_out 32 = .ok (.invokevirtual 155, 3) := by decide +kernel
theorem dX6_out_35 : decode cX6_out 35 = .ok (.ireturn, 1) := by decide +kernel
theorem dX6_sum_0 : decode cX6_sum 0 = .ok (.iload_n 1, 1) := by decide +kernel
theorem dX6_sum_1 : decode cX6_sum 1 = .ok (.iconst 0, 1) := by decide +kernel
theorem dX6_sum_2 : decode cX6_sum 2 = .ok (.iconst 4, 1) := by decide +kernel
theorem dX6_sum_3 : decode cX6_sum 3 = .ok (.invokestatic 63, 3) := by decide +kernel
theorem dX6_sum_6 : decode cX6_sum 6 = .ok (.ifCond .ne 5, 3) := by decide +kernel
theorem dX6_sum_9 : decode cX6_sum 9 = .ok (.iconst (-1), 1) := by decide +kernel
theorem dX6_sum_10 : decode cX6_sum 10 = .ok (.ireturn, 1) := by decide +kernel
theorem dX6_sum_11 : decode cX6_sum 11 = .ok (.aload_n 0, 1) := by decide +kernel
theorem dX6_sum_12 : decode cX6_sum 12 = .ok (.aload_n 0, 1) := by decide +kernel
theorem dX6_sum_13 : decode cX6_sum 13 = .ok (.getfield 26, 3) := by decide +kernel
theorem dX6_sum_16 : decode cX6_sum 16 = .ok (.iload_n 1, 1) := by decide +kernel
theorem dX6_sum_17 : decode cX6_sum 17 = .ok (.invokevirtual 173, 3) := by decide +kernel
theorem dX6_sum_20 : decode cX6_sum 20 = .ok (.putfield 58, 3) := by decide +kernel
theorem dX6_sum_23 : decode cX6_sum 23 = .ok (.iconst 1, 1) := by decide +kernel
theorem dX6_sum_24 : decode cX6_sum 24 = .ok (.ireturn, 1) := by decide +kernel
theorem dX6_first_0 : decode cX6_first 0 = .ok (.aload_n 0, 1) := by decide +kernel
theorem dX6_first_1 : decode cX6_first 1 = .ok (.getfield 26, 3) := by decide +kernel
theorem dX6_first_4 : decode cX6_first 4 = .ok (.invokevirtual 177, 3) := by decide +kernel
theorem dX6_first_7 : decode cX6_first 7 = .ok (.ireturn, 1) := by decide +kernel
theorem dX6_silo_0 : decode cX6_silo 0 = .ok (.iload_n 1, 1) := by decide +kernel
theorem dX6_silo_1 : decode cX6_silo 1 = .ok (.iconst 0, 1) := by decide +kernel
theorem dX6_silo_2 : decode cX6_silo 2 = .ok (.iconst 2, 1) := by decide +kernel
theorem dX6_silo_3 : decode cX6_silo 3 = .ok (.invokestatic 63, 3) := by decide +kernel
theorem dX6_silo_6 : decode cX6_silo 6 = .ok (.ifCond .eq 12, 3) := by decide +kernel
theorem dX6_silo_9 : decode cX6_silo 9 = .ok (.iload_n 2, 1) := by decide +kernel
theorem dX6_silo_10 : decode cX6_silo 10 = .ok (.iconst 0, 1) := by decide +kernel
theorem dX6_silo_11 : decode cX6_silo 11 = .ok (.iconst 1, 1) := by decide +kernel
theorem dX6_silo_12 : decode cX6_silo 12 = .ok (.invokestatic 63, 3) := by decide +kernel
theorem dX6_silo_15 : decode cX6_silo 15 = .ok (.ifCond .ne 5, 3) := by decide +kernel
theorem dX6_silo_18 : decode cX6_silo 18 = .ok (.iconst (-1), 1) := by decide +kernel
theorem dX6_silo_19 : decode cX6_silo 19 = .ok (.ireturn, 1) := by decide +kernel
theorem dX6_silo_20 : decode cX6_silo 20 = .ok (.iload_n 2, 1) := by decide +kernel
theorem dX6_silo_21 : decode cX6_silo 21 = .ok (.ifCond .ne 14, 3) := by decide +kernel
theorem dX6_silo_24 : decode cX6_silo 24 = .ok (.aload_n 0, 1) := by decide +kernel
theorem dX6_silo_25 : decode cX6_silo 25 = .ok (.getfield 33, 3) := by decide +kernel
theorem dX6_silo_28 : decode cX6_silo 28 = .ok (.iload_n 1, 1) := by decide +kernel
theorem dX6_silo_29 : decode cX6_silo 29 = .ok (.invokevirtual 180, 3) := by decide +kernel
theorem dX6_silo_32 : decode cX6_silo 32 = .ok (.goto 11, 3) := by decide +kernel
theorem dX6_silo_35 : decode cX6_silo 35 = .ok (.aload_n 0, 1) := by decide +kernel
theorem dX6_silo_36 : decode cX6_silo 36 = .ok (.getfield 33, 3) := by decide +kernel
theorem dX6_silo_39 : decode cX6_silo 39 = .ok (.iload_n 1, 1) := by decide +kernel
theorem dX6_silo_40 : decode cX6_silo 40 = .ok (.invokevirtual 183, 3) := by decide +kernel
theorem dX6_silo_43 : decode cX6_silo 43 = .ok (.ireturn, 1) := by decide +kernel
theorem dX6_bag_0 : decode cX6_bag 0 = .ok (.iload_n 1, 1) := by decide +kernel
theorem dX6_bag_1 : decode cX6_bag 1 = .ok (.iconst 0, 1) := by decide +kernel
theorem dX6_bag_2 : decode cX6_bag 2 = .ok (.iconst 2, 1) := by decide +kernel
theorem dX6_bag_3 : decode cX6_bag 3 = .ok (.invokestatic 63, 3) := by decide +kernel
theorem dX6_bag_6 : decode cX6_bag 6 = .ok (.ifCond .eq 14, 3) := by decide +kernel
theorem dX6_bag_9 : decode cX6_bag 9 = .ok (.iload_n 2, 1) := by decide +kernel
theorem dX6_bag_10 : decode cX6_bag 10 = .ok (.iconst 1, 1) := by decide +kernel
theorem dX6_bag_11 : decode cX6_bag 11 = .ok (.sipush 10000, 3) := by decide +kernel
theorem dX6_bag_14 : decode cX6_bag 14 = .ok (.invokestatic 63, 3) := by decide +kernel
theorem dX6_bag_17 : decode cX6_bag 17 = .ok (.ifCond .ne 5, 3) := by decide +kernel
theorem dX6_bag_20 : decode cX6_bag 20 = .ok (.iconst (-1), 1) := by decide +kernel
theorem dX6_bag_21 : decode cX6_bag 21 = .ok (.ireturn, 1) := by decide +kernel
theorem dX6_bag_22 : decode cX6_bag 22 = .ok (.aload_n 0, 1) := by decide +kernel
theorem dX6_bag_23 : decode cX6_bag 23 = .ok (.getfield 33, 3) := by decide +kernel
theorem dX6_bag_26 : decode cX6_bag 26 = .ok (.iload_n 1, 1) := by decide +kernel
theorem dX6_bag_27 : decode cX6_bag 27 = .ok (.invokevirtual 180, 3) := by decide +kernel
theorem dX6_bag_30 : decode cX6_bag 30 = .ok (.iload_n 2, 1) := by decide +kernel
theorem dX6_bag_31 : decode cX6_bag 31 = .ok (.if_icmp .ge 6, 3) := by decide +kernel
theorem dX6_bag_34 : decode cX6_bag 34 = .ok (.bipush (-4), 2) := by decide +kernel
theorem dX6_bag_36 : decode cX6_bag 36 = .ok (.ireturn, 1) := by decide +kernel
theorem dX6_bag_37 : decode cX6_bag 37 = .ok (.aload_n 0, 1) := by decide +kernel
theorem dX6_bag_38 : decode cX6_bag 38 = .ok (.getfield 33, 3) := by decide +kernel
theorem dX6_bag_41 : decode cX6_bag 41 = .ok (.iload_n 1, 1) := by decide +kernel
theorem dX6_bag_42 : decode cX6_bag 42 = .ok (.iload_n 2, 1) := by decide +kernel
theorem dX6_bag_43 : decode cX6_bag 43 = .ok (.invokevirtual 186, 3) := by decide +kernel
theorem dX6_bag_46 : decode cX6_bag 46 = .ok (.ireturn, 1) := by decide +kernel
theorem dX6_lot_0 : decode cX6_lot 0 = .ok (.iload_n 2, 1) := by decide +kernel
theorem dX6_lot_1 : decode cX6_lot 1 = .ok (.iconst 0, 1) := by decide +kernel
theorem dX6_lot_2 : decode cX6_lot 2 = .ok (.iconst 1, 1) := by decide +kernel
theorem dX6_lot_3 : decode cX6_lot 3 = .ok (.invokestatic 63, 3) := by decide +kernel
theorem dX6_lot_6 : decode cX6_lot 6 = .ok (.ifCond .ne 5, 3) := by decide +kernel
theorem dX6_lot_9 : decode cX6_lot 9 = .ok (.iconst (-1), 1) := by decide +kernel
theorem dX6_lot_10 : decode cX6_lot 10 = .ok (.ireturn, 1) := by decide +kernel
theorem dX6_lot_11 : decode cX6_lot 11 = .ok (.iload_n 1, 1) := by decide +kernel
theorem dX6_lot_12 : decode cX6_lot 12 = .ok (.iconst 0, 1) := by decide +kernel
theorem dX6_lot_13 : decode cX6_lot 13 = .ok (.aload_n 0, 1) := by decide +kernel
theorem dX6_lot_14 : decode cX6_lot 14 = .ok (.getfield 33, 3) := by decide +kernel
theorem dX6_lot_17 : decode cX6_lot 17 = .ok (.invokevirtual 189, 3) := by decide +kernel
theorem dX6_lot_20 : decode cX6_lot 20 = .ok (.iconst 1, 1) := by decide +kernel
theorem dX6_lot_21 : decode cX6_lot 21 = .ok (.isub, 1) := by decide +kernel
theorem dX6_lot_22 : decode cX6_lot 22 = .ok (.invokestatic 63, 3) := by decide +kernel
theorem dX6_lot_25 : decode cX6_lot 25 = .ok (.ifCond .ne 6, 3) := by decide +kernel
theorem dX6_lot_28 : decode cX6_lot 28 = .ok (.bipush (-9), 2) := by decide +kernel
theorem dX6_lot_30 : decode cX6_lot 30 = .ok (.ireturn, 1) := by decide +kernel
theorem dX6_lot_31 : decode cX6_lot 31 = .ok (.iload_n 2, 1) := by decide +kernel
theorem dX6_lot_32 : decode cX6_lot 32 = .ok (.ifCond .ne 14, 3) := by decide +kernel
theorem dX6_lot_35 : decode cX6_lot 35 = .ok (.aload_n 0, 1) := by decide +kernel
theorem dX6_lot_36 : decode cX6_lot 36 = .ok (.getfield 33, 3) := by decide +kernel
theorem dX6_lot_39 : decode cX6_lot 39 = .ok (.iload_n 1, 1) := by decide +kernel
theorem dX6_lot_40 : decode cX6_lot 40 = .ok (.invokevirtual 192, 3) := by decide +kernel
theorem dX6_lot_43 : decode cX6_lot 43 = .ok (.goto 11, 3) := by decide +kernel
theorem dX6_lot_46 : decode cX6_lot 46 = .ok (.aload_n 0, 1) := by decide +kernel
theorem dX6_lot_47 : decode cX6_lot 47 = .ok (.getfield 33, 3) := by decide +kernel
theorem dX6_lot_50 : decode cX6_lot 50 = .ok (.iload_n 1, 1) := by decide +kernel
theorem dX6_lot_51 : decode cX6_lot 51 = .ok (.invokevirtual 195, 3) := by decide +kernel
theorem dX6_lot_54 : decode cX6_lot 54 = .ok (.ireturn, 1) := by decide +kernel
theorem dX6_day_0 : decode cX6_day 0 = .ok (.iload_n 1, 1) := by decide +kernel
theorem dX6_day_1 : decode cX6_day 1 = .ok (.iconst 0, 1) := by decide +kernel
theorem dX6_day_2 : decode cX6_day 2 = .ok (.bipush 6, 2) := by decide +kernel
theorem dX6_day_4 : decode cX6_day 4 = .ok (.invokestatic 63, 3) := by decide +kernel
theorem dX6_day_7 : decode cX6_day 7 = .ok (.ifCond .ne 5, 3) := by decide +kernel
theorem dX6_day_10 : decode cX6_day 10 = .ok (.iconst (-1), 1) := by decide +kernel
theorem dX6_day_11 : decode cX6_day 11 = .ok (.ireturn, 1) := by decide +kernel
theorem dX6_day_12 : decode cX6_day 12 = .ok (.aload_n 0, 1) := by decide +kernel
theorem dX6_day_13 : decode cX6_day 13 = .ok (.getfield 40, 3) := by decide +kernel
theorem dX6_day_16 : decode cX6_day 16 = .ok (.iload_n 1, 1) := by decide +kernel
theorem dX6_day_17 : decode cX6_day 17 = .ok (.invokevirtual 198, 3) := by decide +kernel
theorem dX6_day_20 : decode cX6_day 20 = .ok (.ireturn, 1) := by decide +kernel
theorem dX6_price_0 : decode cX6_price 0 = .ok (.iload_n 1, 1) := by decide +kernel
theorem dX6_price_1 : decode cX6_price 1 = .ok (.iconst 0, 1) := by decide +kernel
theorem dX6_price_2 : decode cX6_price 2 = .ok (.bipush 6, 2) := by decide +kernel
theorem dX6_price_4 : decode cX6_price 4 = .ok (.invokestatic 63, 3) := by decide +kernel
theorem dX6_price_7 : decode cX6_price 7 = .ok (.ifCond .eq 14, 3) := by decide +kernel
theorem dX6_price_10 : decode cX6_price 10 = .ok (.iload_n 3, 1) := by decide +kernel
theorem dX6_price_11 : decode cX6_price 11 = .ok (.iconst 0, 1) := by decide +kernel
theorem dX6_price_12 : decode cX6_price 12 = .ok (.sipush 1000, 3) := by decide +kernel
theorem dX6_price_15 : decode cX6_price 15 = .ok (.invokestatic 63, 3) := by decide +kernel
theorem dX6_price_18 : decode cX6_price 18 = .ok (.ifCond .ne 5, 3) := by decide +kernel
theorem dX6_price_21 : decode cX6_price 21 = .ok (.iconst (-1), 1) := by decide +kernel
theorem dX6_price_22 : decode cX6_price 22 = .ok (.ireturn, 1) := by decide +kernel
theorem dX6_price_23 : decode cX6_price 23 = .ok (.aload_n 0, 1) := by decide +kernel
theorem dX6_price_24 : decode cX6_price 24 = .ok (.getfield 40, 3) := by decide +kernel
theorem dX6_price_27 : decode cX6_price 27 = .ok (.iload_n 1, 1) := by decide +kernel
theorem dX6_price_28 : decode cX6_price 28 = .ok (.invokevirtual 201, 3) := by decide +kernel
theorem dX6_price_31 : decode cX6_price 31 = .ok (.ifCond .ne 12, 3) := by decide +kernel
theorem dX6_price_34 : decode cX6_price 34 = .ok (.aload_n 0, 1) := by decide +kernel
theorem dX6_price_35 : decode cX6_price 35 = .ok (.getfield 47, 3) := by decide +kernel
theorem dX6_price_38 : decode cX6_price 38 = .ok (.iconst 1, 1) := by decide +kernel
theorem dX6_price_39 : decode cX6_price 39 = .ok (.invokevirtual 121, 3) := by decide +kernel
theorem dX6_price_42 : decode cX6_price 42 = .ok (.ireturn, 1) := by decide +kernel
theorem dX6_price_43 : decode cX6_price 43 = .ok (.iload_n 2, 1) := by decide +kernel
theorem dX6_price_44 : decode cX6_price 44 = .ok (.iconst 0, 1) := by decide +kernel
theorem dX6_price_45 : decode cX6_price 45 = .ok (.bipush 23, 2) := by decide +kernel
theorem dX6_price_47 : decode cX6_price 47 = .ok (.invokestatic 63, 3) := by decide +kernel
theorem dX6_price_50 : decode cX6_price 50 = .ok (.ifCond .ne 12, 3) := by decide +kernel
theorem dX6_price_53 : decode cX6_price 53 = .ok (.aload_n 0, 1) := by decide +kernel
theorem dX6_price_54 : decode cX6_price 54 = .ok (.getfield 47, 3) := by decide +kernel
theorem dX6_price_57 : decode cX6_price 57 = .ok (.iconst 2, 1) := by decide +kernel
theorem dX6_price_58 : decode cX6_price 58 = .ok (.invokevirtual 121, 3) := by decide +kernel
theorem dX6_price_61 : decode cX6_price 61 = .ok (.ireturn, 1) := by decide +kernel
theorem dX6_price_62 : decode cX6_price 62 = .ok (.aload_n 0, 1) := by decide +kernel
theorem dX6_price_63 : decode cX6_price 63 = .ok (.getfield 40, 3) := by decide +kernel
theorem dX6_price_66 : decode cX6_price 66 = .ok (.iload_n 1, 1) := by decide +kernel
theorem dX6_price_67 : decode cX6_price 67 = .ok (.iload_n 2, 1) := by decide +kernel
theorem dX6_price_68 : decode cX6_price 68 = .ok (.iload_n 3, 1) := by decide +kernel
theorem dX6_price_69 : decode cX6_price 69 = .ok (.invokevirtual 204, 3) := by decide +kernel
theorem dX6_price_72 : decode cX6_price 72 = .ok (.ireturn, 1) := by decide +kernel
theorem dX6_tear_0 : decode cX6_tear 0 = .ok (.iload_n 1, 1) := by decide +kernel
theorem dX6_tear_1 : decode cX6_tear 1 = .ok (.iconst 0, 1) := by decide +kernel
theorem dX6_tear_2 : decode cX6_tear 2 = .ok (.bipush 6, 2) := by decide +kernel
theorem dX6_tear_4 : decode cX6_tear 4 = .ok (.invokestatic 63, 3) := by decide +kernel
theorem dX6_tear_7 : decode cX6_tear 7 = .ok (.ifCond .ne 5, 3) := by decide +kernel
theorem dX6_tear_10 : decode cX6_tear 10 = .ok (.iconst (-1), 1) := by decide +kernel
theorem dX6_tear_11 : decode cX6_tear 11 = .ok (.ireturn, 1) := by decide +kernel
theorem dX6_tear_12 : decode cX6_tear 12 = .ok (.aload_n 0, 1) := by decide +kernel
theorem dX6_tear_13 : decode cX6_tear 13 = .ok (.getfield 40, 3) := by decide +kernel
theorem dX6_tear_16 : decode cX6_tear 16 = .ok (.iload_n 1, 1) := by decide +kernel
theorem dX6_tear_17 : decode cX6_tear 17 = .ok (.invokevirtual 201, 3) := by decide +kernel
theorem dX6_tear_20 : decode cX6_tear 20 = .ok (.ifCond .ne 12, 3) := by decide +kernel
theorem dX6_tear_23 : decode cX6_tear 23 = .ok (.aload_n 0, 1) := by decide +kernel
theorem dX6_tear_24 : decode cX6_tear 24 = .ok (.getfield 47, 3) := by decide +kernel
theorem dX6_tear_27 : decode cX6_tear 27 = .ok (.iconst 1, 1) := by decide +kernel
theorem dX6_tear_28 : decode cX6_tear 28 = .ok (.invokevirtual 121, 3) := by decide +kernel
theorem dX6_tear_31 : decode cX6_tear 31 = .ok (.ireturn, 1) := by decide +kernel
theorem dX6_tear_32 : decode cX6_tear 32 = .ok (.aload_n 0, 1) := by decide +kernel
theorem dX6_tear_33 : decode cX6_tear 33 = .ok (.getfield 40, 3) := by decide +kernel
theorem dX6_tear_36 : decode cX6_tear 36 = .ok (.iload_n 1, 1) := by decide +kernel
theorem dX6_tear_37 : decode cX6_tear 37 = .ok (.invokevirtual 207, 3) := by decide +kernel
theorem dX6_tear_40 : decode cX6_tear 40 = .ok (.iconst 1, 1) := by decide +kernel
theorem dX6_tear_41 : decode cX6_tear 41 = .ok (.ireturn, 1) := by decide +kernel
theorem dX6_copy_0 : decode cX6_copy 0 = .ok (.iload_n 1, 1) := by decide +kernel
theorem dX6_copy_1 : decode cX6_copy 1 = .ok (.iconst 0, 1) := by decide +kernel
theorem dX6_copy_2 : decode cX6_copy 2 = .ok (.bipush 6, 2) := by decide +kernel
theorem dX6_copy_4 : decode cX6_copy 4 = .ok (.invokestatic 63, 3) := by decide +kernel
theorem dX6_copy_7 : decode cX6_copy 7 = .ok (.ifCond .eq 13, 3) := by decide +kernel
theorem dX6_copy_10 : decode cX6_copy 10 = .ok (.iload_n 3, 1) := by decide +kernel
theorem dX6_copy_11 : decode cX6_copy 11 = .ok (.iconst 0, 1) := by decide +kernel
theorem dX6_copy_12 : decode cX6_copy 12 = .ok (.bipush 6, 2) := by decide +kernel
theorem dX6_copy_14 : decode cX6_copy 14 = .ok (.invokestatic 63, 3) := by decide +kernel
theorem dX6_copy_17 : decode cX6_copy 17 = .ok (.ifCond .ne 5, 3) := by decide +kernel
theorem dX6_copy_20 : decode cX6_copy 20 = .ok (.iconst (-1), 1) := by decide +kernel
theorem dX6_copy_21 : decode cX6_copy 21 = .ok (.ireturn, 1) := by decide +kernel
theorem dX6_copy_22 : decode cX6_copy 22 = .ok (.iload 5, 2) := by decide +kernel
theorem dX6_copy_24 : decode cX6_copy 24 = .ok (.ifCond .ge 12, 3) := by decide +kernel
theorem dX6_copy_27 : decode cX6_copy 27 = .ok (.aload_n 0, 1) := by decide +kernel
theorem dX6_copy_28 : decode cX6_copy 28 = .ok (.getfield 47, 3) := by decide +kernel
theorem dX6_copy_31 : decode cX6_copy 31 = .ok (.iconst 5, 1) := by decide +kernel
theorem dX6_copy_32 : decode cX6_copy 32 = .ok (.invokevirtual 121, 3) := by decide +kernel
theorem dX6_copy_35 : decode cX6_copy 35 = .ok (.ireturn, 1) := by decide +kernel
theorem dX6_copy_36 : decode cX6_copy 36 = .ok (.aload_n 0, 1) := by decide +kernel
theorem dX6_copy_37 : decode cX6_copy 37 = .ok (.getfield 40, 3) := by decide +kernel
theorem dX6_copy_40 : decode cX6_copy 40 = .ok (.iload_n 1, 1) := by decide +kernel
theorem dX6_copy_41 : decode cX6_copy 41 = .ok (.invokevirtual 201, 3) := by decide +kernel
theorem dX6_copy_44 : decode cX6_copy 44 = .ok (.ifCond .eq 14, 3) := by decide +kernel
theorem dX6_copy_47 : decode cX6_copy 47 = .ok (.aload_n 0, 1) := by decide +kernel
theorem dX6_copy_48 : decode cX6_copy 48 = .ok (.getfield 40, 3) := by decide +kernel
theorem dX6_copy_51 : decode cX6_copy 51 = .ok (.iload_n 3, 1) := by decide +kernel
theorem dX6_copy_52 : decode cX6_copy 52 = .ok (.invokevirtual 201, 3) := by decide +kernel
theorem dX6_copy_55 : decode cX6_copy 55 = .ok (.ifCond .ne 12, 3) := by decide +kernel
theorem dX6_copy_58 : decode cX6_copy 58 = .ok (.aload_n 0, 1) := by decide +kernel
theorem dX6_copy_59 : decode cX6_copy 59 = .ok (.getfield 47, 3) := by decide +kernel
theorem dX6_copy_62 : decode cX6_copy 62 = .ok (.iconst 1, 1) := by decide +kernel
theorem dX6_copy_63 : decode cX6_copy 63 = .ok (.invokevirtual 121, 3) := by decide +kernel
theorem dX6_copy_66 : decode cX6_copy 66 = .ok (.ireturn, 1) := by decide +kernel
theorem dX6_copy_67 : decode cX6_copy 67 = .ok (.iload_n 2, 1) := by decide +kernel
theorem dX6_copy_68 : decode cX6_copy 68 = .ok (.iload 5, 2) := by decide +kernel
theorem dX6_copy_70 : decode cX6_copy 70 = .ok (.invokestatic 211, 3) := by decide +kernel
theorem dX6_copy_73 : decode cX6_copy 73 = .ok (.ifCond .eq 13, 3) := by decide +kernel
theorem dX6_copy_76 : decode cX6_copy 76 = .ok (.iload 4, 2) := by decide +kernel
theorem dX6_copy_78 : decode cX6_copy 78 = .ok (.iload 5, 2) := by decide +kernel
theorem dX6_copy_80 : decode cX6_copy 80 = .ok (.invokestatic 211, 3) := by decide +kernel
theorem dX6_copy_83 : decode cX6_copy 83 = .ok (.ifCond .ne 12, 3) := by decide +kernel
theorem dX6_copy_86 : decode cX6_copy 86 = .ok (.aload_n 0, 1) := by decide +kernel
theorem dX6_copy_87 : decode cX6_copy 87 = .ok (.getfield 47, 3) := by decide +kernel
theorem dX6_copy_90 : decode cX6_copy 90 = .ok (.iconst 2, 1) := by decide +kernel
theorem dX6_copy_91 : decode cX6_copy 91 = .ok (.invokevirtual 121, 3) := by decide +kernel
theorem dX6_copy_94 : decode cX6_copy 94 = .ok (.ireturn, 1) := by decide +kernel
theorem dX6_copy_95 : decode cX6_copy 95 = .ok (.aload_n 0, 1) := by decide +kernel
theorem dX6_copy_96 : decode cX6_copy 96 = .ok (.getfield 40, 3) := by decide +kernel
theorem dX6_copy_99 : decode cX6_copy 99 = .ok (.iload_n 1, 1) := by decide +kernel
theorem dX6_copy_100 : decode cX6_copy 100 = .ok (.iload_n 2, 1) := by decide +kernel
theorem dX6_copy_101 : decode cX6_copy 101 = .ok (.iload_n 3, 1) := by decide +kernel
theorem dX6_copy_102 : decode cX6_copy 102 = .ok (.iload 4, 2) := by decide +kernel
theorem dX6_copy_104 : decode cX6_copy 104 = .ok (.iload 5, 2) := by decide +kernel
theorem dX6_copy_106 : decode cX6_copy 106 = .ok (.invokevirtual 215, 3) := by decide +kernel
theorem dX6_copy_109 : decode cX6_copy 109 = .ok (.iconst 1, 1) := by decide +kernel
theorem dX6_copy_110 : decode cX6_copy 110 = .ok (.ireturn, 1) := by decide +kernel
theorem dX6_need_0 : decode cX6_need 0 = .ok (.iload_n 1, 1) := by decide +kernel
theorem dX6_need_1 : decode cX6_need 1 = .ok (.iconst 0, 1) := by decide +kernel
theorem dX6_need_2 : decode cX6_need 2 = .ok (.bipush 23, 2) := by decide +kernel
theorem dX6_need_4 : decode cX6_need 4 = .ok (.invokestatic 63, 3) := by decide +kernel
theorem dX6_need_7 : decode cX6_need 7 = .ok (.ifCond .eq 14, 3) := by decide +kernel
theorem dX6_need_10 : decode cX6_need 10 = .ok (.iload_n 2, 1) := by decide +kernel
theorem dX6_need_11 : decode cX6_need 11 = .ok (.iconst 0, 1) := by decide +kernel
theorem dX6_need_12 : decode cX6_need 12 = .ok (.sipush 10000, 3) := by decide +kernel
theorem dX6_need_15 : decode cX6_need 15 = .ok (.invokestatic 63, 3) := by decide +kernel
theorem dX6_need_18 : decode cX6_need 18 = .ok (.ifCond .ne 5, 3) := by decide +kernel
theorem dX6_need_21 : decode cX6_need 21 = .ok (.iconst (-1), 1) := by decide +kernel
theorem dX6_need_22 : decode cX6_need 22 = .ok (.ireturn, 1) := by decide +kernel
theorem dX6_need_23 : decode cX6_need 23 = .ok (.aload_n 0, 1) := by decide +kernel
theorem dX6_need_24 : decode cX6_need 24 = .ok (.getfield 40, 3) := by decide +kernel
theorem dX6_need_27 : decode cX6_need 27 = .ok (.iload_n 1, 1) := by decide +kernel
theorem dX6_need_28 : decode cX6_need 28 = .ok (.iload_n 2, 1) := by decide +kernel
theorem dX6_need_29 : decode cX6_need 29 = .ok (.invokevirtual 219, 3) := by decide +kernel
theorem dX6_need_32 : decode cX6_need 32 = .ok (.ireturn, 1) := by decide +kernel
theorem dX6_plan_0 : decode cX6_plan 0 = .ok (.iload_n 1, 1) := by decide +kernel
theorem dX6_plan_1 : decode cX6_plan 1 = .ok (.iconst 0, 1) := by decide +kernel
theorem dX6_plan_2 : decode cX6_plan 2 = .ok (.bipush 6, 2) := by decide +kernel
theorem dX6_plan_4 : decode cX6_plan 4 = .ok (.invokestatic 63, 3) := by decide +kernel
theorem dX6_plan_7 : decode cX6_plan 7 = .ok (.ifCond .eq 14, 3) := by decide +kernel
theorem dX6_plan_10 : decode cX6_plan 10 = .ok (.iload_n 2, 1) := by decide +kernel
theorem dX6_plan_11 : decode cX6_plan 11 = .ok (.iconst 1, 1) := by decide +kernel
theorem dX6_plan_12 : decode cX6_plan 12 = .ok (.sipush 1000, 3) := by decide +kernel
theorem dX6_plan_15 : decode cX6_plan 15 = .ok (.invokestatic 63, 3) := by decide +kernel
theorem dX6_plan_18 : decode cX6_plan 18 = .ok (.ifCond .ne 5, 3) := by decide +kernel
theorem dX6_plan_21 : decode cX6_plan 21 = .ok (.iconst (-1), 1) := by decide +kernel
theorem dX6_plan_22 : decode cX6_plan 22 = .ok (.ireturn, 1) := by decide +kernel
theorem dX6_plan_23 : decode cX6_plan 23 = .ok (.aload_n 0, 1) := by decide +kernel
theorem dX6_plan_24 : decode cX6_plan 24 = .ok (.getfield 40, 3) := by decide +kernel
theorem dX6_plan_27 : decode cX6_plan 27 = .ok (.iload_n 1, 1) := by decide +kernel
theorem dX6_plan_28 : decode cX6_plan 28 = .ok (.invokevirtual 201, 3) := by decide +kernel
theorem dX6_plan_31 : decode cX6_plan 31 = .ok (.ifCond .ne 12, 3) := by decide +kernel
theorem dX6_plan_34 : decode cX6_plan 34 = .ok (.aload_n 0, 1) := by decide +kernel
theorem dX6_plan_35 : decode cX6_plan 35 = .ok (.getfield 47, 3) := by decide +kernel
theorem dX6_plan_38 : decode cX6_plan 38 = .ok (.iconst 1, 1) := by decide +kernel
theorem dX6_plan_39 : decode cX6_plan 39 = .ok (.invokevirtual 121, 3) := by decide +kernel
theorem dX6_plan_42 : decode cX6_plan 42 = .ok (.ireturn, 1) := by decide +kernel
theorem dX6_plan_43 : decode cX6_plan 43 = .ok (.aload_n 0, 1) := by decide +kernel
theorem dX6_plan_44 : decode cX6_plan 44 = .ok (.getfield 40, 3) := by decide +kernel
theorem dX6_plan_47 : decode cX6_plan 47 = .ok (.iload_n 1, 1) := by decide +kernel
theorem dX6_plan_48 : decode cX6_plan 48 = .ok (.iload_n 2, 1) := by decide +kernel
theorem dX6_plan_49 : decode cX6_plan 49 = .ok (.invokevirtual 222, 3) := by decide +kernel
theorem dX6_plan_52 : decode cX6_plan 52 = .ok (.lstore_n 3, 1) := by decide +kernel
theorem dX6_plan_53 : decode cX6_plan 53 = .ok (.lload_n 3, 1) := by decide +kernel
theorem dX6_plan_54 : decode cX6_plan 54 = .ok (.ldc2_w 226, 3) := by decide +kernel
theorem dX6_plan_57 : decode cX6_plan 57 = .ok (.lcmp, 1) := by decide +kernel
theorem dX6_plan_58 : decode cX6_plan 58 = .ok (.ifCond .ne 6, 3) := by decide +kernel
theorem dX6_plan_61 : decode cX6_plan 61 = .ok (.bipush (-9), 2) := by decide +kernel
theorem dX6_plan_63 : decode cX6_plan 63 = .ok (.ireturn, 1) := by decide +kernel
theorem dX6_plan_64 : decode cX6_plan 64 = .ok (.aload_n 0, 1) := by decide +kernel
theorem dX6_plan_65 : decode cX6_plan 65 = .ok (.lload_n 3, 1) := by decide +kernel
theorem dX6_plan_66 : decode cX6_plan 66 = .ok (.invokestatic 228, 3) := by decide +kernel
theorem dX6_plan_69 : decode cX6_plan 69 = .ok (.putfield 58, 3) := by decide +kernel
theorem dX6_plan_72 : decode cX6_plan 72 = .ok (.lload_n 3, 1) := by decide +kernel
theorem dX6_plan_73 : decode cX6_plan 73 = .ok (.invokestatic 232, 3) := by decide +kernel
theorem dX6_plan_76 : decode cX6_plan 76 = .ok (.ireturn, 1) := by decide +kernel
theorem dX6_upper_0 : decode cX6_upper 0 = .ok (.aload_n 0, 1) := by decide +kernel
theorem dX6_upper_1 : decode cX6_upper 1 = .ok (.getfield 51, 3) := by decide +kernel
theorem dX6_upper_4 : decode cX6_upper 4 = .ok (.lreturn, 1) := by decide +kernel
theorem dX6_lower_0 : decode cX6_lower 0 = .ok (.aload_n 0, 1) := by decide +kernel
theorem dX6_lower_1 : decode cX6_lower 1 = .ok (.getfield 55, 3) := by decide +kernel
theorem dX6_lower_4 : decode cX6_lower 4 = .ok (.lreturn, 1) := by decide +kernel
theorem dX6_asked_0 : decode cX6_asked 0 = .ok (.aload_n 0, 1) := by decide +kernel
theorem dX6_asked_1 : decode cX6_asked 1 = .ok (.getfield 58, 3) := by decide +kernel
theorem dX6_asked_4 : decode cX6_asked 4 = .ok (.lreturn, 1) := by decide +kernel
theorem dX6_count_0 : decode cX6_count 0 = .ok (.iload_n 1, 1) := by decide +kernel
theorem dX6_count_1 : decode cX6_count 1 = .ok (.tableswitch 83 0 4 #[35, 43, 51, 59, 67], 35) := by decide +kernel
theorem dX6_count_36 : decode cX6_count 36 = .ok (.aload_n 0, 1) := by decide +kernel
theorem dX6_count_37 : decode cX6_count 37 = .ok (.getfield 10, 3) := by decide +kernel
theorem dX6_count_40 : decode cX6_count 40 = .ok (.invokevirtual 67, 3) := by decide +kernel
theorem dX6_count_43 : decode cX6_count 43 = .ok (.ireturn, 1) := by decide +kernel
theorem dX6_count_44 : decode cX6_count 44 = .ok (.aload_n 0, 1) := by decide +kernel
theorem dX6_count_45 : decode cX6_count 45 = .ok (.getfield 19, 3) := by decide +kernel
theorem dX6_count_48 : decode cX6_count 48 = .ok (.invokevirtual 135, 3) := by decide +kernel
theorem dX6_count_51 : decode cX6_count 51 = .ok (.ireturn, 1) := by decide +kernel
theorem dX6_count_52 : decode cX6_count 52 = .ok (.aload_n 0, 1) := by decide +kernel
theorem dX6_count_53 : decode cX6_count 53 = .ok (.getfield 26, 3) := by decide +kernel
theorem dX6_count_56 : decode cX6_count 56 = .ok (.invokevirtual 149, 3) := by decide +kernel
theorem dX6_count_59 : decode cX6_count 59 = .ok (.ireturn, 1) := by decide +kernel
theorem dX6_count_60 : decode cX6_count 60 = .ok (.aload_n 0, 1) := by decide +kernel
theorem dX6_count_61 : decode cX6_count 61 = .ok (.getfield 40, 3) := by decide +kernel
theorem dX6_count_64 : decode cX6_count 64 = .ok (.invokevirtual 236, 3) := by decide +kernel
theorem dX6_count_67 : decode cX6_count 67 = .ok (.ireturn, 1) := by decide +kernel
theorem dX6_count_68 : decode cX6_count 68 = .ok (.aload_n 0, 1) := by decide +kernel
theorem dX6_count_69 : decode cX6_count 69 = .ok (.getfield 26, 3) := by decide +kernel
theorem dX6_count_72 : decode cX6_count 72 = .ok (.invokevirtual 239, 3) := by decide +kernel
theorem dX6_count_75 : decode cX6_count 75 = .ok (.ifCond .eq 7, 3) := by decide +kernel
theorem dX6_count_78 : decode cX6_count 78 = .ok (.iconst 1, 1) := by decide +kernel
theorem dX6_count_79 : decode cX6_count 79 = .ok (.goto 4, 3) := by decide +kernel
theorem dX6_count_82 : decode cX6_count 82 = .ok (.iconst 0, 1) := by decide +kernel
theorem dX6_count_83 : decode cX6_count 83 = .ok (.ireturn, 1) := by decide +kernel
theorem dX6_count_84 : decode cX6_count 84 = .ok (.iconst (-1), 1) := by decide +kernel
theorem dX6_count_85 : decode cX6_count 85 = .ok (.ireturn, 1) := by decide +kernel
theorem dX6_finding_0 : decode cX6_finding 0 = .ok (.aload_n 0, 1) := by decide +kernel
theorem dX6_finding_1 : decode cX6_finding 1 = .ok (.getfield 47, 3) := by decide +kernel
theorem dX6_finding_4 : decode cX6_finding 4 = .ok (.invokevirtual 243, 3) := by decide +kernel
theorem dX6_finding_7 : decode cX6_finding 7 = .ok (.ireturn, 1) := by decide +kernel
theorem dX6_findings_0 : decode cX6_findings 0 = .ok (.iload_n 1, 1) := by decide +kernel
theorem dX6_findings_1 : decode cX6_findings 1 = .ok (.iconst 1, 1) := by decide +kernel
theorem dX6_findings_2 : decode cX6_findings 2 = .ok (.iconst 5, 1) := by decide +kernel
theorem dX6_findings_3 : decode cX6_findings 3 = .ok (.invokestatic 63, 3) := by decide +kernel
theorem dX6_findings_6 : decode cX6_findings 6 = .ok (.ifCond .ne 5, 3) := by decide +kernel
theorem dX6_findings_9 : decode cX6_findings 9 = .ok (.iconst (-1), 1) := by decide +kernel
theorem dX6_findings_10 : decode cX6_findings 10 = .ok (.ireturn, 1) := by decide +kernel
theorem dX6_findings_11 : decode cX6_findings 11 = .ok (.aload_n 0, 1) := by decide +kernel
theorem dX6_findings_12 : decode cX6_findings 12 = .ok (.getfield 47, 3) := by decide +kernel
theorem dX6_findings_15 : decode cX6_findings 15 = .ok (.iload_n 1, 1) := by decide +kernel
theorem dX6_findings_16 : decode cX6_findings 16 = .ok (.invokevirtual 245, 3) := by decide +kernel
theorem dX6_findings_19 : decode cX6_findings 19 = .ok (.ireturn, 1) := by decide +kernel
theorem dX6_digest_0 : decode cX6_digest 0 = .ok (.aload_n 0, 1) := by decide +kernel
theorem dX6_digest_1 : decode cX6_digest 1 = .ok (.getfield 10, 3) := by decide +kernel
theorem dX6_digest_4 : decode cX6_digest 4 = .ok (.ldc2_w 248, 3) := by decide +kernel
theorem dX6_digest_7 : decode cX6_digest 7 = .ok (.invokevirtual 250, 3) := by decide +kernel
theorem dX6_digest_10 : decode cX6_digest 10 = .ok (.lstore_n 1, 1) := by decide +kernel
theorem dX6_digest_11 : decode cX6_digest 11 = .ok (.aload_n 0, 1) := by decide +kernel
theorem dX6_digest_12 : decode cX6_digest 12 = .ok (.getfield 19, 3) := by decide +kernel
theorem dX6_digest_15 : decode cX6_digest 15 = .ok (.lload_n 1, 1) := by decide +kernel
theorem dX6_digest_16 : decode cX6_digest 16 = .ok (.invokevirtual 253, 3) := by decide +kernel
theorem dX6_digest_19 : decode cX6_digest 19 = .ok (.lstore_n 1, 1) := by decide +kernel
theorem dX6_digest_20 : decode cX6_digest 20 = .ok (.aload_n 0, 1) := by decide +kernel
theorem dX6_digest_21 : decode cX6_digest 21 = .ok (.getfield 26, 3) := by decide +kernel
theorem dX6_digest_24 : decode cX6_digest 24 = .ok (.lload_n 1, 1) := by decide +kernel
theorem dX6_digest_25 : decode cX6_digest 25 = .ok (.invokevirtual 254, 3) := by decide +kernel
theorem dX6_digest_28 : decode cX6_digest 28 = .ok (.lstore_n 1, 1) := by decide +kernel
theorem dX6_digest_29 : decode cX6_digest 29 = .ok (.aload_n 0, 1) := by decide +kernel
theorem dX6_digest_30 : decode cX6_digest 30 = .ok (.getfield 33, 3) := by decide +kernel
theorem dX6_digest_33 : decode cX6_digest 33 = .ok (.lload_n 1, 1) := by decide +kernel
theorem dX6_digest_34 : decode cX6_digest 34 = .ok (.invokevirtual 255, 3) := by decide +kernel
theorem dX6_digest_37 : decode cX6_digest 37 = .ok (.lstore_n 1, 1) := by decide +kernel
theorem dX6_digest_38 : decode cX6_digest 38 = .ok (.aload_n 0, 1) := by decide +kernel
theorem dX6_digest_39 : decode cX6_digest 39 = .ok (.getfield 40, 3) := by decide +kernel
theorem dX6_digest_42 : decode cX6_digest 42 = .ok (.lload_n 1, 1) := by decide +kernel
theorem dX6_digest_43 : decode cX6_digest 43 = .ok (.invokevirtual 256, 3) := by decide +kernel
theorem dX6_digest_46 : decode cX6_digest 46 = .ok (.lstore_n 1, 1) := by decide +kernel
theorem dX6_digest_47 : decode cX6_digest 47 = .ok (.iconst 0, 1) := by decide +kernel
theorem dX6_digest_48 : decode cX6_digest 48 = .ok (.istore_n 3, 1) := by decide +kernel
theorem dX6_digest_49 : decode cX6_digest 49 = .ok (.iload_n 3, 1) := by decide +kernel
theorem dX6_digest_50 : decode cX6_digest 50 = .ok (.iconst 5, 1) := by decide +kernel
theorem dX6_digest_51 : decode cX6_digest 51 = .ok (.if_icmp .ge 20, 3) := by decide +kernel
theorem dX6_digest_54 : decode cX6_digest 54 = .ok (.lload_n 1, 1) := by decide +kernel
theorem dX6_digest_55 : decode cX6_digest 55 = .ok (.aload_n 0, 1) := by decide +kernel
theorem dX6_digest_56 : decode cX6_digest 56 = .ok (.iload_n 3, 1) := by decide +kernel
theorem dX6_digest_57 : decode cX6_digest 57 = .ok (.invokevirtual 257, 3) := by decide +kernel
theorem dX6_digest_60 : decode cX6_digest 60 = .ok (.i2l, 1) := by decide +kernel
theorem dX6_digest_61 : decode cX6_digest 61 = .ok (.invokestatic 260, 3) := by decide +kernel
theorem dX6_digest_64 : decode cX6_digest 64 = .ok (.lstore_n 1, 1) := by decide +kernel
theorem dX6_digest_65 : decode cX6_digest 65 = .ok (.iinc 3 1, 3) := by decide +kernel
theorem dX6_digest_68 : decode cX6_digest 68 = .ok (.goto (-19), 3) := by decide +kernel
theorem dX6_digest_71 : decode cX6_digest 71 = .ok (.lload_n 1, 1) := by decide +kernel
theorem dX6_digest_72 : decode cX6_digest 72 = .ok (.lreturn, 1) := by decide +kernel
theorem dX6_within_0 : decode cX6_within 0 = .ok (.iload_n 0, 1) := by decide +kernel
theorem dX6_within_1 : decode cX6_within 1 = .ok (.iload_n 1, 1) := by decide +kernel
theorem dX6_within_2 : decode cX6_within 2 = .ok (.if_icmp .lt 12, 3) := by decide +kernel
theorem dX6_within_5 : decode cX6_within 5 = .ok (.iload_n 0, 1) := by decide +kernel
theorem dX6_within_6 : decode cX6_within 6 = .ok (.iload_n 2, 1) := by decide +kernel
theorem dX6_within_7 : decode cX6_within 7 = .ok (.if_icmp .gt 7, 3) := by decide +kernel
theorem dX6_within_10 : decode cX6_within 10 = .ok (.iconst 1, 1) := by decide +kernel
theorem dX6_within_11 : decode cX6_within 11 = .ok (.goto 4, 3) := by decide +kernel
theorem dX6_within_14 : decode cX6_within 14 = .ok (.iconst 0, 1) := by decide +kernel
theorem dX6_within_15 : decode cX6_within 15 = .ok (.ireturn, 1) := by decide +kernel
theorem dX6_fitWhole_0 : decode cX6_fitWhole 0 = .ok (.iload_n 0, 1) := by decide +kernel
theorem dX6_fitWhole_1 : decode cX6_fitWhole 1 = .ok (.iconst 0, 1) := by decide +kernel
theorem dX6_fitWhole_2 : decode cX6_fitWhole 2 = .ok (.sipush 1000, 3) := by decide +kernel
theorem dX6_fitWhole_5 : decode cX6_fitWhole 5 = .ok (.invokestatic 63, 3) := by decide +kernel
theorem dX6_fitWhole_8 : decode cX6_fitWhole 8 = .ok (.ifCond .eq 40, 3) := by decide +kernel
theorem dX6_fitWhole_11 : decode cX6_fitWhole 11 = .ok (.iload_n 1, 1) := by decide +kernel
theorem dX6_fitWhole_12 : decode cX6_fitWhole 12 = .ok (.iconst 0, 1) := by decide +kernel
theorem dX6_fitWhole_13 : decode cX6_fitWhole 13 = .ok (.sipush 1000, 3) := by decide +kernel
theorem dX6_fitWhole_16 : decode cX6_fitWhole 16 = .ok (.invokestatic 63, 3) := by decide +kernel
theorem dX6_fitWhole_19 : decode cX6_fitWhole 19 = .ok (.ifCond .eq 29, 3) := by decide +kernel
theorem dX6_fitWhole_22 : decode cX6_fitWhole 22 = .ok (.iload_n 2, 1) := by decide +kernel
theorem dX6_fitWhole_23 : decode cX6_fitWhole 23 = .ok (.iconst 0, 1) := by decide +kernel
theorem dX6_fitWhole_24 : decode cX6_fitWhole 24 = .ok (.sipush 1000, 3) := by decide +kernel
theorem dX6_fitWhole_27 : decode cX6_fitWhole 27 = .ok (.invokestatic 63, 3) := by decide +kernel
theorem dX6_fitWhole_30 : decode cX6_fitWhole 30 = .ok (.ifCond .eq 18, 3) := by decide +kernel
theorem dX6_fitWhole_33 : decode cX6_fitWhole 33 = .ok (.iload_n 0, 1) := by decide +kernel
theorem dX6_fitWhole_34 : decode cX6_fitWhole 34 = .ok (.iload_n 1, 1) := by decide +kernel
theorem dX6_fitWhole_35 : decode cX6_fitWhole 35 = .ok (.iadd, 1) := by decide +kernel
theorem dX6_fitWhole_36 : decode cX6_fitWhole 36 = .ok (.iload_n 2, 1) := by decide +kernel
theorem dX6_fitWhole_37 : decode cX6_fitWhole 37 = .ok (.iadd, 1) := by decide +kernel
theorem dX6_fitWhole_38 : decode cX6_fitWhole 38 = .ok (.sipush 1000, 3) := by decide +kernel
theorem dX6_fitWhole_41 : decode cX6_fitWhole 41 = .ok (.if_icmp .gt 7, 3) := by decide +kernel
theorem dX6_fitWhole_44 : decode cX6_fitWhole 44 = .ok (.iconst 1, 1) := by decide +kernel
theorem dX6_fitWhole_45 : decode cX6_fitWhole 45 = .ok (.goto 4, 3) := by decide +kernel
theorem dX6_fitWhole_48 : decode cX6_fitWhole 48 = .ok (.iconst 0, 1) := by decide +kernel
theorem dX6_fitWhole_49 : decode cX6_fitWhole 49 = .ok (.ireturn, 1) := by decide +kernel
theorem dX6_hasHours_0 : decode cX6_hasHours 0 = .ok (.iload_n 0, 1) := by decide +kernel
theorem dX6_hasHours_1 : decode cX6_hasHours 1 = .ok (.iconst 0, 1) := by decide +kernel
theorem dX6_hasHours_2 : decode cX6_hasHours 2 = .ok (.bipush 24, 2) := by decide +kernel
theorem dX6_hasHours_4 : decode cX6_hasHours 4 = .ok (.invokestatic 63, 3) := by decide +kernel
theorem dX6_hasHours_7 : decode cX6_hasHours 7 = .ok (.ifCond .eq 15, 3) := by decide +kernel
theorem dX6_hasHours_10 : decode cX6_hasHours 10 = .ok (.iload_n 1, 1) := by decide +kernel
theorem dX6_hasHours_11 : decode cX6_hasHours 11 = .ok (.bipush 24, 2) := by decide +kernel
theorem dX6_hasHours_13 : decode cX6_hasHours 13 = .ok (.iload_n 0, 1) := by decide +kernel
theorem dX6_hasHours_14 : decode cX6_hasHours 14 = .ok (.isub, 1) := by decide +kernel
theorem dX6_hasHours_15 : decode cX6_hasHours 15 = .ok (.if_icmp .gt 7, 3) := by decide +kernel
theorem dX6_hasHours_18 : decode cX6_hasHours 18 = .ok (.iconst 1, 1) := by decide +kernel
theorem dX6_hasHours_19 : decode cX6_hasHours 19 = .ok (.goto 4, 3) := by decide +kernel
theorem dX6_hasHours_22 : decode cX6_hasHours 22 = .ok (.iconst 0, 1) := by decide +kernel
theorem dX6_hasHours_23 : decode cX6_hasHours 23 = .ok (.ireturn, 1) := by decide +kernel
theorem dX6_fold_0 : decode cX6_fold 0 = .ok (.ldc2_w 264, 3) := by decide +kernel
theorem dX6_fold_3 : decode cX6_fold 3 = .ok (.lload_n 0, 1) := by decide +kernel
theorem dX6_fold_4 : decode cX6_fold 4 = .ok (.lmul, 1) := by decide +kernel
theorem dX6_fold_5 : decode cX6_fold 5 = .ok (.lload_n 2, 1) := by decide +kernel
theorem dX6_fold_6 : decode cX6_fold 6 = .ok (.ladd, 1) := by decide +kernel
theorem dX6_fold_7 : decode cX6_fold 7 = .ok (.lreturn, 1) := by decide +kernel
theorem dX6_commonDivisor_0 : decode cX6_commonDivisor 0 = .ok (.iload_n 0, 1) := by decide +kernel
theorem dX6_commonDivisor_1 : decode cX6_commonDivisor 1 = .ok (.istore_n 2, 1) := by decide +kernel
theorem dX6_commonDivisor_2 : decode cX6_commonDivisor 2 = .ok (.iload_n 1, 1) := by decide +kernel
theorem dX6_commonDivisor_3 : decode cX6_commonDivisor 3 = .ok (.istore_n 3, 1) := by decide +kernel
theorem dX6_commonDivisor_4 : decode cX6_commonDivisor 4 = .ok (.iconst 0, 1) := by decide +kernel
theorem dX6_commonDivisor_5 : decode cX6_commonDivisor 5 = .ok (.istore 4, 2) := by decide +kernel
theorem dX6_commonDivisor_7 : decode cX6_commonDivisor 7 = .ok (.iload 4, 2) := by decide +kernel
theorem dX6_commonDivisor_9 : decode cX6_commonDivisor 9 = .ok (.bipush 64, 2) := by decide +kernel
theorem dX6_commonDivisor_11 : decode cX6_commonDivisor 11 = .ok (.if_icmp .ge 23, 3) := by decide +kernel
theorem dX6_commonDivisor_14 : decode cX6_commonDivisor 14 = .ok (.iload_n 2, 1) := by decide +kernel
theorem dX6_commonDivisor_15 : decode cX6_commonDivisor 15 = .ok (.ifCond .eq 19, 3) := by decide +kernel
theorem dX6_commonDivisor_18 : decode cX6_commonDivisor 18 = .ok (.iload_n 3, 1) := by decide +kernel
theorem dX6_commonDivisor_19 : decode cX6_commonDivisor 19 = .ok (.iload_n 2, 1) := by decide +kernel
theorem dX6_commonDivisor_20 : decode cX6_commonDivisor 20 = .ok (.irem, 1) := by decide +kernel
theorem dX6_commonDivisor_21 : decode cX6_commonDivisor 21 = .ok (.istore 5, 2) := by decide +kernel
theorem dX6_commonDivisor_23 : decode cX6_commonDivisor 23 = .ok (.iload_n 2, 1) := by decide +kernel
theorem dX6_commonDivisor_24 : decode cX6_commonDivisor 24 = .ok (.istore_n 3, 1) := by decide +kernel
theorem dX6_commonDivisor_25 : decode cX6_commonDivisor 25 = .ok (.iload 5, 2) := by decide +kernel
theorem dX6_commonDivisor_27 : decode cX6_commonDivisor 27 = .ok (.istore_n 2, 1) := by decide +kernel
theorem dX6_commonDivisor_28 : decode cX6_commonDivisor 28 = .ok (.iinc 4 1, 3) := by decide +kernel
theorem dX6_commonDivisor_31 : decode cX6_commonDivisor 31 = .ok (.goto (-24), 3) := by decide +kernel
theorem dX6_commonDivisor_34 : decode cX6_commonDivisor 34 = .ok (.iload_n 3, 1) := by decide +kernel
theorem dX6_commonDivisor_35 : decode cX6_commonDivisor 35 = .ok (.iconst 1, 1) := by decide +kernel
theorem dX6_commonDivisor_36 : decode cX6_commonDivisor 36 = .ok (.invokestatic 266, 3) := by decide +kernel
theorem dX6_commonDivisor_39 : decode cX6_commonDivisor 39 = .ok (.ireturn, 1) := by decide +kernel
theorem dX7_init_0 : decode cX7_init 0 = .ok (.aload_n 0, 1) := by decide +kernel
theorem dX7_init_1 : decode cX7_init 1 = .ok (.invokespecial 1, 3) := by decide +kernel
theorem dX7_init_4 : decode cX7_init 4 = .ok (.aload_n 0, 1) := by decide +kernel
theorem dX7_init_5 : decode cX7_init 5 = .ok (.bipush 6, 2) := by decide +kernel
theorem dX7_init_7 : decode cX7_init 7 = .ok (.newarray .int, 2) := by decide +kernel
theorem dX7_init_9 : decode cX7_init 9 = .ok (.putfield 7, 3) := by decide +kernel
theorem dX7_init_12 : decode cX7_init 12 = .ok (.aload_n 0, 1) := by decide +kernel
theorem dX7_init_13 : decode cX7_init 13 = .ok (.lconst 1, 1) := by decide +kernel
theorem dX7_init_14 : decode cX7_init 14 = .ok (.putfield 13, 3) := by decide +kernel
theorem dX7_init_17 : decode cX7_init 17 = .ok (.aload_n 0, 1) := by decide +kernel
theorem dX7_init_18 : decode cX7_init 18 = .ok (.bipush 30, 2) := by decide +kernel
theorem dX7_init_20 : decode cX7_init 20 = .ok (.newarray .int, 2) := by decide +kernel
theorem dX7_init_22 : decode cX7_init 22 = .ok (.putfield 17, 3) := by decide +kernel
theorem dX7_init_25 : decode cX7_init 25 = .ok (.aload_n 0, 1) := by decide +kernel
theorem dX7_init_26 : decode cX7_init 26 = .ok (.bipush 10, 2) := by decide +kernel
theorem dX7_init_28 : decode cX7_init 28 = .ok (.newarray .int, 2) := by decide +kernel
theorem dX7_init_30 : decode cX7_init 30 = .ok (.putfield 20, 3) := by decide +kernel
theorem dX7_init_33 : decode cX7_init 33 = .ok (.aload_n 0, 1) := by decide +kernel
theorem dX7_init_34 : decode cX7_init 34 = .ok (.bipush 10, 2) := by decide +kernel
theorem dX7_init_36 : decode cX7_init 36 = .ok (.newarray .int, 2) := by decide +kernel
theorem dX7_init_38 : decode cX7_init 38 = .ok (.putfield 23, 3) := by decide +kernel
theorem dX7_init_41 : decode cX7_init 41 = .ok (.aload_n 0, 1) := by decide +kernel
theorem dX7_init_42 : decode cX7_init 42 = .ok (.bipush 10, 2) := by decide +kernel
theorem dX7_init_44 : decode cX7_init 44 = .ok (.newarray .boolean, 2) := by decide +kernel
theorem dX7_init_46 : decode cX7_init 46 = .ok (.putfield 26, 3) := by decide +kernel
theorem dX7_init_49 : decode cX7_init 49 = .ok (.aload_n 0, 1) := by decide +kernel
theorem dX7_init_50 : decode cX7_init 50 = .ok (.bipush 16, 2) := by decide +kernel
theorem dX7_init_52 : decode cX7_init 52 = .ok (.newarray .int, 2) := by decide +kernel
theorem dX7_init_54 : decode cX7_init 54 = .ok (.putfield 30, 3) := by decide +kernel
theorem dX7_init_57 : decode cX7_init 57 = .ok (.aload_n 0, 1) := by decide +kernel
theorem dX7_init_58 : decode cX7_init 58 = .ok (.iconst 4, 1) := by decide +kernel
theorem dX7_init_59 : decode cX7_init 59 = .ok (.newarray .int, 2) := by decide +kernel
theorem dX7_init_61 : decode cX7_init 61 = .ok (.putfield 33, 3) := by decide +kernel
theorem dX7_init_64 : decode cX7_init 64 = .ok (.aload_n 0, 1) := by decide +kernel
theorem dX7_init_65 : decode cX7_init 65 = .ok (.iconst 3, 1) := by decide +kernel
theorem dX7_init_66 : decode cX7_init 66 = .ok (.putfield 36, 3) := by decide +kernel
theorem dX7_init_69 : decode cX7_init 69 = .ok (.aload_n 0, 1) := by decide +kernel
theorem dX7_init_70 : decode cX7_init 70 = .ok (.iconst 1, 1) := by decide +kernel
theorem dX7_init_71 : decode cX7_init 71 = .ok (.putfield 40, 3) := by decide +kernel
theorem dX7_init_74 : decode cX7_init 74 = .ok (.aload_n 0, 1) := by decide +kernel
theorem dX7_init_75 : decode cX7_init 75 = .ok (.iconst 1, 1) := by decide +kernel
theorem dX7_init_76 : decode cX7_init 76 = .ok (.putfield 43, 3) := by decide +kernel
theorem dX7_init_79 : decode cX7_init 79 = .ok (.aload_n 0, 1) := by decide +kernel
theorem dX7_init_80 : decode cX7_init 80 = .ok (.bipush 10, 2) := by decide +kernel
theorem dX7_init_82 : decode cX7_init 82 = .ok (.putfield 46, 3) := by decide +kernel
theorem dX7_init_85 : decode cX7_init 85 = .ok (.aload_n 0, 1) := by decide +kernel
theorem dX7_init_86 : decode cX7_init 86 = .ok (.sipush 200, 3) := by decide +kernel
theorem dX7_init_89 : decode cX7_init 89 = .ok (.newarray .int, 2) := by decide +kernel
theorem dX7_init_91 : decode cX7_init 91 = .ok (.putfield 49, 3) := by decide +kernel
theorem dX7_init_94 : decode cX7_init 94 = .ok (.aload_n 0, 1) := by decide +kernel
theorem dX7_init_95 : decode cX7_init 95 = .ok (.sipush 200, 3) := by decide +kernel
theorem dX7_init_98 : decode cX7_init 98 = .ok (.newarray .long, 2) := by decide +kernel
theorem dX7_init_100 : decode cX7_init 100 = .ok (.putfield 52, 3) := by decide +kernel
theorem dX7_init_103 : decode cX7_init 103 = .ok (.aload_n 0, 1) := by decide +kernel
theorem dX7_init_104 : decode cX7_init 104 = .ok (.sipush 200, 3) := by decide +kernel
theorem dX7_init_107 : decode cX7_init 107 = .ok (.newarray .long, 2) := by decide +kernel
theorem dX7_init_109 : decode cX7_init 109 = .ok (.putfield 56, 3) := by decide +kernel
theorem dX7_init_112 : decode cX7_init 112 = .ok (.aload_n 0, 1) := by decide +kernel
theorem dX7_init_113 : decode cX7_init 113 = .ok (.sipush 200, 3) := by decide +kernel
theorem dX7_init_116 : decode cX7_init 116 = .ok (.newarray .int, 2) := by decide +kernel
theorem dX7_init_118 : decode cX7_init 118 = .ok (.putfield 59, 3) := by decide +kernel
theorem dX7_init_121 : decode cX7_init 121 = .ok (.aload_n 0, 1) := by decide +kernel
theorem dX7_init_122 : decode cX7_init 122 = .ok (.bipush (-9), 2) := by decide +kernel
theorem dX7_init_124 : decode cX7_init 124 = .ok (.putfield 62, 3) := by decide +kernel
theorem dX7_init_127 : decode cX7_init 127 = .ok (.aload_n 0, 1) := by decide +kernel
theorem dX7_init_128 : decode cX7_init 128 = .ok (.iconst 5, 1) := by decide +kernel
theorem dX7_init_129 : decode cX7_init 129 = .ok (.newarray .int, 2) := by decide +kernel
theorem dX7_init_131 : decode cX7_init 131 = .ok (.putfield 65, 3) := by decide +kernel
theorem dX7_init_134 : decode cX7_init 134 = .ok (.aload_n 0, 1) := by decide +kernel
theorem dX7_init_135 : decode cX7_init 135 = .ok (.iconst 5, 1) := by decide +kernel
theorem dX7_init_136 : decode cX7_init 136 = .ok (.newarray .int, 2) := by decide +kernel
theorem dX7_init_138 : decode cX7_init 138 = .ok (.putfield 68, 3) := by decide +kernel
theorem dX7_init_141 : decode cX7_init 141 = .ok (.aload_n 0, 1) := by decide +kernel
theorem dX7_init_142 : decode cX7_init 142 = .ok (.iconst 4, 1) := by decide +kernel
theorem dX7_init_143 : decode cX7_init 143 = .ok (.newarray .int, 2) := by decide +kernel
theorem dX7_init_145 : decode cX7_init 145 = .ok (.putfield 71, 3) := by decide +kernel
theorem dX7_init_148 : decode cX7_init 148 = .ok (.aload_n 0, 1) := by decide +kernel
theorem dX7_init_149 : decode cX7_init 149 = .ok (.iconst 4, 1) := by decide +kernel
theorem dX7_init_150 : decode cX7_init 150 = .ok (.newarray .int, 2) := by decide +kernel
theorem dX7_init_152 : decode cX7_init 152 = .ok (.putfield 74, 3) := by decide +kernel
theorem dX7_init_155 : decode cX7_init 155 = .ok (.aload_n 0, 1) := by decide +kernel
theorem dX7_init_156 : decode cX7_init 156 = .ok (.bipush 7, 2) := by decide +kernel
theorem dX7_init_158 : decode cX7_init 158 = .ok (.newarray .int, 2) := by decide +kernel
theorem dX7_init_160 : decode cX7_init 160 = .ok (.putfield 77, 3) := by decide +kernel
theorem dX7_init_163 : decode cX7_init 163 = .ok (.aload_n 0, 1) := by decide +kernel
theorem dX7_init_164 : decode cX7_init 164 = .ok (.iconst 5, 1) := by decide +kernel
theorem dX7_init_165 : decode cX7_init 165 = .ok (.newarray .long, 2) := by decide +kernel
theorem dX7_init_167 : decode cX7_init 167 = .ok (.putfield 80, 3) := by decide +kernel
theorem dX7_init_170 : decode cX7_init 170 = .ok (.aload_n 0, 1) := by decide +kernel
theorem dX7_init_171 : decode cX7_init 171 = .ok (.bipush (-9), 2) := by decide +kernel
theorem dX7_init_173 : decode cX7_init 173 = .ok (.putfield 83, 3) := by decide +kernel
theorem dX7_init_176 : decode cX7_init 176 = .ok (.aload_n 0, 1) := by decide +kernel
theorem dX7_init_177 : decode cX7_init 177 = .ok (.sipush 500, 3) := by decide +kernel
theorem dX7_init_180 : decode cX7_init 180 = .ok (.newarray .int, 2) := by decide +kernel
theorem dX7_init_182 : decode cX7_init 182 = .ok (.putfield 86, 3) := by decide +kernel
theorem dX7_init_185 : decode cX7_init 185 = .ok (.aload_n 0, 1) := by decide +kernel
theorem dX7_init_186 : decode cX7_init 186 = .ok (.sipush 500, 3) := by decide +kernel
theorem dX7_init_189 : decode cX7_init 189 = .ok (.newarray .int, 2) := by decide +kernel
theorem dX7_init_191 : decode cX7_init 191 = .ok (.putfield 89, 3) := by decide +kernel
theorem dX7_init_194 : decode cX7_init 194 = .ok (.aload_n 0, 1) := by decide +kernel
theorem dX7_init_195 : decode cX7_init 195 = .ok (.sipush 500, 3) := by decide +kernel
theorem dX7_init_198 : decode cX7_init 198 = .ok (.newarray .int, 2) := by decide +kernel
theorem dX7_init_200 : decode cX7_init 200 = .ok (.putfield 92, 3) := by decide +kernel
theorem dX7_init_203 : decode cX7_init 203 = .ok (.aload_n 0, 1) := by decide +kernel
theorem dX7_init_204 : decode cX7_init 204 = .ok (.sipush 500, 3) := by decide +kernel
theorem dX7_init_207 : decode cX7_init 207 = .ok (.newarray .int, 2) := by decide +kernel
theorem dX7_init_209 : decode cX7_init 209 = .ok (.putfield 95, 3) := by decide +kernel
theorem dX7_init_212 : decode cX7_init 212 = .ok (.aload_n 0, 1) := by decide +kernel
theorem dX7_init_213 : decode cX7_init 213 = .ok (.sipush 500, 3) := by decide +kernel
theorem dX7_init_216 : decode cX7_init 216 = .ok (.newarray .int, 2) := by decide +kernel
theorem dX7_init_218 : decode cX7_init 218 = .ok (.putfield 98, 3) := by decide +kernel
theorem dX7_init_221 : decode cX7_init 221 = .ok (.aload_n 0, 1) := by decide +kernel
theorem dX7_init_222 : decode cX7_init 222 = .ok (.bipush 7, 2) := by decide +kernel
theorem dX7_init_224 : decode cX7_init 224 = .ok (.newarray .boolean, 2) := by decide +kernel
theorem dX7_init_226 : decode cX7_init 226 = .ok (.putfield 101, 3) := by decide +kernel
theorem dX7_init_229 : decode cX7_init 229 = .ok (.aload_n 0, 1) := by decide +kernel
theorem dX7_init_230 : decode cX7_init 230 = .ok (.sipush 168, 3) := by decide +kernel
theorem dX7_init_233 : decode cX7_init 233 = .ok (.newarray .int, 2) := by decide +kernel
theorem dX7_init_235 : decode cX7_init 235 = .ok (.putfield 104, 3) := by decide +kernel
theorem dX7_init_238 : decode cX7_init 238 = .ok (.aload_n 0, 1) := by decide +kernel
theorem dX7_init_239 : decode cX7_init 239 = .ok (.bipush 24, 2) := by decide +kernel
theorem dX7_init_241 : decode cX7_init 241 = .ok (.newarray .int, 2) := by decide +kernel
theorem dX7_init_243 : decode cX7_init 243 = .ok (.putfield 107, 3) := by decide +kernel
theorem dX7_init_246 : decode cX7_init 246 = .ok (.aload_n 0, 1) := by decide +kernel
theorem dX7_init_247 : decode cX7_init 247 = .ok (.bipush 24, 2) := by decide +kernel
theorem dX7_init_249 : decode cX7_init 249 = .ok (.newarray .int, 2) := by decide +kernel
theorem dX7_init_251 : decode cX7_init 251 = .ok (.putfield 110, 3) := by decide +kernel
theorem dX7_init_254 : decode cX7_init 254 = .ok (.aload_n 0, 1) := by decide +kernel
theorem dX7_init_255 : decode cX7_init 255 = .ok (.bipush 26, 2) := by decide +kernel
theorem dX7_init_257 : decode cX7_init 257 = .ok (.newarray .int, 2) := by decide +kernel
theorem dX7_init_259 : decode cX7_init 259 = .ok (.putfield 113, 3) := by decide +kernel
theorem dX7_init_262 : decode cX7_init 262 = .ok (.aload_n 0, 1) := by decide +kernel
theorem dX7_init_263 : decode cX7_init 263 = .ok (.bipush 26, 2) := by decide +kernel
theorem dX7_init_265 : decode cX7_init 265 = .ok (.newarray .int, 2) := by decide +kernel
theorem dX7_init_267 : decode cX7_init 267 = .ok (.putfield 116, 3) := by decide +kernel
theorem dX7_init_270 : decode cX7_init 270 = .ok (.iconst 0, 1) := by decide +kernel
theorem dX7_init_271 : decode cX7_init 271 = .ok (.istore_n 1, 1) := by decide +kernel
theorem dX7_init_272 : decode cX7_init 272 = .ok (.iload_n 1, 1) := by decide +kernel
theorem dX7_init_273 : decode cX7_init 273 = .ok (.bipush 16, 2) := by decide +kernel
theorem dX7_init_275 : decode cX7_init 275 = .ok (.if_icmp .ge 18, 3) := by decide +kernel
theorem dX7_init_278 : decode cX7_init 278 = .ok (.aload_n 0, 1) := by decide +kernel
theorem dX7_init_279 : decode cX7_init 279 = .ok (.getfield 30, 3) := by decide +kernel
theorem dX7_init_282 : decode cX7_init 282 = .ok (.iload_n 1, 1) := by decide +kernel
theorem dX7_init_283 : decode cX7_init 283 = .ok (.sipush 250, 3) := by decide +kernel
theorem dX7_init_286 : decode cX7_init 286 = .ok (.iastore, 1) := by decide +kernel
theorem dX7_init_287 : decode cX7_init 287 = .ok (.iinc 1 1, 3) := by decide +kernel
theorem dX7_init_290 : decode cX7_init 290 = .ok (.goto (-18), 3) := by decide +kernel
theorem dX7_init_293 : decode cX7_init 293 = .ok (.iconst 0, 1) := by decide +kernel
theorem dX7_init_294 : decode cX7_init 294 = .ok (.istore_n 1, 1) := by decide +kernel
theorem dX7_init_295 : decode cX7_init 295 = .ok (.iload_n 1, 1) := by decide +kernel
theorem dX7_init_296 : decode cX7_init 296 = .ok (.iconst 4, 1) := by decide +kernel
theorem dX7_init_297 : decode cX7_init 297 = .ok (.if_icmp .ge 18, 3) := by decide +kernel
theorem dX7_init_300 : decode cX7_init 300 = .ok (.aload_n 0, 1) := by decide +kernel
theorem dX7_init_301 : decode cX7_init 301 = .ok (.getfield 33, 3) := by decide +kernel
theorem dX7_init_304 : decode cX7_init 304 = .ok (.iload_n 1, 1) := by decide +kernel
theorem dX7_init_305 : decode cX7_init 305 = .ok (.sipush 250, 3) := by decide +kernel
theorem dX7_init_308 : decode cX7_init 308 = .ok (.iastore, 1) := by decide +kernel
theorem dX7_init_309 : decode cX7_init 309 = .ok (.iinc 1 1, 3) := by decide +kernel
theorem dX7_init_312 : decode cX7_init 312 = .ok (.goto (-17), 3) := by decide +kernel
theorem dX7_init_315 : decode cX7_init 315 = .ok (.return_, 1) := by decide +kernel
theorem dX7_in_0 : decode cX7_in 0 = .ok (.iload_n 0, 1) := by decide +kernel
theorem dX7_in_1 : decode cX7_in 1 = .ok (.iload_n 1, 1) := by decide +kernel
theorem dX7_in_2 : decode cX7_in 2 = .ok (.if_icmp .lt 12, 3) := by decide +kernel
theorem dX7_in_5 : decode cX7_in 5 = .ok (.iload_n 0, 1) := by decide +kernel
theorem dX7_in_6 : decode cX7_in 6 = .ok (.iload_n 2, 1) := by decide +kernel
theorem dX7_in_7 : decode cX7_in 7 = .ok (.if_icmp .gt 7, 3) := by decide +kernel
theorem dX7_in_10 : decode cX7_in 10 = .ok (.iconst 1, 1) := by decide +kernel
theorem dX7_in_11 : decode cX7_in 11 = .ok (.goto 4, 3) := by decide +kernel
theorem dX7_in_14 : decode cX7_in 14 = .ok (.iconst 0, 1) := by decide +kernel
theorem dX7_in_15 : decode cX7_in 15 = .ok (.ireturn, 1) := by decide +kernel
theorem dX7_meets_0 : decode cX7_meets 0 = .ok (.aload_n 0, 1) := by decide +kernel
theorem dX7_meets_1 : decode cX7_meets 1 = .ok (.iload_n 1, 1) := by decide +kernel
theorem dX7_meets_2 : decode cX7_meets 2 = .ok (.putfield 119, 3) := by decide +kernel
theorem dX7_meets_5 : decode cX7_meets 5 = .ok (.aload_n 0, 1) := by decide +kernel
theorem dX7_meets_6 : decode cX7_meets 6 = .ok (.getfield 7, 3) := by decide +kernel
theorem dX7_meets_9 : decode cX7_meets 9 = .ok (.iload_n 1, 1) := by decide +kernel
theorem dX7_meets_10 : decode cX7_meets 10 = .ok (.dup2, 1) := by decide +kernel
theorem dX7_meets_11 : decode cX7_meets 11 = .ok (.iaload, 1) := by decide +kernel
theorem dX7_meets_12 : decode cX7_meets 12 = .ok (.iconst 1, 1) := by decide +kernel
theorem dX7_meets_13 : decode cX7_meets 13 = .ok (.iadd, 1) := by decide +kernel
theorem dX7_meets_14 : decode cX7_meets 14 = .ok (.iastore, 1) := by decide +kernel
theorem dX7_meets_15 : decode cX7_meets 15 = .ok (.bipush (-3), 2) := by decide +kernel
theorem dX7_meets_17 : decode cX7_meets 17 = .ok (.ireturn, 1) := by decide +kernel
theorem dX7_tell_0 : decode cX7_tell 0 = .ok (.aload_n 0, 1) := by decide +kernel
theorem dX7_tell_1 : decode cX7_tell 1 = .ok (.lload_n 1, 1) := by decide +kernel
theorem dX7_tell_2 : decode cX7_tell 2 = .ok (.putfield 122, 3) := by decide +kernel
theorem dX7_tell_5 : decode cX7_tell 5 = .ok (.iload_n 3, 1) := by decide +kernel
theorem dX7_tell_6 : decode cX7_tell 6 = .ok (.ireturn, 1) := by decide +kernel
theorem dX7_stroke_0 : decode cX7_stroke 0 = .ok (.iload_n 1, 1) := by decide +kernel
theorem dX7_stroke_1 : decode cX7_stroke 1 = .ok (.iconst 1, 1) := by decide +kernel
theorem dX7_stroke_2 : decode cX7_stroke 2 = .ok (.sipush 1000, 3) := by decide +kernel
theorem dX7_stroke_5 : decode cX7_stroke 5 = .ok (.invokestatic 125, 3) := by decide +kernel
theorem dX7_stroke_8 : decode cX7_stroke 8 = .ok (.ifCond .ne 5, 3) := by decide +kernel
theorem dX7_stroke_11 : decode cX7_stroke 11 = .ok (.iconst (-1), 1) := by decide +kernel
theorem dX7_stroke_12 : decode cX7_stroke 12 = .ok (.ireturn, 1) := by decide +kernel
theorem dX7_stroke_13 : decode cX7_stroke 13 = .ok (.iconst 0, 1) := by decide +kernel
theorem dX7_stroke_14 : decode cX7_stroke 14 = .ok (.istore 4, 2) := by decide +kernel
theorem dX7_stroke_16 : decode cX7_stroke 16 = .ok (.iload 4, 2) := by decide +kernel
theorem dX7_stroke_18 : decode cX7_stroke 18 = .ok (.bipush 10, 2) := by decide +kernel
theorem dX7_stroke_20 : decode cX7_stroke 20 = .ok (.if_icmp .ge 37, 3) := by decide +kernel
theorem dX7_stroke_23 : decode cX7_stroke 23 = .ok (.iload_n 2, 1) := by decide +kernel
theorem dX7_stroke_24 : decode cX7_stroke 24 = .ok (.i2l, 1) := by decide +kernel
theorem dX7_stroke_25 : decode cX7_stroke 25 = .ok (.iload_n 3, 1) := by decide +kernel
theorem dX7_stroke_26 : decode cX7_stroke 26 = .ok (.i2l, 1) := by decide +kernel
theorem dX7_stroke_27 : decode cX7_stroke 27 = .ok (.iload 4, 2) := by decide +kernel
theorem dX7_stroke_29 : decode cX7_stroke 29 = .ok (.i2l, 1) := by decide +kernel
theorem dX7_stroke_30 : decode cX7_stroke 30 = .ok (.lmul, 1) := by decide +kernel
theorem dX7_stroke_31 : decode cX7_stroke 31 = .ok (.ladd, 1) := by decide +kernel
theorem dX7_stroke_32 : decode cX7_stroke 32 = .ok (.lstore 5, 2) := by decide +kernel
theorem dX7_stroke_34 : decode cX7_stroke 34 = .ok (.lload 5, 2) := by decide +kernel
theorem dX7_stroke_36 : decode cX7_stroke 36 = .ok (.lconst 0, 1) := by decide +kernel
theorem dX7_stroke_37 : decode cX7_stroke 37 = .ok (.lcmp, 1) := by decide +kernel
theorem dX7_stroke_38 : decode cX7_stroke 38 = .ok (.ifCond .lt 11, 3) := by decide +kernel
theorem dX7_stroke_41 : decode cX7_stroke 41 = .ok (.lload 5, 2) := by decide +kernel
theorem dX7_stroke_43 : decode cX7_stroke 43 = .ok (.iload_n 1, 1) := by decide +kernel
theorem dX7_stroke_44 : decode cX7_stroke 44 = .ok (.i2l, 1) := by decide +kernel
theorem dX7_stroke_45 : decode cX7_stroke 45 = .ok (.lcmp, 1) := by decide +kernel
theorem dX7_stroke_46 : decode cX7_stroke 46 = .ok (.ifCond .le 5, 3) := by decide +kernel
theorem dX7_stroke_49 : decode cX7_stroke 49 = .ok (.iconst (-1), 1) := by decide +kernel
theorem dX7_stroke_50 : decode cX7_stroke 50 = .ok (.ireturn, 1) := by decide +kernel
theorem dX7_stroke_51 : decode cX7_stroke 51 = .ok (.iinc 4 1, 3) := by decide +kernel
theorem dX7_stroke_54 : decode cX7_stroke 54 = .ok (.goto (-38), 3) := by decide +kernel
theorem dX7_stroke_57 : decode cX7_stroke 57 = .ok (.aload_n 0, 1) := by decide +kernel
theorem dX7_stroke_58 : decode cX7_stroke 58 = .ok (.getfield 129, 3) := by decide +kernel
theorem dX7_stroke_61 : decode cX7_stroke 61 = .ok (.bipush 30, 2) := by decide +kernel
theorem dX7_stroke_63 : decode cX7_stroke 63 = .ok (.if_icmp .ne 6, 3) := by decide +kernel
theorem dX7_stroke_66 : decode cX7_stroke 66 = .ok (.bipush (-2), 2) := by decide +kernel
theorem dX7_stroke_68 : decode cX7_stroke 68 = .ok (.ireturn, 1) := by decide +kernel
theorem dX7_stroke_69 : decode cX7_stroke 69 = .ok (.iconst 0, 1) := by decide +kernel
theorem dX7_stroke_70 : decode cX7_stroke 70 = .ok (.istore 4, 2) := by decide +kernel
theorem dX7_stroke_72 : decode cX7_stroke 72 = .ok (.iload 4, 2) := by decide +kernel
theorem dX7_stroke_74 : decode cX7_stroke 74 = .ok (.bipush 10, 2) := by decide +kernel
theorem dX7_stroke_76 : decode cX7_stroke 76 = .ok (.if_icmp .ge 63, 3) := by decide +kernel
theorem dX7_stroke_79 : decode cX7_stroke 79 = .ok (.aload_n 0, 1) := by decide +kernel
theorem dX7_stroke_80 : decode cX7_stroke 80 = .ok (.getfield 26, 3) := by decide +kernel
theorem dX7_stroke_83 : decode cX7_stroke 83 = .ok (.iload 4, 2) := by decide +kernel
theorem dX7_stroke_85 : decode cX7_stroke 85 = .ok (.baload, 1) := by decide +kernel
theorem dX7_stroke_86 : decode cX7_stroke 86 = .ok (.ifCond .ne 47, 3) := by decide +kernel
theorem dX7_stroke_89 : decode cX7_stroke 89 = .ok (.aload_n 0, 1) := by decide +kernel
theorem dX7_stroke_90 : decode cX7_stroke 90 = .ok (.getfield 20, 3) := by decide +kernel
theorem dX7_stroke_93 : decode cX7_stroke 93 = .ok (.iload 4, 2) := by decide +kernel
theorem dX7_stroke_95 : decode cX7_stroke 95 = .ok (.dup2, 1) := by decide +kernel
theorem dX7_stroke_96 : decode cX7_stroke 96 = .ok (.iaload, 1) := by decide +kernel
theorem dX7_stroke_97 : decode cX7_stroke 97 = .ok (.iload_n 1, 1) := by decide +kernel
theorem dX7_stroke_98 : decode cX7_stroke 98 = .ok (.iadd, 1) := by decide +kernel
theorem dX7_stroke_99 : decode cX7_stroke 99 = .ok (.iastore, 1) := by decide +kernel
theorem dX7_stroke_100 : decode cX7_stroke 100 = .ok (.aload_n 0, 1) := by decide +kernel
theorem dX7_stroke_101 : decode cX7_stroke 101 = .ok (.getfield 23, 3) := by decide +kernel
theorem dX7_stroke_104 : decode cX7_stroke 104 = .ok (.iload 4, 2) := by decide +kernel
theorem dX7_stroke_106 : decode cX7_stroke 106 = .ok (.dup2, 1) := by decide +kernel
theorem dX7_stroke_107 : decode cX7_stroke 107 = .ok (.iaload, 1) := by decide +kernel
theorem dX7_stroke_108 : decode cX7_stroke 108 = .ok (.iload_n 2, 1) := by decide +kernel
theorem dX7_stroke_109 : decode cX7_stroke 109 = .ok (.iload_n 3, 1) := by decide +kernel
theorem dX7_stroke_110 : decode cX7_stroke 110 = .ok (.aload_n 0, 1) := by decide +kernel
theorem dX7_stroke_111 : decode cX7_stroke 111 = .ok (.getfield 129, 3) := by decide +kernel
theorem dX7_stroke_114 : decode cX7_stroke 114 = .ok (.iconst 2, 1) := by decide +kernel
theorem dX7_stroke_115 : decode cX7_stroke 115 = .ok (.irem, 1) := by decide +kernel
theorem dX7_stroke_116 : decode cX7_stroke 116 = .ok (.ifCond .ne 8, 3) := by decide +kernel
theorem dX7_stroke_119 : decode cX7_stroke 119 = .ok (.iload 4, 2) := by decide +kernel
theorem dX7_stroke_121 : decode cX7_stroke 121 = .ok (.goto 8, 3) := by decide +kernel
theorem dX7_stroke_124 : decode cX7_stroke 124 = .ok (.bipush 9, 2) := by decide +kernel
theorem dX7_stroke_126 : decode cX7_stroke 126 = .ok (.iload 4, 2) := by decide +kernel
theorem dX7_stroke_128 : decode cX7_stroke 128 = .ok (.isub, 1) := by decide +kernel
theorem dX7_stroke_129 : decode cX7_stroke 129 = .ok (.imul, 1) := by decide +kernel
theorem dX7_stroke_130 : decode cX7_stroke 130 = .ok (.iadd, 1) := by decide +kernel
theorem dX7_stroke_131 : decode cX7_stroke 131 = .ok (.iadd, 1) := by decide +kernel
theorem dX7_stroke_132 : decode cX7_stroke 132 = .ok (.iastore, 1) := by decide +kernel
theorem dX7_stroke_133 : decode cX7_stroke 133 = .ok (.iinc 4 1, 3) := by decide +kernel
theorem dX7_stroke_136 : decode cX7_stroke 136 = .ok (.goto (-64), 3) := by decide +kernel
theorem dX7_stroke_139 : decode cX7_stroke 139 = .ok (.aload_n 0, 1) := by decide +kernel
theorem dX7_stroke_140 : decode cX7_stroke 140 = .ok (.getfield 17, 3) := by decide +kernel
theorem dX7_stroke_143 : decode cX7_stroke 143 = .ok (.aload_n 0, 1) := by decide +kernel
theorem dX7_stroke_144 : decode cX7_stroke 144 = .ok (.getfield 129, 3) := by decide +kernel
theorem dX7_stroke_147 : decode cX7_stroke 147 = .ok (.iload_n 3, 1) := by decide +kernel
theorem dX7_stroke_148 : decode cX7_stroke 148 = .ok (.iastore, 1) := by decide +kernel
theorem dX7_stroke_149 : decode cX7_stroke 149 = .ok (.aload_n 0, 1) := by decide +kernel
theorem dX7_stroke_150 : decode cX7_stroke 150 = .ok (.dup, 1) := by decide +kernel
theorem dX7_stroke_151 : decode cX7_stroke 151 = .ok (.getfield 129, 3) := by decide +kernel
theorem dX7_stroke_154 : decode cX7_stroke 154 = .ok (.iconst 1, 1) := by decide +kernel
theorem dX7_stroke_155 : decode cX7_stroke 155 = .ok (.iadd, 1) := by decide +kernel
theorem dX7_stroke_156 : decode cX7_stroke 156 = .ok (.putfield 129, 3) := by decide +kernel
theorem dX7_stroke_159 : decode cX7_stroke 159 = .ok (.aload_n 0, 1) := by decide +kernel
theorem dX7_stroke_160 : decode cX7_stroke 160 = .ok (.getfield 129, 3) := by decide +kernel
theorem dX7_stroke_163 : decode cX7_stroke 163 = .ok (.ireturn, 1) := by decide +kernel
theorem dX7_cut_0 : decode cX7_cut 0 = .ok (.iload_n 1, 1) := by decide +kernel
theorem dX7_cut_1 : decode cX7_cut 1 = .ok (.iconst 0, 1) := by decide +kernel
theorem dX7_cut_2 : decode cX7_cut 2 = .ok (.bipush 9, 2) := by decide +kernel
theorem dX7_cut_4 : decode cX7_cut 4 = .ok (.invokestatic 125, 3) := by decide +kernel
theorem dX7_cut_7 : decode cX7_cut 7 = .ok (.ifCond .ne 5, 3) := by decide +kernel
theorem dX7_cut_10 : decode cX7_cut 10 = .ok (.iconst (-1), 1) := by decide +kernel
theorem dX7_cut_11 : decode cX7_cut 11 = .ok (.ireturn, 1) := by decide +kernel
theorem dX7_cut_12 : decode cX7_cut 12 = .ok (.aload_n 0, 1) := by decide +kernel
theorem dX7_cut_13 : decode cX7_cut 13 = .ok (.getfield 26, 3) := by decide +kernel
theorem dX7_cut_16 : decode cX7_cut 16 = .ok (.iload_n 1, 1) := by decide +kernel
theorem dX7_cut_17 : decode cX7_cut 17 = .ok (.baload, 1) := by decide +kernel
theorem dX7_cut_18 : decode cX7_cut 18 = .ok (.ifCond .eq 6, 3) := by decide +kernel
theorem dX7_cut_21 : decode cX7_cut 21 = .ok (.bipush (-4), 2) := by decide +kernel
theorem dX7_cut_23 : decode cX7_cut 23 = .ok (.ireturn, 1) := by decide +kernel
theorem dX7_cut_24 : decode cX7_cut 24 = .ok (.aload_n 0, 1) := by decide +kernel
theorem dX7_cut_25 : decode cX7_cut 25 = .ok (.getfield 20, 3) := by decide +kernel
theorem dX7_cut_28 : decode cX7_cut 28 = .ok (.iload_n 1, 1) := by decide +kernel
theorem dX7_cut_29 : decode cX7_cut 29 = .ok (.iaload, 1) := by decide +kernel
theorem dX7_cut_30 : decode cX7_cut 30 = .ok (.istore_n 2, 1) := by decide +kernel
theorem dX7_cut_31 : decode cX7_cut 31 = .ok (.aload_n 0, 1) := by decide +kernel
theorem dX7_cut_32 : decode cX7_cut 32 = .ok (.aload_n 0, 1) := by decide +kernel
theorem dX7_cut_33 : decode cX7_cut 33 = .ok (.getfield 23, 3) := by decide +kernel
theorem dX7_cut_36 : decode cX7_cut 36 = .ok (.iload_n 1, 1) := by decide +kernel
theorem dX7_cut_37 : decode cX7_cut 37 = .ok (.iaload, 1) := by decide +kernel
theorem dX7_cut_38 : decode cX7_cut 38 = .ok (.i2l, 1) := by decide +kernel
theorem dX7_cut_39 : decode cX7_cut 39 = .ok (.putfield 122, 3) := by decide +kernel
theorem dX7_cut_42 : decode cX7_cut 42 = .ok (.aload_n 0, 1) := by decide +kernel
theorem dX7_cut_43 : decode cX7_cut 43 = .ok (.getfield 26, 3) := by decide +kernel
theorem dX7_cut_46 : decode cX7_cut 46 = .ok (.iload_n 1, 1) := by decide +kernel
theorem dX7_cut_47 : decode cX7_cut 47 = .ok (.iconst 1, 1) := by decide +kernel
theorem dX7_cut_48 : decode cX7_cut 48 = .ok (.bastore, 1) := by decide +kernel
theorem dX7_cut_49 : decode cX7_cut 49 = .ok (.aload_n 0, 1) := by decide +kernel
theorem dX7_cut_50 : decode cX7_cut 50 = .ok (.getfield 20, 3) := by decide +kernel
theorem dX7_cut_53 : decode cX7_cut 53 = .ok (.iload_n 1, 1) := by decide +kernel
theorem dX7_cut_54 : decode cX7_cut 54 = .ok (.iconst 0, 1) := by decide +kernel
theorem dX7_cut_55 : decode cX7_cut 55 = .ok (.iastore, 1) := by decide +kernel
theorem dX7_cut_56 : decode cX7_cut 56 = .ok (.aload_n 0, 1) := by decide +kernel
theorem dX7_cut_57 : decode cX7_cut 57 = .ok (.getfield 23, 3) := by decide +kernel
theorem dX7_cut_60 : decode cX7_cut 60 = .ok (.iload_n 1, 1) := by decide +kernel
theorem dX7_cut_61 : decode cX7_cut 61 = .ok (.iconst 0, 1) := by decide +kernel
theorem dX7_cut_62 : decode cX7_cut 62 = .ok (.iastore, 1) := by decide +kernel
theorem dX7_cut_63 : decode cX7_cut 63 = .ok (.iload_n 2, 1) := by decide +kernel
theorem dX7_cut_64 : decode cX7_cut 64 = .ok (.ireturn, 1) := by decide +kernel
theorem dX7_place_0 : decode cX7_place 0 = .ok (.iload_n 1, 1) := by decide +kernel
theorem dX7_place_1 : decode cX7_place 1 = .ok (.iconst 0, 1) := by decide +kernel
theorem dX7_place_2 : decode cX7_place 2 = .ok (.bipush 9, 2) := by decide +kernel
theorem dX7_place_4 : decode cX7_place 4 = .ok (.invokestatic 125, 3) := by decide +kernel
theorem dX7_place_7 : decode cX7_place 7 = .ok (.ifCond .eq 12, 3) := by decide +kernel
theorem dX7_place_10 : decode cX7_place 10 = .ok (.iload_n 2, 1) := by decide +kernel
theorem dX7_place_11 : decode cX7_place 11 = .ok (.iconst 0, 1) := by decide +kernel
theorem dX7_place_12 : decode cX7_place 12 = .ok (.iconst 1, 1) := by decide +kernel
theorem dX7_place_13 : decode cX7_place 13 = .ok (.invokestatic 125, 3) := by decide +kernel
theorem dX7_place_16 : decode cX7_place 16 = .ok (.ifCond .ne 7, 3) := by decide +kernel
theorem dX7_place_19 : decode cX7_place 19 = .ok (.iconst (-1), 1) := by decide +kernel
theorem dX7_place_20 : decode cX7_place 20 = .ok (.goto 22, 3) := by decide +kernel
theorem dX7_place_23 : decode cX7_place 23 = .ok (.iload_n 2, 1) := by decide +kernel
theorem dX7_place_24 : decode cX7_place 24 = .ok (.ifCond .ne 12, 3) := by decide +kernel
theorem dX7_place_27 : decode cX7_place 27 = .ok (.aload_n 0, 1) := by decide +kernel
theorem dX7_place_28 : decode cX7_place 28 = .ok (.getfield 20, 3) := by decide +kernel
theorem dX7_place_31 : decode cX7_place 31 = .ok (.iload_n 1, 1) := by decide +kernel
theorem dX7_place_32 : decode cX7_place 32 = .ok (.iaload, 1) := by decide +kernel
theorem dX7_place_33 : decode cX7_place 33 = .ok (.goto 9, 3) := by decide +kernel
theorem dX7_place_36 : decode cX7_place 36 = .ok (.aload_n 0, 1) := by decide +kernel
theorem dX7_place_37 : decode cX7_place 37 = .ok (.getfield 23, 3) := by decide +kernel
theorem dX7_place_40 : decode cX7_place 40 = .ok (.iload_n 1, 1) := by decide +kernel
theorem dX7_place_41 : decode cX7_place 41 = .ok (.iaload, 1) := by decide +kernel
theorem dX7_place_42 : decode cX7_place 42 = .ok (.ireturn, 1) := by decide +kernel
theorem dX7_spread_0 : decode cX7_spread 0 = .ok (.bipush (-9), 2) := by decide +kernel
theorem dX7_spread_2 : decode cX7_spread 2 = .ok (.istore_n 1, 1) := by decide +kernel
theorem dX7_spread_3 : decode cX7_spread 3 = .ok (.bipush (-9), 2) := by decide +kernel
theorem dX7_spread_5 : decode cX7_spread 5 = .ok (.istore_n 2, 1) := by decide +kernel
theorem dX7_spread_6 : decode cX7_spread 6 = .ok (.iconst 0, 1) := by decide +kernel
theorem dX7_spread_7 : decode cX7_spread 7 = .ok (.istore_n 3, 1) := by decide +kernel
theorem dX7_spread_8 : decode cX7_spread 8 = .ok (.iload_n 3, 1) := by decide +kernel
theorem dX7_spread_9 : decode cX7_spread 9 = .ok (.bipush 10, 2) := by decide +kernel
theorem dX7_spread_11 : decode cX7_spread 11 = .ok (.if_icmp .ge 64, 3) := by decide +kernel
theorem dX7_spread_14 : decode cX7_spread 14 = .ok (.aload_n 0, 1) := by decide +kernel
theorem dX7_spread_15 : decode cX7_spread 15 = .ok (.getfield 26, 3) := by decide +kernel
theorem dX7_spread_18 : decode cX7_spread 18 = .ok (.iload_n 3, 1) := by decide +kernel
theorem dX7_spread_19 : decode cX7_spread 19 = .ok (.baload, 1) := by decide +kernel
theorem dX7_spread_20 : decode cX7_spread 20 = .ok (.ifCond .ne 49, 3) := by decide +kernel
theorem dX7_spread_23 : decode cX7_spread 23 = .ok (.iload_n 1, 1) := by decide +kernel
theorem dX7_spread_24 : decode cX7_spread 24 = .ok (.ifCond .lt 13, 3) := by decide +kernel
theorem dX7_spread_27 : decode cX7_spread 27 = .ok (.aload_n 0, 1) := by decide +kernel
theorem dX7_spread_28 : decode cX7_spread 28 = .ok (.getfield 23, 3) := by decide +kernel
theorem dX7_spread_31 : decode cX7_spread 31 = .ok (.iload_n 3, 1) := by decide +kernel
theorem dX7_spread_32 : decode cX7_spread 32 = .ok (.iaload, 1) := by decide +kernel
theorem dX7_spread_33 : decode cX7_spread 33 = .ok (.iload_n 1, 1) := by decide +kernel
theorem dX7_spread_34 : decode cX7_spread 34 = .ok (.if_icmp .ge 12, 3) := by decide +kernel
theorem dX7_spread_37 : decode cX7_spread 37 = .ok (.aload_n 0, 1) := by decide +kernel
theorem dX7_spread_38 : decode cX7_spread 38 = .ok (.getfield 23, 3) := by decide +kernel
theorem dX7_spread_41 : decode cX7_spread 41 = .ok (.iload_n 3, 1) := by decide +kernel
theorem dX7_spread_42 : decode cX7_spread 42 = .ok (.iaload, 1) := by decide +kernel
theorem dX7_spread_43 : decode cX7_spread 43 = .ok (.goto 4, 3) := by decide +kernel
theorem dX7_spread_46 : decode cX7_spread 46 = .ok (.iload_n 1, 1) := by decide +kernel
theorem dX7_spread_47 : decode cX7_spread 47 = .ok (.istore_n 1, 1) := by decide +kernel
theorem dX7_spread_48 : decode cX7_spread 48 = .ok (.aload_n 0, 1) := by decide +kernel
theorem dX7_spread_49 : decode cX7_spread 49 = .ok (.getfield 23, 3) := by decide +kernel
theorem dX7_spread_52 : decode cX7_spread 52 = .ok (.iload_n 3, 1) := by decide +kernel
theorem dX7_spread_53 : decode cX7_spread 53 = .ok (.iaload, 1) := by decide +kernel
theorem dX7_spread_54 : decode cX7_spread 54 = .ok (.iload_n 2, 1) := by decide +kernel
theorem dX7_spread_55 : decode cX7_spread 55 = .ok (.if_icmp .le 12, 3) := by decide +kernel
theorem dX7_spread_58 : decode cX7_spread 58 = .ok (.aload_n 0, 1) := by decide +kernel
theorem dX7_spread_59 : decode cX7_spread 59 = .ok (.getfield 23, 3) := by decide +kernel
theorem dX7_spread_62 : decode cX7_spread 62 = .ok (.iload_n 3, 1) := by decide +kernel
theorem dX7_spread_63 : decode cX7_spread 63 = .ok (.iaload, 1) := by decide +kernel
theorem dX7_spread_64 : decode cX7_spread 64 = .ok (.goto 4, 3) := by decide +kernel
theorem dX7_spread_67 : decode cX7_spread 67 = .ok (.iload_n 2, 1) := by decide +kernel
theorem dX7_spread_68 : decode cX7_spread 68 = .ok (.istore_n 2, 1) := by decide +kernel
theorem dX7_spread_69 : decode cX7_spread 69 = .ok (.iinc 3 1, 3) := by decide +kernel
theorem dX7_spread_72 : decode cX7_spread 72 = .ok (.goto (-64), 3) := by decide +kernel
theorem dX7_spread_75 : decode cX7_spread 75 = .ok (.iload_n 1, 1) := by decide +kernel
theorem dX7_spread_76 : decode cX7_spread 76 = .ok (.ifCond .ge 8, 3) := by decide +kernel
theorem dX7_spread_79 : decode cX7_spread 79 = .ok (.bipush (-9), 2) := by decide +kernel
theorem dX7_spread_81 : decode cX7_spread 81 = .ok (.goto 6, 3) := by decide +kernel
theorem dX7_spread_84 : decode cX7_spread 84 = .ok (.iload_n 2, 1) := by decide +kernel
theorem dX7_spread_85 : decode cX7_spread 85 = .ok (.iload_n 1, 1) := by decide +kernel
theorem dX7_spread_86 : decode cX7_spread 86 = .ok (.isub, 1) := by decide +kernel
theorem dX7_spread_87 : decode cX7_spread 87 = .ok (.ireturn, 1) := by decide +kernel
theorem dX7_strokeSpread_0 : decode cX7_strokeSpread 0 = .ok (.iload_n 1, 1) := by decide +kernel
theorem dX7_strokeSpread_1 : decode cX7_strokeSpread 1 = .ok (.iconst 0, 1) := by decide +kernel
theorem dX7_strokeSpread_2 : decode cX7_strokeSpread 2 = .ok (.aload_n 0, 1) := by decide +kernel
theorem dX7_strokeSpread_3 : decode cX7_strokeSpread 3 = .ok (.getfield 129, 3) := by decide +kernel
theorem dX7_strokeSpread_6 : decode cX7_strokeSpread 6 = .ok (.iconst 1, 1) := by decide +kernel
theorem dX7_strokeSpread_7 : decode cX7_strokeSpread 7 = .ok (.isub, 1) := by decide +kernel
theorem dX7_strokeSpread_8 : decode cX7_strokeSpread 8 = .ok (.invokestatic 125, 3) := by decide +kernel
theorem dX7_strokeSpread_11 : decode cX7_strokeSpread 11 = .ok (.ifCond .ne 7, 3) := by decide +kernel
theorem dX7_strokeSpread_14 : decode cX7_strokeSpread 14 = .ok (.iconst (-1), 1) := by decide +kernel
theorem dX7_strokeSpread_15 : decode cX7_strokeSpread 15 = .ok (.goto 31, 3) := by decide +kernel
theorem dX7_strokeSpread_18 : decode cX7_strokeSpread 18 = .ok (.bipush 9, 2) := by decide +kernel
theorem dX7_strokeSpread_20 : decode cX7_strokeSpread 20 = .ok (.aload_n 0, 1) := by decide +kernel
theorem dX7_strokeSpread_21 : decode cX7_strokeSpread 21 = .ok (.getfield 17, 3) := by decide +kernel
theorem dX7_strokeSpread_24 : decode cX7_strokeSpread 24 = .ok (.iload_n 1, 1) := by decide +kernel
theorem dX7_strokeSpread_25 : decode cX7_strokeSpread 25 = .ok (.iaload, 1) := by decide +kernel
theorem dX7_strokeSpread_26 : decode cX7_strokeSpread 26 = .ok (.ifCond .ge 13, 3) := by decide +kernel
theorem dX7_strokeSpread_29 : decode cX7_strokeSpread 29 = .ok (.aload_n 0, 1) := by decide +kernel
theorem dX7_strokeSpread_30 : decode cX7_strokeSpread 30 = .ok (.getfield 17, 3) := by decide +kernel
theorem dX7_strokeSpread_33 : decode cX7_strokeSpread 33 = .ok (.iload_n 1, 1) := by decide +kernel
theorem dX7_strokeSpread_34 : decode cX7_strokeSpread 34 = .ok (.iaload, 1) := by decide +kernel
theorem dX7_strokeSpread_35 : decode cX7_strokeSpread 35 = .ok (.ineg, 1) := by decide +kernel
theorem dX7_strokeSpread_36 : decode cX7_strokeSpread 36 = .ok (.goto 9, 3) := by decide +kernel
theorem dX7_strokeSpread_39 : decode cX7_strokeSpread 39 = .ok (.aload_n 0, 1) := by decide +kernel
theorem dX7_strokeSpread_40 : decode cX7_strokeSpread 40 = .ok (.getfield 17, 3) := by decide +kernel
theorem dX7_strokeSpread_43 : decode cX7_strokeSpread 43 = .ok (.iload_n 1, 1) := by decide +kernel
theorem dX7_strokeSpread_44 : decode cX7_strokeSpread 44 = .ok (.iaload, 1) := by decide +kernel
theorem dX7_strokeSpread_45 : decode cX7_strokeSpread 45 = .ok (.imul, 1) := by decide +kernel
theorem dX7_strokeSpread_46 : decode cX7_strokeSpread 46 = .ok (.ireturn, 1) := by decide +kernel
theorem dX7_clear_0 : decode cX7_clear 0 = .ok (.aload_n 0, 1) := by decide +kernel
theorem dX7_clear_1 : decode cX7_clear 1 = .ok (.getfield 129, 3) := by decide +kernel
theorem dX7_clear_4 : decode cX7_clear 4 = .ok (.istore_n 1, 1) := by decide +kernel
theorem dX7_clear_5 : decode cX7_clear 5 = .ok (.aload_n 0, 1) := by decide +kernel
theorem dX7_clear_6 : decode cX7_clear 6 = .ok (.iconst 0, 1) := by decide +kernel
theorem dX7_clear_7 : decode cX7_clear 7 = .ok (.putfield 129, 3) := by decide +kernel
theorem dX7_clear_10 : decode cX7_clear 10 = .ok (.iconst 0, 1) := by decide +kernel
theorem dX7_clear_11 : decode cX7_clear 11 = .ok (.istore_n 2, 1) := by decide +kernel
theorem dX7_clear_12 : decode cX7_clear 12 = .ok (.iload_n 2, 1) := by decide +kernel
theorem dX7_clear_13 : decode cX7_clear 13 = .ok (.bipush 10, 2) := by decide +kernel
theorem dX7_clear_15 : decode cX7_clear 15 = .ok (.if_icmp .ge 30, 3) := by decide +kernel
theorem dX7_clear_18 : decode cX7_clear 18 = .ok (.aload_n 0, 1) := by decide +kernel
theorem dX7_clear_19 : decode cX7_clear 19 = .ok (.getfield 20, 3) := by decide +kernel
theorem dX7_clear_22 : decode cX7_clear 22 = .ok (.iload_n 2, 1) := by decide +kernel
theorem dX7_clear_23 : decode cX7_clear 23 = .ok (.iconst 0, 1) := by decide +kernel
theorem dX7_clear_24 : decode cX7_clear 24 = .ok (.iastore, 1) := by decide +kernel
theorem dX7_clear_25 : decode cX7_clear 25 = .ok (.aload_n 0, 1) := by decide +kernel
theorem dX7_clear_26 : decode cX7_clear 26 = .ok (.getfield 23, 3) := by decide +kernel
theorem dX7_clear_29 : decode cX7_clear 29 = .ok (.iload_n 2, 1) := by decide +kernel
theorem dX7_clear_30 : decode cX7_clear 30 = .ok (.iconst 0, 1) := by decide +kernel
theorem dX7_clear_31 : decode cX7_clear 31 = .ok (.iastore, 1) := by decide +kernel
theorem dX7_clear_32 : decode cX7_clear 32 = .ok (.aload_n 0, 1) := by decide +kernel
theorem dX7_clear_33 : decode cX7_clear 33 = .ok (.getfield 26, 3) := by decide +kernel
theorem dX7_clear_36 : decode cX7_clear 36 = .ok (.iload_n 2, 1) := by decide +kernel
theorem dX7_clear_37 : decode cX7_clear 37 = .ok (.iconst 0, 1) := by decide +kernel
theorem dX7_clear_38 : decode cX7_clear 38 = .ok (.bastore, 1) := by decide +kernel
theorem dX7_clear_39 : decode cX7_clear 39 = .ok (.iinc 2 1, 3) := by decide +kernel
theorem dX7_clear_42 : decode cX7_clear 42 = .ok (.goto (-30), 3) := by decide +kernel
theorem dX7_clear_45 : decode cX7_clear 45 = .ok (.iload_n 1, 1) := by decide +kernel
theorem dX7_clear_46 : decode cX7_clear 46 = .ok (.ireturn, 1) := by decide +kernel
theorem dX7_areParts_0 : decode cX7_areParts 0 = .ok (.iload_n 0, 1) := by decide +kernel
theorem dX7_areParts_1 : decode cX7_areParts 1 = .ok (.iconst 0, 1) := by decide +kernel
theorem dX7_areParts_2 : decode cX7_areParts 2 = .ok (.sipush 1000, 3) := by decide +kernel
theorem dX7_areParts_5 : decode cX7_areParts 5 = .ok (.invokestatic 125, 3) := by decide +kernel
theorem dX7_areParts_8 : decode cX7_areParts 8 = .ok (.ifCond .eq 40, 3) := by decide +kernel
theorem dX7_areParts_11 : decode cX7_areParts 11 = .ok (.iload_n 1, 1) := by decide +kernel
theorem dX7_areParts_12 : decode cX7_areParts 12 = .ok (.iconst 0, 1) := by decide +kernel
theorem dX7_areParts_13 : decode cX7_areParts 13 = .ok (.sipush 1000, 3) := by decide +kernel
theorem dX7_areParts_16 : decode cX7_areParts 16 = .ok (.invokestatic 125, 3) := by decide +kernel
theorem dX7_areParts_19 : decode cX7_areParts 19 = .ok (.ifCond .eq 29, 3) := by decide +kernel
theorem dX7_areParts_22 : decode cX7_areParts 22 = .ok (.iload_n 2, 1) := by decide +kernel
theorem dX7_areParts_23 : decode cX7_areParts 23 = .ok (.iconst 0, 1) := by decide +kernel
theorem dX7_areParts_24 : decode cX7_areParts 24 = .ok (.sipush 1000, 3) := by decide +kernel
theorem dX7_areParts_27 : decode cX7_areParts 27 = .ok (.invokestatic 125, 3) := by decide +kernel
theorem dX7_areParts_30 : decode cX7_areParts 30 = .ok (.ifCond .eq 18, 3) := by decide +kernel
theorem dX7_areParts_33 : decode cX7_areParts 33 = .ok (.iload_n 0, 1) := by decide +kernel
theorem dX7_areParts_34 : decode cX7_areParts 34 = .ok (.iload_n 1, 1) := by decide +kernel
theorem dX7_areParts_35 : decode cX7_areParts 35 = .ok (.iadd, 1) := by decide +kernel
theorem dX7_areParts_36 : decode cX7_areParts 36 = .ok (.iload_n 2, 1) := by decide +kernel
theorem dX7_areParts_37 : decode cX7_areParts 37 = .ok (.iadd, 1) := by decide +kernel
theorem dX7_areParts_38 : decode cX7_areParts 38 = .ok (.sipush 1000, 3) := by decide +kernel
theorem dX7_areParts_41 : decode cX7_areParts 41 = .ok (.if_icmp .gt 7, 3) := by decide +kernel
theorem dX7_areParts_44 : decode cX7_areParts 44 = .ok (.iconst 1, 1) := by decide +kernel
theorem dX7_areParts_45 : decode cX7_areParts 45 = .ok (.goto 4, 3) := by decide +kernel
theorem dX7_areParts_48 : decode cX7_areParts 48 = .ok (.iconst 0, 1) := by decide +kernel
theorem dX7_areParts_49 : decode cX7_areParts 49 = .ok (.ireturn, 1) := by decide +kernel
theorem dX7_stock_0 : decode cX7_stock 0 = .ok (.iload_n 1, 1) := by decide +kernel
theorem dX7_stock_1 : decode cX7_stock 1 = .ok (.iconst 0, 1) := by decide +kernel
theorem dX7_stock_2 : decode cX7_stock 2 = .ok (.iconst 3, 1) := by decide +kernel
theorem dX7_stock_3 : decode cX7_stock 3 = .ok (.invokestatic 125, 3) := by decide +kernel
theorem dX7_stock_6 : decode cX7_stock 6 = .ok (.ifCond .eq 13, 3) := by decide +kernel
theorem dX7_stock_9 : decode cX7_stock 9 = .ok (.iload_n 2, 1) := by decide +kernel
theorem dX7_stock_10 : decode cX7_stock 10 = .ok (.iload_n 3, 1) := by decide +kernel
theorem dX7_stock_11 : decode cX7_stock 11 = .ok (.iload 4, 2) := by decide +kernel
theorem dX7_stock_13 : decode cX7_stock 13 = .ok (.invokestatic 132, 3) := by decide +kernel
theorem dX7_stock_16 : decode cX7_stock 16 = .ok (.ifCond .ne 5, 3) := by decide +kernel
theorem dX7_stock_19 : decode cX7_stock 19 = .ok (.iconst (-1), 1) := by decide +kernel
theorem dX7_stock_20 : decode cX7_stock 20 = .ok (.ireturn, 1) := by decide +kernel
theorem dX7_stock_21 : decode cX7_stock 21 = .ok (.aload_n 0, 1) := by decide +kernel
theorem dX7_stock_22 : decode cX7_stock 22 = .ok (.getfield 30, 3) := by decide +kernel
theorem dX7_stock_25 : decode cX7_stock 25 = .ok (.iconst 4, 1) := by decide +kernel
theorem dX7_stock_26 : decode cX7_stock 26 = .ok (.iload_n 1, 1) := by decide +kernel
theorem dX7_stock_27 : decode cX7_stock 27 = .ok (.imul, 1) := by decide +kernel
theorem dX7_stock_28 : decode cX7_stock 28 = .ok (.iload_n 2, 1) := by decide +kernel
theorem dX7_stock_29 : decode cX7_stock 29 = .ok (.iastore, 1) := by decide +kernel
theorem dX7_stock_30 : decode cX7_stock 30 = .ok (.aload_n 0, 1) := by decide +kernel
theorem dX7_stock_31 : decode cX7_stock 31 = .ok (.getfield 30, 3) := by decide +kernel
theorem dX7_stock_34 : decode cX7_stock 34 = .ok (.iconst 4, 1) := by decide +kernel
theorem dX7_stock_35 : decode cX7_stock 35 = .ok (.iload_n 1, 1) := by decide +kernel
theorem dX7_stock_36 : decode cX7_stock 36 = .ok (.imul, 1) := by decide +kernel
theorem dX7_stock_37 : decode cX7_stock 37 = .ok (.iconst 1, 1) := by decide +kernel
theorem dX7_stock_38 : decode cX7_stock 38 = .ok (.iadd, 1) := by decide +kernel
theorem dX7_stock_39 : decode cX7_stock 39 = .ok (.iload_n 3, 1) := by decide +kernel
theorem dX7_stock_40 : decode cX7_stock 40 = .ok (.iastore, 1) := by decide +kernel
theorem dX7_stock_41 : decode cX7_stock 41 = .ok (.aload_n 0, 1) := by decide +kernel
theorem dX7_stock_42 : decode cX7_stock 42 = .ok (.getfield 30, 3) := by decide +kernel
theorem dX7_stock_45 : decode cX7_stock 45 = .ok (.iconst 4, 1) := by decide +kernel
theorem dX7_stock_46 : decode cX7_stock 46 = .ok (.iload_n 1, 1) := by decide +kernel
theorem dX7_stock_47 : decode cX7_stock 47 = .ok (.imul, 1) := by decide +kernel
theorem dX7_stock_48 : decode cX7_stock 48 = .ok (.iconst 2, 1) := by decide +kernel
theorem dX7_stock_49 : decode cX7_stock 49 = .ok (.iadd, 1) := by decide +kernel
theorem dX7_stock_50 : decode cX7_stock 50 = .ok (.iload 4, 2) := by decide +kernel
theorem dX7_stock_52 : decode cX7_stock 52 = .ok (.iastore, 1) := by decide +kernel
theorem dX7_stock_53 : decode cX7_stock 53 = .ok (.aload_n 0, 1) := by decide +kernel
theorem dX7_stock_54 : decode cX7_stock 54 = .ok (.getfield 30, 3) := by decide +kernel
theorem dX7_stock_57 : decode cX7_stock 57 = .ok (.iconst 4, 1) := by decide +kernel
theorem dX7_stock_58 : decode cX7_stock 58 = .ok (.iload_n 1, 1) := by decide +kernel
theorem dX7_stock_59 : decode cX7_stock 59 = .ok (.imul, 1) := by decide +kernel
theorem dX7_stock_60 : decode cX7_stock 60 = .ok (.iconst 3, 1) := by decide +kernel
theorem dX7_stock_61 : decode cX7_stock 61 = .ok (.iadd, 1) := by decide +kernel
theorem dX7_stock_62 : decode cX7_stock 62 = .ok (.sipush 1000, 3) := by decide +kernel
theorem dX7_stock_65 : decode cX7_stock 65 = .ok (.iload_n 2, 1) := by decide +kernel
theorem dX7_stock_66 : decode cX7_stock 66 = .ok (.isub, 1) := by decide +kernel
theorem dX7_stock_67 : decode cX7_stock 67 = .ok (.iload_n 3, 1) := by decide +kernel
theorem dX7_stock_68 : decode cX7_stock 68 = .ok (.isub, 1) := by decide +kernel
theorem dX7_stock_69 : decode cX7_stock 69 = .ok (.iload 4, 2) := by decide +kernel
theorem dX7_stock_71 : decode cX7_stock 71 = .ok (.isub, 1) := by decide +kernel
theorem dX7_stock_72 : decode cX7_stock 72 = .ok (.iastore, 1) := by decide +kernel
theorem dX7_stock_73 : decode cX7_stock 73 = .ok (.iconst 1, 1) := by decide +kernel
theorem dX7_stock_74 : decode cX7_stock 74 = .ok (.ireturn, 1) := by decide +kernel
theorem dX7_share_0 : decode cX7_share 0 = .ok (.iload_n 1, 1) := by decide +kernel
theorem dX7_share_1 : decode cX7_share 1 = .ok (.iload_n 2, 1) := by decide +kernel
theorem dX7_share_2 : decode cX7_share 2 = .ok (.iload_n 3, 1) := by decide +kernel
theorem dX7_share_3 : decode cX7_share 3 = .ok (.invokestatic 132, 3) := by decide +kernel
theorem dX7_share_6 : decode cX7_share 6 = .ok (.ifCond .ne 5, 3) := by decide +kernel
theorem dX7_share_9 : decode cX7_share 9 = .ok (.iconst (-1), 1) := by decide +kernel
theorem dX7_share_10 : decode cX7_share 10 = .ok (.ireturn, 1) := by decide +kernel
theorem dX7_share_11 : decode cX7_share 11 = .ok (.aload_n 0, 1) := by decide +kernel
theorem dX7_share_12 : decode cX7_share 12 = .ok (.getfield 33, 3) := by decide +kernel
theorem dX7_share_15 : decode cX7_share 15 = .ok (.iconst 0, 1) := by decide +kernel
theorem dX7_share_16 : decode cX7_share 16 = .ok (.iload_n 1, 1) := by decide +kernel
theorem dX7_share_17 : decode cX7_share 17 = .ok (.iastore, 1) := by decide +kernel
theorem dX7_share_18 : decode cX7_share 18 = .ok (.aload_n 0, 1) := by decide +kernel
theorem dX7_share_19 : decode cX7_share 19 = .ok (.getfield 33, 3) := by decide +kernel
theorem dX7_share_22 : decode cX7_share 22 = .ok (.iconst 1, 1) := by decide +kernel
theorem dX7_share_23 : decode cX7_share 23 = .ok (.iload_n 2, 1) := by decide +kernel
theorem dX7_share_24 : decode cX7_share 24 = .ok (.iastore, 1) := by decide +kernel
theorem dX7_share_25 : decode cX7_share 25 = .ok (.aload_n 0, 1) := by decide +kernel
theorem dX7_share_26 : decode cX7_share 26 = .ok (.getfield 33, 3) := by decide +kernel
theorem dX7_share_29 : decode cX7_share 29 = .ok (.iconst 2, 1) := by decide +kernel
theorem dX7_share_30 : decode cX7_share 30 = .ok (.iload_n 3, 1) := by decide +kernel
theorem dX7_share_31 : decode cX7_share 31 = .ok (.iastore, 1) := by decide +kernel
theorem dX7_share_32 : decode cX7_share 32 = .ok (.aload_n 0, 1) := by decide +kernel
theorem dX7_share_33 : decode cX7_share 33 = .ok (.getfield 33, 3) := by decide +kernel
theorem dX7_share_36 : decode cX7_share 36 = .ok (.iconst 3, 1) := by decide +kernel
theorem dX7_share_37 : decode cX7_share 37 = .ok (.sipush 1000, 3) := by decide +kernel
theorem dX7_share_40 : decode cX7_share 40 = .ok (.iload_n 1, 1) := by decide +kernel
theorem dX7_share_41 : decode cX7_share 41 = .ok (.isub, 1) := by decide +kernel
theorem dX7_share_42 : decode cX7_share 42 = .ok (.iload_n 2, 1) := by decide +kernel
theorem dX7_share_43 : decode cX7_share 43 = .ok (.isub, 1) := by decide +kernel
theorem dX7_share_44 : decode cX7_share 44 = .ok (.iload_n 3, 1) := by decide +kernel
theorem dX7_share_45 : decode cX7_share 45 = .ok (.isub, 1) := by decide +kernel
theorem dX7_share_46 : decode cX7_share 46 = .ok (.iastore, 1) := by decide +kernel
theorem dX7_share_47 : decode cX7_share 47 = .ok (.iconst 1, 1) := by decide +kernel
theorem dX7_share_48 : decode cX7_share 48 = .ok (.ireturn, 1) := by decide +kernel
theorem dX7_shareOf_0 : decode cX7_shareOf 0 = .ok (.iload_n 1, 1) := by decide +kernel
theorem dX7_shareOf_1 : decode cX7_shareOf 1 = .ok (.iconst 0, 1) := by decide +kernel
theorem dX7_shareOf_2 : decode cX7_shareOf 2 = .ok (.iconst 3, 1) := by decide +kernel
theorem dX7_shareOf_3 : decode cX7_shareOf 3 = .ok (.invokestatic 125, 3) := by decide +kernel
theorem dX7_shareOf_6 : decode cX7_shareOf 6 = .ok (.ifCond .eq 12, 3) := by decide +kernel
theorem dX7_shareOf_9 : decode cX7_shareOf 9 = .ok (.aload_n 0, 1) := by decide +kernel
theorem dX7_shareOf_10 : decode cX7_shareOf 10 = .ok (.getfield 33, 3) := by decide +kernel
theorem dX7_shareOf_13 : decode cX7_shareOf 13 = .ok (.iload_n 1, 1) := by decide +kernel
theorem dX7_shareOf_14 : decode cX7_shareOf 14 = .ok (.iaload, 1) := by decide +kernel
theorem dX7_shareOf_15 : decode cX7_shareOf 15 = .ok (.goto 4, 3) := by decide +kernel
theorem dX7_shareOf_18 : decode cX7_shareOf 18 = .ok (.iconst (-1), 1) := by decide +kernel
theorem dX7_shareOf_19 : decode cX7_shareOf 19 = .ok (.ireturn, 1) := by decide +kernel
theorem dX7_mixed_0 : decode cX7_mixed 0 = .ok (.iconst 0, 1) := by decide +kernel
theorem dX7_mixed_1 : decode cX7_mixed 1 = .ok (.istore_n 2, 1) := by decide +kernel
theorem dX7_mixed_2 : decode cX7_mixed 2 = .ok (.iconst 0, 1) := by decide +kernel
theorem dX7_mixed_3 : decode cX7_mixed 3 = .ok (.istore_n 3, 1) := by decide +kernel
theorem dX7_mixed_4 : decode cX7_mixed 4 = .ok (.iload_n 3, 1) := by decide +kernel
theorem dX7_mixed_5 : decode cX7_mixed 5 = .ok (.iconst 4, 1) := by decide +kernel
theorem dX7_mixed_6 : decode cX7_mixed 6 = .ok (.if_icmp .ge 29, 3) := by decide +kernel
theorem dX7_mixed_9 : decode cX7_mixed 9 = .ok (.iload_n 2, 1) := by decide +kernel
theorem dX7_mixed_10 : decode cX7_mixed 10 = .ok (.aload_n 0, 1) := by decide +kernel
theorem dX7_mixed_11 : decode cX7_mixed 11 = .ok (.getfield 33, 3) := by decide +kernel
theorem dX7_mixed_14 : decode cX7_mixed 14 = .ok (.iload_n 3, 1) := by decide +kernel
theorem dX7_mixed_15 : decode cX7_mixed 15 = .ok (.iaload, 1) := by decide +kernel
theorem dX7_mixed_16 : decode cX7_mixed 16 = .ok (.aload_n 0, 1) := by decide +kernel
theorem dX7_mixed_17 : decode cX7_mixed 17 = .ok (.getfield 30, 3) := by decide +kernel
theorem dX7_mixed_20 : decode cX7_mixed 20 = .ok (.iconst 4, 1) := by decide +kernel
theorem dX7_mixed_21 : decode cX7_mixed 21 = .ok (.iload_n 3, 1) := by decide +kernel
theorem dX7_mixed_22 : decode cX7_mixed 22 = .ok (.imul, 1) := by decide +kernel
theorem dX7_mixed_23 : decode cX7_mixed 23 = .ok (.iload_n 1, 1) := by decide +kernel
theorem dX7_mixed_24 : decode cX7_mixed 24 = .ok (.iadd, 1) := by decide +kernel
theorem dX7_mixed_25 : decode cX7_mixed 25 = .ok (.iaload, 1) := by decide +kernel
theorem dX7_mixed_26 : decode cX7_mixed 26 = .ok (.imul, 1) := by decide +kernel
theorem dX7_mixed_27 : decode cX7_mixed 27 = .ok (.iadd, 1) := by decide +kernel
theorem dX7_mixed_28 : decode cX7_mixed 28 = .ok (.istore_n 2, 1) := by decide +kernel
theorem dX7_mixed_29 : decode cX7_mixed 29 = .ok (.iinc 3 1, 3) := by decide +kernel
theorem dX7_mixed_32 : decode cX7_mixed 32 = .ok (.goto (-28), 3) := by decide +kernel
theorem dX7_mixed_35 : decode cX7_mixed 35 = .ok (.iload_n 2, 1) := by decide +kernel
theorem dX7_mixed_36 : decode cX7_mixed 36 = .ok (.ireturn, 1) := by decide +kernel
theorem dX7_mix_0 : decode cX7_mix 0 = .ok (.iload_n 1, 1) := by decide +kernel
theorem dX7_mix_1 : decode cX7_mix 1 = .ok (.iconst 0, 1) := by decide +kernel
theorem dX7_mix_2 : decode cX7_mix 2 = .ok (.iconst 3, 1) := by decide +kernel
theorem dX7_mix_3 : decode cX7_mix 3 = .ok (.invokestatic 125, 3) := by decide +kernel
theorem dX7_mix_6 : decode cX7_mix 6 = .ok (.ifCond .eq 11, 3) := by decide +kernel
theorem dX7_mix_9 : decode cX7_mix 9 = .ok (.aload_n 0, 1) := by decide +kernel
theorem dX7_mix_10 : decode cX7_mix 10 = .ok (.iload_n 1, 1) := by decide +kernel
theorem dX7_mix_11 : decode cX7_mix 11 = .ok (.invokevirtual 135, 3) := by decide +kernel
theorem dX7_mix_14 : decode cX7_mix 14 = .ok (.goto 4, 3) := by decide +kernel
theorem dX7_mix_17 : decode cX7_mix 17 = .ok (.iconst (-1), 1) := by decide +kernel
theorem dX7_mix_18 : decode cX7_mix 18 = .ok (.ireturn, 1) := by decide +kernel
theorem dX7_numberUpper_0 : decode cX7_numberUpper 0 = .ok (.ldc2_w 139, 3) := by decide +kernel
theorem dX7_numberUpper_3 : decode cX7_numberUpper 3 = .ok (.aload_n 0, 1) := by decide +kernel
theorem dX7_numberUpper_4 : decode cX7_numberUpper 4 = .ok (.iconst 0, 1) := by decide +kernel
theorem dX7_numberUpper_5 : decode cX7_numberUpper 5 = .ok (.invokevirtual 135, 3) := by decide +kernel
theorem dX7_numberUpper_8 : decode cX7_numberUpper 8 = .ok (.i2l, 1) := by decide +kernel
theorem dX7_numberUpper_9 : decode cX7_numberUpper 9 = .ok (.lmul, 1) := by decide +kernel
theorem dX7_numberUpper_10 : decode cX7_numberUpper 10 = .ok (.lreturn, 1) := by decide +kernel
theorem dX7_numberLower_0 : decode cX7_numberLower 0 = .ok (.ldc2_w 141, 3) := by decide +kernel
theorem dX7_numberLower_3 : decode cX7_numberLower 3 = .ok (.aload_n 0, 1) := by decide +kernel
theorem dX7_numberLower_4 : decode cX7_numberLower 4 = .ok (.iconst 1, 1) := by decide +kernel
theorem dX7_numberLower_5 : decode cX7_numberLower 5 = .ok (.invokevirtual 135, 3) := by decide +kernel
theorem dX7_numberLower_8 : decode cX7_numberLower 8 = .ok (.i2l, 1) := by decide +kernel
theorem dX7_numberLower_9 : decode cX7_numberLower 9 = .ok (.lmul, 1) := by decide +kernel
theorem dX7_numberLower_10 : decode cX7_numberLower 10 = .ok (.ldc2_w 143, 3) := by decide +kernel
theorem dX7_numberLower_13 : decode cX7_numberLower 13 = .ok (.aload_n 0, 1) := by decide +kernel
theorem dX7_numberLower_14 : decode cX7_numberLower 14 = .ok (.iconst 2, 1) := by decide +kernel
theorem dX7_numberLower_15 : decode cX7_numberLower 15 = .ok (.invokevirtual 135, 3) := by decide +kernel
theorem dX7_numberLower_18 : decode cX7_numberLower 18 = .ok (.i2l, 1) := by decide +kernel
theorem dX7_numberLower_19 : decode cX7_numberLower 19 = .ok (.lmul, 1) := by decide +kernel
theorem dX7_numberLower_20 : decode cX7_numberLower 20 = .ok (.ladd, 1) := by decide +kernel
theorem dX7_numberLower_21 : decode cX7_numberLower 21 = .ok (.ldc2_w 145, 3) := by decide +kernel
theorem dX7_numberLower_24 : decode cX7_numberLower 24 = .ok (.aload_n 0, 1) := by decide +kernel
theorem dX7_numberLower_25 : decode cX7_numberLower 25 = .ok (.iconst 3, 1) := by decide +kernel
theorem dX7_numberLower_26 : decode cX7_numberLower 26 = .ok (.invokevirtual 135, 3) := by decide +kernel
theorem dX7_numberLower_29 : decode cX7_numberLower 29 = .ok (.i2l, 1) := by decide +kernel
theorem dX7_numberLower_30 : decode cX7_numberLower 30 = .ok (.lmul, 1) := by decide +kernel
theorem dX7_numberLower_31 : decode cX7_numberLower 31 = .ok (.ladd, 1) := by decide +kernel
theorem dX7_numberLower_32 : decode cX7_numberLower 32 = .ok (.lreturn, 1) := by decide +kernel
theorem dX7_divisor_0 : decode cX7_divisor 0 = .ok (.lload_n 0, 1) := by decide +kernel
theorem dX7_divisor_1 : decode cX7_divisor 1 = .ok (.lstore 4, 2) := by decide +kernel
theorem dX7_divisor_3 : decode cX7_divisor 3 = .ok (.lload_n 2, 1) := by decide +kernel
theorem dX7_divisor_4 : decode cX7_divisor 4 = .ok (.lstore 6, 2) := by decide +kernel
theorem dX7_divisor_6 : decode cX7_divisor 6 = .ok (.lload 6, 2) := by decide +kernel
theorem dX7_divisor_8 : decode cX7_divisor 8 = .ok (.lconst 0, 1) := by decide +kernel
theorem dX7_divisor_9 : decode cX7_divisor 9 = .ok (.lcmp, 1) := by decide +kernel
theorem dX7_divisor_10 : decode cX7_divisor 10 = .ok (.ifCond .eq 21, 3) := by decide +kernel
theorem dX7_divisor_13 : decode cX7_divisor 13 = .ok (.lload 4, 2) := by decide +kernel
theorem dX7_divisor_15 : decode cX7_divisor 15 = .ok (.lload 6, 2) := by decide +kernel
theorem dX7_divisor_17 : decode cX7_divisor 17 = .ok (.lrem, 1) := by decide +kernel
theorem dX7_divisor_18 : decode cX7_divisor 18 = .ok (.lstore 8, 2) := by decide +kernel
theorem dX7_divisor_20 : decode cX7_divisor 20 = .ok (.lload 6, 2) := by decide +kernel
theorem dX7_divisor_22 : decode cX7_divisor 22 = .ok (.lstore 4, 2) := by decide +kernel
theorem dX7_divisor_24 : decode cX7_divisor 24 = .ok (.lload 8, 2) := by decide +kernel
theorem dX7_divisor_26 : decode cX7_divisor 26 = .ok (.lstore 6, 2) := by decide +kernel
theorem dX7_divisor_28 : decode cX7_divisor 28 = .ok (.goto (-22), 3) := by decide +kernel
theorem dX7_divisor_31 : decode cX7_divisor 31 = .ok (.lload 4, 2) := by decide +kernel
theorem dX7_divisor_33 : decode cX7_divisor 33 = .ok (.lreturn, 1) := by decide +kernel
theorem dX7_number_0 : decode cX7_number 0 = .ok (.aload_n 0, 1) := by decide +kernel
theorem dX7_number_1 : decode cX7_number 1 = .ok (.invokevirtual 147, 3) := by decide +kernel
theorem dX7_number_4 : decode cX7_number 4 = .ok (.lstore_n 1, 1) := by decide +kernel
theorem dX7_number_5 : decode cX7_number 5 = .ok (.lload_n 1, 1) := by decide +kernel
theorem dX7_number_6 : decode cX7_number 6 = .ok (.lconst 0, 1) := by decide +kernel
theorem dX7_number_7 : decode cX7_number 7 = .ok (.lcmp, 1) := by decide +kernel
theorem dX7_number_8 : decode cX7_number 8 = .ok (.ifCond .ne 9, 3) := by decide +kernel
theorem dX7_number_11 : decode cX7_number 11 = .ok (.aload_n 0, 1) := by decide +kernel
theorem dX7_number_12 : decode cX7_number 12 = .ok (.iconst 4, 1) := by decide +kernel
theorem dX7_number_13 : decode cX7_number 13 = .ok (.invokevirtual 151, 3) := by decide +kernel
theorem dX7_number_16 : decode cX7_number 16 = .ok (.ireturn, 1) := by decide +kernel
theorem dX7_number_17 : decode cX7_number 17 = .ok (.aload_n 0, 1) := by decide +kernel
theorem dX7_number_18 : decode cX7_number 18 = .ok (.invokevirtual 154, 3) := by decide +kernel
theorem dX7_number_21 : decode cX7_number 21 = .ok (.lload_n 1, 1) := by decide +kernel
theorem dX7_number_22 : decode cX7_number 22 = .ok (.invokestatic 157, 3) := by decide +kernel
theorem dX7_number_25 : decode cX7_number 25 = .ok (.lstore_n 3, 1) := by decide +kernel
theorem dX7_number_26 : decode cX7_number 26 = .ok (.aload_n 0, 1) := by decide +kernel
theorem dX7_number_27 : decode cX7_number 27 = .ok (.aload_n 0, 1) := by decide +kernel
theorem dX7_number_28 : decode cX7_number 28 = .ok (.invokevirtual 154, 3) := by decide +kernel
theorem dX7_number_31 : decode cX7_number 31 = .ok (.lload_n 3, 1) := by decide +kernel
theorem dX7_number_32 : decode cX7_number 32 = .ok (.ldiv, 1) := by decide +kernel
theorem dX7_number_33 : decode cX7_number 33 = .ok (.putfield 161, 3) := by decide +kernel
theorem dX7_number_36 : decode cX7_number 36 = .ok (.aload_n 0, 1) := by decide +kernel
theorem dX7_number_37 : decode cX7_number 37 = .ok (.lload_n 1, 1) := by decide +kernel
theorem dX7_number_38 : decode cX7_number 38 = .ok (.lload_n 3, 1) := by decide +kernel
theorem dX7_number_39 : decode cX7_number 39 = .ok (.ldiv, 1) := by decide +kernel
theorem dX7_number_40 : decode cX7_number 40 = .ok (.putfield 13, 3) := by decide +kernel
theorem dX7_number_43 : decode cX7_number 43 = .ok (.iconst 1, 1) := by decide +kernel
theorem dX7_number_44 : decode cX7_number 44 = .ok (.ireturn, 1) := by decide +kernel
theorem dX7_aim_0 : decode cX7_aim 0 = .ok (.iload_n 1, 1) := by decide +kernel
theorem dX7_aim_1 : decode cX7_aim 1 = .ok (.iconst 1, 1) := by decide +kernel
theorem dX7_aim_2 : decode cX7_aim 2 = .ok (.sipush 1000, 3) := by decide +kernel
theorem dX7_aim_5 : decode cX7_aim 5 = .ok (.invokestatic 125, 3) := by decide +kernel
theorem dX7_aim_8 : decode cX7_aim 8 = .ok (.ifCond .eq 14, 3) := by decide +kernel
theorem dX7_aim_11 : decode cX7_aim 11 = .ok (.iload_n 2, 1) := by decide +kernel
theorem dX7_aim_12 : decode cX7_aim 12 = .ok (.iconst 1, 1) := by decide +kernel
theorem dX7_aim_13 : decode cX7_aim 13 = .ok (.sipush 1000, 3) := by decide +kernel
theorem dX7_aim_16 : decode cX7_aim 16 = .ok (.invokestatic 125, 3) := by decide +kernel
theorem dX7_aim_19 : decode cX7_aim 19 = .ok (.ifCond .ne 5, 3) := by decide +kernel
theorem dX7_aim_22 : decode cX7_aim 22 = .ok (.iconst (-1), 1) := by decide +kernel
theorem dX7_aim_23 : decode cX7_aim 23 = .ok (.ireturn, 1) := by decide +kernel
theorem dX7_aim_24 : decode cX7_aim 24 = .ok (.aload_n 0, 1) := by decide +kernel
theorem dX7_aim_25 : decode cX7_aim 25 = .ok (.iload_n 1, 1) := by decide +kernel
theorem dX7_aim_26 : decode cX7_aim 26 = .ok (.putfield 36, 3) := by decide +kernel
theorem dX7_aim_29 : decode cX7_aim 29 = .ok (.aload_n 0, 1) := by decide +kernel
theorem dX7_aim_30 : decode cX7_aim 30 = .ok (.iload_n 2, 1) := by decide +kernel
theorem dX7_aim_31 : decode cX7_aim 31 = .ok (.putfield 40, 3) := by decide +kernel
theorem dX7_aim_34 : decode cX7_aim 34 = .ok (.iconst 1, 1) := by decide +kernel
theorem dX7_aim_35 : decode cX7_aim 35 = .ok (.ireturn, 1) := by decide +kernel
theorem dX7_rule_0 : decode cX7_rule 0 = .ok (.iload_n 1, 1) := by decide +kernel
theorem dX7_rule_1 : decode cX7_rule 1 = .ok (.iconst 0, 1) := by decide +kernel
theorem dX7_rule_2 : decode cX7_rule 2 = .ok (.iconst 5, 1) := by decide +kernel
theorem dX7_rule_3 : decode cX7_rule 3 = .ok (.invokestatic 125, 3) := by decide +kernel
theorem dX7_rule_6 : decode cX7_rule 6 = .ok (.ifCond .eq 13, 3) := by decide +kernel
theorem dX7_rule_9 : decode cX7_rule 9 = .ok (.iload_n 2, 1) := by decide +kernel
theorem dX7_rule_10 : decode cX7_rule 10 = .ok (.iconst 0, 1) := by decide +kernel
theorem dX7_rule_11 : decode cX7_rule 11 = .ok (.bipush 100, 2) := by decide +kernel
theorem dX7_rule_13 : decode cX7_rule 13 = .ok (.invokestatic 125, 3) := by decide +kernel
theorem dX7_rule_16 : decode cX7_rule 16 = .ok (.ifCond .ne 5, 3) := by decide +kernel
theorem dX7_rule_19 : decode cX7_rule 19 = .ok (.iconst (-1), 1) := by decide +kernel
theorem dX7_rule_20 : decode cX7_rule 20 = .ok (.ireturn, 1) := by decide +kernel
theorem dX7_rule_21 : decode cX7_rule 21 = .ok (.aload_n 0, 1) := by decide +kernel
theorem dX7_rule_22 : decode cX7_rule 22 = .ok (.iload_n 1, 1) := by decide +kernel
theorem dX7_rule_23 : decode cX7_rule 23 = .ok (.putfield 43, 3) := by decide +kernel
theorem dX7_rule_26 : decode cX7_rule 26 = .ok (.aload_n 0, 1) := by decide +kernel
theorem dX7_rule_27 : decode cX7_rule 27 = .ok (.iload_n 2, 1) := by decide +kernel
theorem dX7_rule_28 : decode cX7_rule 28 = .ok (.putfield 46, 3) := by decide +kernel
theorem dX7_rule_31 : decode cX7_rule 31 = .ok (.iconst 1, 1) := by decide +kernel
theorem dX7_rule_32 : decode cX7_rule 32 = .ok (.ireturn, 1) := by decide +kernel
theorem dX7_hour_0 : decode cX7_hour 0 = .ok (.aload_n 0, 1) := by decide +kernel
theorem dX7_hour_1 : decode cX7_hour 1 = .ok (.getfield 164, 3) := by decide +kernel
theorem dX7_hour_4 : decode cX7_hour 4 = .ok (.sipush 200, 3) := by decide +kernel
theorem dX7_hour_7 : decode cX7_hour 7 = .ok (.if_icmp .ne 6, 3) := by decide +kernel
theorem dX7_hour_10 : decode cX7_hour 10 = .ok (.bipush (-2), 2) := by decide +kernel
theorem dX7_hour_12 : decode cX7_hour 12 = .ok (.ireturn, 1) := by decide +kernel
theorem dX7_hour_13 : decode cX7_hour 13 = .ok (.aload_n 0, 1) := by decide +kernel
theorem dX7_hour_14 : decode cX7_hour 14 = .ok (.getfield 164, 3) := by decide +kernel
theorem dX7_hour_17 : decode cX7_hour 17 = .ok (.istore_n 2, 1) := by decide +kernel
theorem dX7_hour_18 : decode cX7_hour 18 = .ok (.aload_n 0, 1) := by decide +kernel
theorem dX7_hour_19 : decode cX7_hour 19 = .ok (.getfield 49, 3) := by decide +kernel
theorem dX7_hour_22 : decode cX7_hour 22 = .ok (.iload_n 2, 1) := by decide +kernel
theorem dX7_hour_23 : decode cX7_hour 23 = .ok (.iload_n 1, 1) := by decide +kernel
theorem dX7_hour_24 : decode cX7_hour 24 = .ok (.ifCond .eq 8, 3) := by decide +kernel
theorem dX7_hour_27 : decode cX7_hour 27 = .ok (.ldc 167, 2) := by decide +kernel
theorem dX7_hour_29 : decode cX7_hour 29 = .ok (.goto 9, 3) := by decide +kernel
theorem dX7_hour_32 : decode cX7_hour 32 = .ok (.iload_n 2, 1) := by decide +kernel
theorem dX7_hour_33 : decode cX7_hour 33 = .ok (.aload_n 0, 1) := by decide +kernel
theorem dX7_hour_34 : decode cX7_hour 34 = .ok (.getfield 43, 3) := by decide +kernel
theorem dX7_hour_37 : decode cX7_hour 37 = .ok (.iadd, 1) := by decide +kernel
theorem dX7_hour_38 : decode cX7_hour 38 = .ok (.iastore, 1) := by decide +kernel
theorem dX7_hour_39 : decode cX7_hour 39 = .ok (.aload_n 0, 1) := by decide +kernel
theorem dX7_hour_40 : decode cX7_hour 40 = .ok (.getfield 52, 3) := by decide +kernel
theorem dX7_hour_43 : decode cX7_hour 43 = .ok (.iload_n 2, 1) := by decide +kernel
theorem dX7_hour_44 : decode cX7_hour 44 = .ok (.aload_n 0, 1) := by decide +kernel
theorem dX7_hour_45 : decode cX7_hour 45 = .ok (.invokevirtual 154, 3) := by decide +kernel
theorem dX7_hour_48 : decode cX7_hour 48 = .ok (.lastore, 1) := by decide +kernel
theorem dX7_hour_49 : decode cX7_hour 49 = .ok (.aload_n 0, 1) := by decide +kernel
theorem dX7_hour_50 : decode cX7_hour 50 = .ok (.getfield 56, 3) := by decide +kernel
theorem dX7_hour_53 : decode cX7_hour 53 = .ok (.iload_n 2, 1) := by decide +kernel
theorem dX7_hour_54 : decode cX7_hour 54 = .ok (.aload_n 0, 1) := by decide +kernel
theorem dX7_hour_55 : decode cX7_hour 55 = .ok (.invokevirtual 147, 3) := by decide +kernel
theorem dX7_hour_58 : decode cX7_hour 58 = .ok (.lastore, 1) := by decide +kernel
theorem dX7_hour_59 : decode cX7_hour 59 = .ok (.aload_n 0, 1) := by decide +kernel
theorem dX7_hour_60 : decode cX7_hour 60 = .ok (.getfield 59, 3) := by decide +kernel
theorem dX7_hour_63 : decode cX7_hour 63 = .ok (.iload_n 2, 1) := by decide +kernel
theorem dX7_hour_64 : decode cX7_hour 64 = .ok (.iconst 0, 1) := by decide +kernel
theorem dX7_hour_65 : decode cX7_hour 65 = .ok (.iastore, 1) := by decide +kernel
theorem dX7_hour_66 : decode cX7_hour 66 = .ok (.aload_n 0, 1) := by decide +kernel
theorem dX7_hour_67 : decode cX7_hour 67 = .ok (.dup, 1) := by decide +kernel
theorem dX7_hour_68 : decode cX7_hour 68 = .ok (.getfield 164, 3) := by decide +kernel
theorem dX7_hour_71 : decode cX7_hour 71 = .ok (.iconst 1, 1) := by decide +kernel
theorem dX7_hour_72 : decode cX7_hour 72 = .ok (.iadd, 1) := by decide +kernel
theorem dX7_hour_73 : decode cX7_hour 73 = .ok (.putfield 164, 3) := by decide +kernel
theorem dX7_hour_76 : decode cX7_hour 76 = .ok (.aload_n 0, 1) := by decide +kernel
theorem dX7_hour_77 : decode cX7_hour 77 = .ok (.bipush (-9), 2) := by decide +kernel
theorem dX7_hour_79 : decode cX7_hour 79 = .ok (.putfield 62, 3) := by decide +kernel
theorem dX7_hour_82 : decode cX7_hour 82 = .ok (.iload_n 2, 1) := by decide +kernel
theorem dX7_hour_83 : decode cX7_hour 83 = .ok (.istore_n 3, 1) := by decide +kernel
theorem dX7_hour_84 : decode cX7_hour 84 = .ok (.iload_n 3, 1) := by decide +kernel
theorem dX7_hour_85 : decode cX7_hour 85 = .ok (.ifCond .lt 65, 3) := by decide +kernel
theorem dX7_hour_88 : decode cX7_hour 88 = .ok (.aload_n 0, 1) := by decide +kernel
theorem dX7_hour_89 : decode cX7_hour 89 = .ok (.getfield 49, 3) := by decide +kernel
theorem dX7_hour_92 : decode cX7_hour 92 = .ok (.iload_n 3, 1) := by decide +kernel
theorem dX7_hour_93 : decode cX7_hour 93 = .ok (.iaload, 1) := by decide +kernel
theorem dX7_hour_94 : decode cX7_hour 94 = .ok (.iload_n 2, 1) := by decide +kernel
theorem dX7_hour_95 : decode cX7_hour 95 = .ok (.if_icmp .gt 49, 3) := by decide +kernel
theorem dX7_hour_98 : decode cX7_hour 98 = .ok (.aload_n 0, 1) := by decide +kernel
theorem dX7_hour_99 : decode cX7_hour 99 = .ok (.getfield 59, 3) := by decide +kernel
theorem dX7_hour_102 : decode cX7_hour 102 = .ok (.iload_n 3, 1) := by decide +kernel
theorem dX7_hour_103 : decode cX7_hour 103 = .ok (.iaload, 1) := by decide +kernel
theorem dX7_hour_104 : decode cX7_hour 104 = .ok (.ifCond .ne 40, 3) := by decide +kernel
theorem dX7_hour_107 : decode cX7_hour 107 = .ok (.aload_n 0, 1) := by decide +kernel
theorem dX7_hour_108 : decode cX7_hour 108 = .ok (.getfield 59, 3) := by decide +kernel
theorem dX7_hour_111 : decode cX7_hour 111 = .ok (.iload_n 3, 1) := by decide +kernel
theorem dX7_hour_112 : decode cX7_hour 112 = .ok (.aload_n 0, 1) := by decide +kernel
theorem dX7_hour_113 : decode cX7_hour 113 = .ok (.getfield 62, 3) := by decide +kernel
theorem dX7_hour_116 : decode cX7_hour 116 = .ok (.ifCond .ge 7, 3) := by decide +kernel
theorem dX7_hour_119 : decode cX7_hour 119 = .ok (.iconst 1, 1) := by decide +kernel
theorem dX7_hour_120 : decode cX7_hour 120 = .ok (.goto 4, 3) := by decide +kernel
theorem dX7_hour_123 : decode cX7_hour 123 = .ok (.iconst 2, 1) := by decide +kernel
theorem dX7_hour_124 : decode cX7_hour 124 = .ok (.iastore, 1) := by decide +kernel
theorem dX7_hour_125 : decode cX7_hour 125 = .ok (.aload_n 0, 1) := by decide +kernel
theorem dX7_hour_126 : decode cX7_hour 126 = .ok (.aload_n 0, 1) := by decide +kernel
theorem dX7_hour_127 : decode cX7_hour 127 = .ok (.getfield 62, 3) := by decide +kernel
theorem dX7_hour_130 : decode cX7_hour 130 = .ok (.ifCond .ge 7, 3) := by decide +kernel
theorem dX7_hour_133 : decode cX7_hour 133 = .ok (.iload_n 3, 1) := by decide +kernel
theorem dX7_hour_134 : decode cX7_hour 134 = .ok (.goto 7, 3) := by decide +kernel
theorem dX7_hour_137 : decode cX7_hour 137 = .ok (.aload_n 0, 1) := by decide +kernel
theorem dX7_hour_138 : decode cX7_hour 138 = .ok (.getfield 62, 3) := by decide +kernel
theorem dX7_hour_141 : decode cX7_hour 141 = .ok (.putfield 62, 3) := by decide +kernel
theorem dX7_hour_144 : decode cX7_hour 144 = .ok (.iinc 3 (-1), 3) := by decide +kernel
theorem dX7_hour_147 : decode cX7_hour 147 = .ok (.goto (-63), 3) := by decide +kernel
theorem dX7_hour_150 : decode cX7_hour 150 = .ok (.aload_n 0, 1) := by decide +kernel
theorem dX7_hour_151 : decode cX7_hour 151 = .ok (.getfield 62, 3) := by decide +kernel
theorem dX7_hour_154 : decode cX7_hour 154 = .ok (.ifCond .ge 7, 3) := by decide +kernel
theorem dX7_hour_157 : decode cX7_hour 157 = .ok (.iconst 0, 1) := by decide +kernel
theorem dX7_hour_158 : decode cX7_hour 158 = .ok (.goto 25, 3) := by decide +kernel
theorem dX7_hour_161 : decode cX7_hour 161 = .ok (.aload_n 0, 1) := by decide +kernel
theorem dX7_hour_162 : decode cX7_hour 162 = .ok (.aload_n 0, 1) := by decide +kernel
theorem dX7_hour_163 : decode cX7_hour 163 = .ok (.getfield 52, 3) := by decide +kernel
theorem dX7_hour_166 : decode cX7_hour 166 = .ok (.aload_n 0, 1) := by decide +kernel
theorem dX7_hour_167 : decode cX7_hour 167 = .ok (.getfield 62, 3) := by decide +kernel
theorem dX7_hour_170 : decode cX7_hour 170 = .ok (.laload, 1) := by decide +kernel
theorem dX7_hour_171 : decode cX7_hour 171 = .ok (.aload_n 0, 1) := by decide +kernel
theorem dX7_hour_172 : decode cX7_hour 172 = .ok (.getfield 56, 3) := by decide +kernel
theorem dX7_hour_175 : decode cX7_hour 175 = .ok (.aload_n 0, 1) := by decide +kernel
theorem dX7_hour_176 : decode cX7_hour 176 = .ok (.getfield 62, 3) := by decide +kernel
theorem dX7_hour_179 : decode cX7_hour 179 = .ok (.laload, 1) := by decide +kernel
theorem dX7_hour_180 : decode cX7_hour 180 = .ok (.invokevirtual 168, 3) := by decide +kernel
theorem dX7_hour_183 : decode cX7_hour 183 = .ok (.ireturn, 1) := by decide +kernel
theorem dX7_steer_0 : decode cX7_steer 0 = .ok (.lload_n 3, 1) := by decide +kernel
theorem dX7_steer_1 : decode cX7_steer 1 = .ok (.lconst 0, 1) := by decide +kernel
theorem dX7_steer_2 : decode cX7_steer 2 = .ok (.lcmp, 1) := by decide +kernel
theorem dX7_steer_3 : decode cX7_steer 3 = .ok (.ifCond .eq 21, 3) := by decide +kernel
theorem dX7_steer_6 : decode cX7_steer 6 = .ok (.lload_n 1, 1) := by decide +kernel
theorem dX7_steer_7 : decode cX7_steer 7 = .ok (.aload_n 0, 1) := by decide +kernel
theorem dX7_steer_8 : decode cX7_steer 8 = .ok (.getfield 40, 3) := by decide +kernel
theorem dX7_steer_11 : decode cX7_steer 11 = .ok (.i2l, 1) := by decide +kernel
theorem dX7_steer_12 : decode cX7_steer 12 = .ok (.lmul, 1) := by decide +kernel
theorem dX7_steer_13 : decode cX7_steer 13 = .ok (.aload_n 0, 1) := by decide +kernel
theorem dX7_steer_14 : decode cX7_steer 14 = .ok (.getfield 36, 3) := by decide +kernel
theorem dX7_steer_17 : decode cX7_steer 17 = .ok (.i2l, 1) := by decide +kernel
theorem dX7_steer_18 : decode cX7_steer 18 = .ok (.lload_n 3, 1) := by decide +kernel
theorem dX7_steer_19 : decode cX7_steer 19 = .ok (.lmul, 1) := by decide +kernel
theorem dX7_steer_20 : decode cX7_steer 20 = .ok (.lcmp, 1) := by decide +kernel
theorem dX7_steer_21 : decode cX7_steer 21 = .ok (.ifCond .ne 5, 3) := by decide +kernel
theorem dX7_steer_24 : decode cX7_steer 24 = .ok (.iconst 1, 1) := by decide +kernel
theorem dX7_steer_25 : decode cX7_steer 25 = .ok (.ireturn, 1) := by decide +kernel
theorem dX7_steer_26 : decode cX7_steer 26 = .ok (.lload_n 1, 1) := by decide +kernel
theorem dX7_steer_27 : decode cX7_steer 27 = .ok (.aload_n 0, 1) := by decide +kernel
theorem dX7_steer_28 : decode cX7_steer 28 = .ok (.getfield 40, 3) := by decide +kernel
theorem dX7_steer_31 : decode cX7_steer 31 = .ok (.i2l, 1) := by decide +kernel
theorem dX7_steer_32 : decode cX7_steer 32 = .ok (.lmul, 1) := by decide +kernel
theorem dX7_steer_33 : decode cX7_steer 33 = .ok (.aload_n 0, 1) := by decide +kernel
theorem dX7_steer_34 : decode cX7_steer 34 = .ok (.getfield 36, 3) := by decide +kernel
theorem dX7_steer_37 : decode cX7_steer 37 = .ok (.i2l, 1) := by decide +kernel
theorem dX7_steer_38 : decode cX7_steer 38 = .ok (.lload_n 3, 1) := by decide +kernel
theorem dX7_steer_39 : decode cX7_steer 39 = .ok (.lmul, 1) := by decide +kernel
theorem dX7_steer_40 : decode cX7_steer 40 = .ok (.lcmp, 1) := by decide +kernel
theorem dX7_steer_41 : decode cX7_steer 41 = .ok (.ifCond .ge 7, 3) := by decide +kernel
theorem dX7_steer_44 : decode cX7_steer 44 = .ok (.iconst 1, 1) := by decide +kernel
theorem dX7_steer_45 : decode cX7_steer 45 = .ok (.goto 4, 3) := by decide +kernel
theorem dX7_steer_48 : decode cX7_steer 48 = .ok (.iconst 0, 1) := by decide +kernel
theorem dX7_steer_49 : decode cX7_steer 49 = .ok (.istore 5, 2) := by decide +kernel
theorem dX7_steer_51 : decode cX7_steer 51 = .ok (.iload 5, 2) := by decide +kernel
theorem dX7_steer_53 : decode cX7_steer 53 = .ok (.ifCond .eq 7, 3) := by decide +kernel
theorem dX7_steer_56 : decode cX7_steer 56 = .ok (.iconst 1, 1) := by decide +kernel
theorem dX7_steer_57 : decode cX7_steer 57 = .ok (.goto 4, 3) := by decide +kernel
theorem dX7_steer_60 : decode cX7_steer 60 = .ok (.iconst 0, 1) := by decide +kernel
theorem dX7_steer_61 : decode cX7_steer 61 = .ok (.istore 6, 2) := by decide +kernel
theorem dX7_steer_63 : decode cX7_steer 63 = .ok (.aload_n 0, 1) := by decide +kernel
theorem dX7_steer_64 : decode cX7_steer 64 = .ok (.getfield 33, 3) := by decide +kernel
theorem dX7_steer_67 : decode cX7_steer 67 = .ok (.iload 6, 2) := by decide +kernel
theorem dX7_steer_69 : decode cX7_steer 69 = .ok (.iaload, 1) := by decide +kernel
theorem dX7_steer_70 : decode cX7_steer 70 = .ok (.aload_n 0, 1) := by decide +kernel
theorem dX7_steer_71 : decode cX7_steer 71 = .ok (.getfield 46, 3) := by decide +kernel
theorem dX7_steer_74 : decode cX7_steer 74 = .ok (.if_icmp .ge 13, 3) := by decide +kernel
theorem dX7_steer_77 : decode cX7_steer 77 = .ok (.aload_n 0, 1) := by decide +kernel
theorem dX7_steer_78 : decode cX7_steer 78 = .ok (.getfield 33, 3) := by decide +kernel
theorem dX7_steer_81 : decode cX7_steer 81 = .ok (.iload 6, 2) := by decide +kernel
theorem dX7_steer_83 : decode cX7_steer 83 = .ok (.iaload, 1) := by decide +kernel
theorem dX7_steer_84 : decode cX7_steer 84 = .ok (.goto 7, 3) := by decide +kernel
theorem dX7_steer_87 : decode cX7_steer 87 = .ok (.aload_n 0, 1) := by decide +kernel
theorem dX7_steer_88 : decode cX7_steer 88 = .ok (.getfield 46, 3) := by decide +kernel
theorem dX7_steer_91 : decode cX7_steer 91 = .ok (.istore 7, 2) := by decide +kernel
theorem dX7_steer_93 : decode cX7_steer 93 = .ok (.aload_n 0, 1) := by decide +kernel
theorem dX7_steer_94 : decode cX7_steer 94 = .ok (.getfield 33, 3) := by decide +kernel
theorem dX7_steer_97 : decode cX7_steer 97 = .ok (.iload 6, 2) := by decide +kernel
theorem dX7_steer_99 : decode cX7_steer 99 = .ok (.dup2, 1) := by decide +kernel
theorem dX7_steer_100 : decode cX7_steer 100 = .ok (.iaload, 1) := by decide +kernel
theorem dX7_steer_101 : decode cX7_steer 101 = .ok (.iload 7, 2) := by decide +kernel
theorem dX7_steer_103 : decode cX7_steer 103 = .ok (.isub, 1) := by decide +kernel
theorem dX7_steer_104 : decode cX7_steer 104 = .ok (.iastore, 1) := by decide +kernel
theorem dX7_steer_105 : decode cX7_steer 105 = .ok (.aload_n 0, 1) := by decide +kernel
theorem dX7_steer_106 : decode cX7_steer 106 = .ok (.getfield 33, 3) := by decide +kernel
theorem dX7_steer_109 : decode cX7_steer 109 = .ok (.iconst 1, 1) := by decide +kernel
theorem dX7_steer_110 : decode cX7_steer 110 = .ok (.iload 6, 2) := by decide +kernel
theorem dX7_steer_112 : decode cX7_steer 112 = .ok (.isub, 1) := by decide +kernel
theorem dX7_steer_113 : decode cX7_steer 113 = .ok (.dup2, 1) := by decide +kernel
theorem dX7_steer_114 : decode cX7_steer 114 = .ok (.iaload, 1) := by decide +kernel
theorem dX7_steer_115 : decode cX7_steer 115 = .ok (.iload 7, 2) := by decide +kernel
theorem dX7_steer_117 : decode cX7_steer 117 = .ok (.iadd, 1) := by decide +kernel
theorem dX7_steer_118 : decode cX7_steer 118 = .ok (.iastore, 1) := by decide +kernel
theorem dX7_steer_119 : decode cX7_steer 119 = .ok (.iload 7, 2) := by decide +kernel
theorem dX7_steer_121 : decode cX7_steer 121 = .ok (.ifCond .ne 7, 3) := by decide +kernel
theorem dX7_steer_124 : decode cX7_steer 124 = .ok (.iconst 1, 1) := by decide +kernel
theorem dX7_steer_125 : decode cX7_steer 125 = .ok (.goto 13, 3) := by decide +kernel
theorem dX7_steer_128 : decode cX7_steer 128 = .ok (.iload 5, 2) := by decide +kernel
theorem dX7_steer_130 : decode cX7_steer 130 = .ok (.ifCond .eq 7, 3) := by decide +kernel
theorem dX7_steer_133 : decode cX7_steer 133 = .ok (.iconst 2, 1) := by decide +kernel
theorem dX7_steer_134 : decode cX7_steer 134 = .ok (.goto 4, 3) := by decide +kernel
theorem dX7_steer_137 : decode cX7_steer 137 = .ok (.iconst 3, 1) := by decide +kernel
theorem dX7_steer_138 : decode cX7_steer 138 = .ok (.ireturn, 1) := by decide +kernel
theorem dX7_read_0 : decode cX7_read 0 = .ok (.aload_n 0, 1) := by decide +kernel
theorem dX7_read_1 : decode cX7_read 1 = .ok (.getfield 62, 3) := by decide +kernel
theorem dX7_read_4 : decode cX7_read 4 = .ok (.ireturn, 1) := by decide +kernel
theorem dX7_passed_0 : decode cX7_passed 0 = .ok (.iconst 0, 1) := by decide +kernel
theorem dX7_passed_1 : decode cX7_passed 1 = .ok (.istore_n 1, 1) := by decide +kernel
theorem dX7_passed_2 : decode cX7_passed 2 = .ok (.iconst 0, 1) := by decide +kernel
theorem dX7_passed_3 : decode cX7_passed 3 = .ok (.istore_n 2, 1) := by decide +kernel
theorem dX7_passed_4 : decode cX7_passed 4 = .ok (.iload_n 2, 1) := by decide +kernel
theorem dX7_passed_5 : decode cX7_passed 5 = .ok (.aload_n 0, 1) := by decide +kernel
theorem dX7_passed_6 : decode cX7_passed 6 = .ok (.getfield 164, 3) := by decide +kernel
theorem dX7_passed_9 : decode cX7_passed 9 = .ok (.if_icmp .ge 27, 3) := by decide +kernel
theorem dX7_passed_12 : decode cX7_passed 12 = .ok (.iload_n 1, 1) := by decide +kernel
theorem dX7_passed_13 : decode cX7_passed 13 = .ok (.aload_n 0, 1) := by decide +kernel
theorem dX7_passed_14 : decode cX7_passed 14 = .ok (.getfield 59, 3) := by decide +kernel
theorem dX7_passed_17 : decode cX7_passed 17 = .ok (.iload_n 2, 1) := by decide +kernel
theorem dX7_passed_18 : decode cX7_passed 18 = .ok (.iaload, 1) := by decide +kernel
theorem dX7_passed_19 : decode cX7_passed 19 = .ok (.iconst 2, 1) := by decide +kernel
theorem dX7_passed_20 : decode cX7_passed 20 = .ok (.if_icmp .ne 7, 3) := by decide +kernel
theorem dX7_passed_23 : decode cX7_passed 23 = .ok (.iconst 1, 1) := by decide +kernel
theorem dX7_passed_24 : decode cX7_passed 24 = .ok (.goto 4, 3) := by decide +kernel
theorem dX7_passed_27 : decode cX7_passed 27 = .ok (.iconst 0, 1) := by decide +kernel
theorem dX7_passed_28 : decode cX7_passed 28 = .ok (.iadd, 1) := by decide +kernel
theorem dX7_passed_29 : decode cX7_passed 29 = .ok (.istore_n 1, 1) := by decide +kernel
theorem dX7_passed_30 : decode cX7_passed 30 = .ok (.iinc 2 1, 3) := by decide +kernel
theorem dX7_passed_33 : decode cX7_passed 33 = .ok (.goto (-29), 3) := by decide +kernel
theorem dX7_passed_36 : decode cX7_passed 36 = .ok (.iload_n 1, 1) := by decide +kernel
theorem dX7_passed_37 : decode cX7_passed 37 = .ok (.ireturn, 1) := by decide +kernel
theorem dX7_kindOf_0 : decode cX7_kindOf 0 = .ok (.iload_n 0, 1) := by decide +kernel
theorem dX7_kindOf_1 : decode cX7_kindOf 1 = .ok (.iconst 2, 1) := by decide +kernel
theorem dX7_kindOf_2 : decode cX7_kindOf 2 = .ok (.if_icmp .ge 7, 3) := by decide +kernel
theorem dX7_kindOf_5 : decode cX7_kindOf 5 = .ok (.iconst 0, 1) := by decide +kernel
theorem dX7_kindOf_6 : decode cX7_kindOf 6 = .ok (.goto 6, 3) := by decide +kernel
theorem dX7_kindOf_9 : decode cX7_kindOf 9 = .ok (.iload_n 0, 1) := by decide +kernel
theorem dX7_kindOf_10 : decode cX7_kindOf 10 = .ok (.iconst 1, 1) := by decide +kernel
theorem dX7_kindOf_11 : decode cX7_kindOf 11 = .ok (.isub, 1) := by decide +kernel
theorem dX7_kindOf_12 : decode cX7_kindOf 12 = .ok (.ireturn, 1) := by decide +kernel
theorem dX7_taken_0 : decode cX7_taken 0 = .ok (.iload_n 1, 1) := by decide +kernel
theorem dX7_taken_1 : decode cX7_taken 1 = .ok (.invokestatic 172, 3) := by decide +kernel
theorem dX7_taken_4 : decode cX7_taken 4 = .ok (.iconst 1, 1) := by decide +kernel
theorem dX7_taken_5 : decode cX7_taken 5 = .ok (.if_icmp .ne 9, 3) := by decide +kernel
theorem dX7_taken_8 : decode cX7_taken 8 = .ok (.iload_n 2, 1) := by decide +kernel
theorem dX7_taken_9 : decode cX7_taken 9 = .ok (.iconst 2, 1) := by decide +kernel
theorem dX7_taken_10 : decode cX7_taken 10 = .ok (.idiv, 1) := by decide +kernel
theorem dX7_taken_11 : decode cX7_taken 11 = .ok (.goto 6, 3) := by decide +kernel
theorem dX7_taken_14 : decode cX7_taken 14 = .ok (.iload_n 2, 1) := by decide +kernel
theorem dX7_taken_15 : decode cX7_taken 15 = .ok (.iconst 4, 1) := by decide +kernel
theorem dX7_taken_16 : decode cX7_taken 16 = .ok (.idiv, 1) := by decide +kernel
theorem dX7_taken_17 : decode cX7_taken 17 = .ok (.istore_n 3, 1) := by decide +kernel
theorem dX7_taken_18 : decode cX7_taken 18 = .ok (.aload_n 0, 1) := by decide +kernel
theorem dX7_taken_19 : decode cX7_taken 19 = .ok (.getfield 68, 3) := by decide +kernel
theorem dX7_taken_22 : decode cX7_taken 22 = .ok (.iload_n 1, 1) := by decide +kernel
theorem dX7_taken_23 : decode cX7_taken 23 = .ok (.dup2, 1) := by decide +kernel
theorem dX7_taken_24 : decode cX7_taken 24 = .ok (.iaload, 1) := by decide +kernel
theorem dX7_taken_25 : decode cX7_taken 25 = .ok (.iload_n 3, 1) := by decide +kernel
theorem dX7_taken_26 : decode cX7_taken 26 = .ok (.iadd, 1) := by decide +kernel
theorem dX7_taken_27 : decode cX7_taken 27 = .ok (.iastore, 1) := by decide +kernel
theorem dX7_taken_28 : decode cX7_taken 28 = .ok (.iload_n 2, 1) := by decide +kernel
theorem dX7_taken_29 : decode cX7_taken 29 = .ok (.iload_n 3, 1) := by decide +kernel
theorem dX7_taken_30 : decode cX7_taken 30 = .ok (.isub, 1) := by decide +kernel
theorem dX7_taken_31 : decode cX7_taken 31 = .ok (.ireturn, 1) := by decide +kernel
theorem dX7_handOn_0 : decode cX7_handOn 0 = .ok (.iconst 0, 1) := by decide +kernel
theorem dX7_handOn_1 : decode cX7_handOn 1 = .ok (.istore_n 3, 1) := by decide +kernel
theorem dX7_handOn_2 : decode cX7_handOn 2 = .ok (.iload_n 3, 1) := by decide +kernel
theorem dX7_handOn_3 : decode cX7_handOn 3 = .ok (.iconst 4, 1) := by decide +kernel
theorem dX7_handOn_4 : decode cX7_handOn 4 = .ok (.if_icmp .ge 73, 3) := by decide +kernel
theorem dX7_handOn_7 : decode cX7_handOn 7 = .ok (.aload_n 0, 1) := by decide +kernel
theorem dX7_handOn_8 : decode cX7_handOn 8 = .ok (.getfield 71, 3) := by decide +kernel
theorem dX7_handOn_11 : decode cX7_handOn 11 = .ok (.iload_n 3, 1) := by decide +kernel
theorem dX7_handOn_12 : decode cX7_handOn 12 = .ok (.aload_n 0, 1) := by decide +kernel
theorem dX7_handOn_13 : decode cX7_handOn 13 = .ok (.getfield 65, 3) := by decide +kernel
theorem dX7_handOn_16 : decode cX7_handOn 16 = .ok (.iload_n 3, 1) := by decide +kernel
theorem dX7_handOn_17 : decode cX7_handOn 17 = .ok (.iaload, 1) := by decide +kernel
theorem dX7_handOn_18 : decode cX7_handOn 18 = .ok (.i2l, 1) := by decide +kernel
theorem dX7_handOn_19 : decode cX7_handOn 19 = .ok (.iload_n 2, 1) := by decide +kernel
theorem dX7_handOn_20 : decode cX7_handOn 20 = .ok (.i2l, 1) := by decide +kernel
theorem dX7_handOn_21 : decode cX7_handOn 21 = .ok (.lmul, 1) := by decide +kernel
theorem dX7_handOn_22 : decode cX7_handOn 22 = .ok (.ldc2_w 175, 3) := by decide +kernel
theorem dX7_handOn_25 : decode cX7_handOn 25 = .ok (.ldiv, 1) := by decide +kernel
theorem dX7_handOn_26 : decode cX7_handOn 26 = .ok (.l2i, 1) := by decide +kernel
theorem dX7_handOn_27 : decode cX7_handOn 27 = .ok (.iastore, 1) := by decide +kernel
theorem dX7_handOn_28 : decode cX7_handOn 28 = .ok (.aload_n 0, 1) := by decide +kernel
theorem dX7_handOn_29 : decode cX7_handOn 29 = .ok (.getfield 74, 3) := by decide +kernel
theorem dX7_handOn_32 : decode cX7_handOn 32 = .ok (.iload_n 3, 1) := by decide +kernel
theorem dX7_handOn_33 : decode cX7_handOn 33 = .ok (.aload_n 0, 1) := by decide +kernel
theorem dX7_handOn_34 : decode cX7_handOn 34 = .ok (.getfield 65, 3) := by decide +kernel
theorem dX7_handOn_37 : decode cX7_handOn 37 = .ok (.iload_n 3, 1) := by decide +kernel
theorem dX7_handOn_38 : decode cX7_handOn 38 = .ok (.iaload, 1) := by decide +kernel
theorem dX7_handOn_39 : decode cX7_handOn 39 = .ok (.ifCond .ne 7, 3) := by decide +kernel
theorem dX7_handOn_42 : decode cX7_handOn 42 = .ok (.iconst 0, 1) := by decide +kernel
theorem dX7_handOn_43 : decode cX7_handOn 43 = .ok (.goto 27, 3) := by decide +kernel
theorem dX7_handOn_46 : decode cX7_handOn 46 = .ok (.aload_n 0, 1) := by decide +kernel
theorem dX7_handOn_47 : decode cX7_handOn 47 = .ok (.getfield 68, 3) := by decide +kernel
theorem dX7_handOn_50 : decode cX7_handOn 50 = .ok (.iload_n 3, 1) := by decide +kernel
theorem dX7_handOn_51 : decode cX7_handOn 51 = .ok (.iaload, 1) := by decide +kernel
theorem dX7_handOn_52 : decode cX7_handOn 52 = .ok (.i2l, 1) := by decide +kernel
theorem dX7_handOn_53 : decode cX7_handOn 53 = .ok (.aload_n 0, 1) := by decide +kernel
theorem dX7_handOn_54 : decode cX7_handOn 54 = .ok (.getfield 71, 3) := by decide +kernel
theorem dX7_handOn_57 : decode cX7_handOn 57 = .ok (.iload_n 3, 1) := by decide +kernel
theorem dX7_handOn_58 : decode cX7_handOn 58 = .ok (.iaload, 1) := by decide +kernel
theorem dX7_handOn_59 : decode cX7_handOn 59 = .ok (.i2l, 1) := by decide +kernel
theorem dX7_handOn_60 : decode cX7_handOn 60 = .ok (.lmul, 1) := by decide +kernel
theorem dX7_handOn_61 : decode cX7_handOn 61 = .ok (.aload_n 0, 1) := by decide +kernel
theorem dX7_handOn_62 : decode cX7_handOn 62 = .ok (.getfield 65, 3) := by decide +kernel
theorem dX7_handOn_65 : decode cX7_handOn 65 = .ok (.iload_n 3, 1) := by decide +kernel
theorem dX7_handOn_66 : decode cX7_handOn 66 = .ok (.iaload, 1) := by decide +kernel
theorem dX7_handOn_67 : decode cX7_handOn 67 = .ok (.i2l, 1) := by decide +kernel
theorem dX7_handOn_68 : decode cX7_handOn 68 = .ok (.ldiv, 1) := by decide +kernel
theorem dX7_handOn_69 : decode cX7_handOn 69 = .ok (.l2i, 1) := by decide +kernel
theorem dX7_handOn_70 : decode cX7_handOn 70 = .ok (.iastore, 1) := by decide +kernel
theorem dX7_handOn_71 : decode cX7_handOn 71 = .ok (.iinc 3 1, 3) := by decide +kernel
theorem dX7_handOn_74 : decode cX7_handOn 74 = .ok (.goto (-72), 3) := by decide +kernel
theorem dX7_handOn_77 : decode cX7_handOn 77 = .ok (.aload_n 0, 1) := by decide +kernel
theorem dX7_handOn_78 : decode cX7_handOn 78 = .ok (.getfield 65, 3) := by decide +kernel
theorem dX7_handOn_81 : decode cX7_handOn 81 = .ok (.iconst 4, 1) := by decide +kernel
theorem dX7_handOn_82 : decode cX7_handOn 82 = .ok (.iconst 0, 1) := by decide +kernel
theorem dX7_handOn_83 : decode cX7_handOn 83 = .ok (.iastore, 1) := by decide +kernel
theorem dX7_handOn_84 : decode cX7_handOn 84 = .ok (.aload_n 0, 1) := by decide +kernel
theorem dX7_handOn_85 : decode cX7_handOn 85 = .ok (.getfield 68, 3) := by decide +kernel
theorem dX7_handOn_88 : decode cX7_handOn 88 = .ok (.iconst 4, 1) := by decide +kernel
theorem dX7_handOn_89 : decode cX7_handOn 89 = .ok (.iconst 0, 1) := by decide +kernel
theorem dX7_handOn_90 : decode cX7_handOn 90 = .ok (.iastore, 1) := by decide +kernel
theorem dX7_handOn_91 : decode cX7_handOn 91 = .ok (.iconst 0, 1) := by decide +kernel
theorem dX7_handOn_92 : decode cX7_handOn 92 = .ok (.istore_n 3, 1) := by decide +kernel
theorem dX7_handOn_93 : decode cX7_handOn 93 = .ok (.iload_n 3, 1) := by decide +kernel
theorem dX7_handOn_94 : decode cX7_handOn 94 = .ok (.iconst 4, 1) := by decide +kernel
theorem dX7_handOn_95 : decode cX7_handOn 95 = .ok (.if_icmp .ge 73, 3) := by decide +kernel
theorem dX7_handOn_98 : decode cX7_handOn 98 = .ok (.aload_n 0, 1) := by decide +kernel
theorem dX7_handOn_99 : decode cX7_handOn 99 = .ok (.getfield 65, 3) := by decide +kernel
theorem dX7_handOn_102 : decode cX7_handOn 102 = .ok (.iload_n 3, 1) := by decide +kernel
theorem dX7_handOn_103 : decode cX7_handOn 103 = .ok (.dup2, 1) := by decide +kernel
theorem dX7_handOn_104 : decode cX7_handOn 104 = .ok (.iaload, 1) := by decide +kernel
theorem dX7_handOn_105 : decode cX7_handOn 105 = .ok (.aload_n 0, 1) := by decide +kernel
theorem dX7_handOn_106 : decode cX7_handOn 106 = .ok (.getfield 71, 3) := by decide +kernel
theorem dX7_handOn_109 : decode cX7_handOn 109 = .ok (.iload_n 3, 1) := by decide +kernel
theorem dX7_handOn_110 : decode cX7_handOn 110 = .ok (.iaload, 1) := by decide +kernel
theorem dX7_handOn_111 : decode cX7_handOn 111 = .ok (.isub, 1) := by decide +kernel
theorem dX7_handOn_112 : decode cX7_handOn 112 = .ok (.iastore, 1) := by decide +kernel
theorem dX7_handOn_113 : decode cX7_handOn 113 = .ok (.aload_n 0, 1) := by decide +kernel
theorem dX7_handOn_114 : decode cX7_handOn 114 = .ok (.getfield 68, 3) := by decide +kernel
theorem dX7_handOn_117 : decode cX7_handOn 117 = .ok (.iload_n 3, 1) := by decide +kernel
theorem dX7_handOn_118 : decode cX7_handOn 118 = .ok (.dup2, 1) := by decide +kernel
theorem dX7_handOn_119 : decode cX7_handOn 119 = .ok (.iaload, 1) := by decide +kernel
theorem dX7_handOn_120 : decode cX7_handOn 120 = .ok (.aload_n 0, 1) := by decide +kernel
theorem dX7_handOn_121 : decode cX7_handOn 121 = .ok (.getfield 74, 3) := by decide +kernel
theorem dX7_handOn_124 : decode cX7_handOn 124 = .ok (.iload_n 3, 1) := by decide +kernel
theorem dX7_handOn_125 : decode cX7_handOn 125 = .ok (.iaload, 1) := by decide +kernel
theorem dX7_handOn_126 : decode cX7_handOn 126 = .ok (.isub, 1) := by decide +kernel
theorem dX7_handOn_127 : decode cX7_handOn 127 = .ok (.iastore, 1) := by decide +kernel
theorem dX7_handOn_128 : decode cX7_handOn 128 = .ok (.aload_n 0, 1) := by decide +kernel
theorem dX7_handOn_129 : decode cX7_handOn 129 = .ok (.getfield 65, 3) := by decide +kernel
theorem dX7_handOn_132 : decode cX7_handOn 132 = .ok (.iload_n 3, 1) := by decide +kernel
theorem dX7_handOn_133 : decode cX7_handOn 133 = .ok (.iconst 1, 1) := by decide +kernel
theorem dX7_handOn_134 : decode cX7_handOn 134 = .ok (.iadd, 1) := by decide +kernel
theorem dX7_handOn_135 : decode cX7_handOn 135 = .ok (.dup2, 1) := by decide +kernel
theorem dX7_handOn_136 : decode cX7_handOn 136 = .ok (.iaload, 1) := by decide +kernel
theorem dX7_handOn_137 : decode cX7_handOn 137 = .ok (.aload_n 0, 1) := by decide +kernel
theorem dX7_handOn_138 : decode cX7_handOn 138 = .ok (.getfield 71, 3) := by decide +kernel
theorem dX7_handOn_141 : decode cX7_handOn 141 = .ok (.iload_n 3, 1) := by decide +kernel
theorem dX7_handOn_142 : decode cX7_handOn 142 = .ok (.iaload, 1) := by decide +kernel
theorem dX7_handOn_143 : decode cX7_handOn 143 = .ok (.iadd, 1) := by decide +kernel
theorem dX7_handOn_144 : decode cX7_handOn 144 = .ok (.iastore, 1) := by decide +kernel
theorem dX7_handOn_145 : decode cX7_handOn 145 = .ok (.aload_n 0, 1) := by decide +kernel
theorem dX7_handOn_146 : decode cX7_handOn 146 = .ok (.getfield 68, 3) := by decide +kernel
theorem dX7_handOn_149 : decode cX7_handOn 149 = .ok (.iload_n 3, 1) := by decide +kernel
theorem dX7_handOn_150 : decode cX7_handOn 150 = .ok (.iconst 1, 1) := by decide +kernel
theorem dX7_handOn_151 : decode cX7_handOn 151 = .ok (.iadd, 1) := by decide +kernel
theorem dX7_handOn_152 : decode cX7_handOn 152 = .ok (.dup2, 1) := by decide +kernel
theorem dX7_handOn_153 : decode cX7_handOn 153 = .ok (.iaload, 1) := by decide +kernel
theorem dX7_handOn_154 : decode cX7_handOn 154 = .ok (.aload_n 0, 1) := by decide +kernel
theorem dX7_handOn_155 : decode cX7_handOn 155 = .ok (.getfield 74, 3) := by decide +kernel
theorem dX7_handOn_158 : decode cX7_handOn 158 = .ok (.iload_n 3, 1) := by decide +kernel
theorem dX7_handOn_159 : decode cX7_handOn 159 = .ok (.iaload, 1) := by decide +kernel
theorem dX7_handOn_160 : decode cX7_handOn 160 = .ok (.iadd, 1) := by decide +kernel
theorem dX7_handOn_161 : decode cX7_handOn 161 = .ok (.iastore, 1) := by decide +kernel
theorem dX7_handOn_162 : decode cX7_handOn 162 = .ok (.iinc 3 1, 3) := by decide +kernel
theorem dX7_handOn_165 : decode cX7_handOn 165 = .ok (.goto (-72), 3) := by decide +kernel
theorem dX7_handOn_168 : decode cX7_handOn 168 = .ok (.aload_n 0, 1) := by decide +kernel
theorem dX7_handOn_169 : decode cX7_handOn 169 = .ok (.getfield 65, 3) := by decide +kernel
theorem dX7_handOn_172 : decode cX7_handOn 172 = .ok (.iconst 0, 1) := by decide +kernel
theorem dX7_handOn_173 : decode cX7_handOn 173 = .ok (.dup2, 1) := by decide +kernel
theorem dX7_handOn_174 : decode cX7_handOn 174 = .ok (.iaload, 1) := by decide +kernel
theorem dX7_handOn_175 : decode cX7_handOn 175 = .ok (.iload_n 1, 1) := by decide +kernel
theorem dX7_handOn_176 : decode cX7_handOn 176 = .ok (.iadd, 1) := by decide +kernel
theorem dX7_handOn_177 : decode cX7_handOn 177 = .ok (.iastore, 1) := by decide +kernel
theorem dX7_handOn_178 : decode cX7_handOn 178 = .ok (.return_, 1) := by decide +kernel
theorem dX7_causeOf_0 : decode cX7_causeOf 0 = .ok (.iconst 0, 1) := by decide +kernel
theorem dX7_causeOf_1 : decode cX7_causeOf 1 = .ok (.istore_n 2, 1) := by decide +kernel
theorem dX7_causeOf_2 : decode cX7_causeOf 2 = .ok (.iload_n 2, 1) := by decide +kernel
theorem dX7_causeOf_3 : decode cX7_causeOf 3 = .ok (.iconst 4, 1) := by decide +kernel
theorem dX7_causeOf_4 : decode cX7_causeOf 4 = .ok (.if_icmp .ge 45, 3) := by decide +kernel
theorem dX7_causeOf_7 : decode cX7_causeOf 7 = .ok (.aload_n 0, 1) := by decide +kernel
theorem dX7_causeOf_8 : decode cX7_causeOf 8 = .ok (.getfield 65, 3) := by decide +kernel
theorem dX7_causeOf_11 : decode cX7_causeOf 11 = .ok (.iload_n 2, 1) := by decide +kernel
theorem dX7_causeOf_12 : decode cX7_causeOf 12 = .ok (.iaload, 1) := by decide +kernel
theorem dX7_causeOf_13 : decode cX7_causeOf 13 = .ok (.ifCond .le 30, 3) := by decide +kernel
theorem dX7_causeOf_16 : decode cX7_causeOf 16 = .ok (.aload_n 0, 1) := by decide +kernel
theorem dX7_causeOf_17 : decode cX7_causeOf 17 = .ok (.getfield 68, 3) := by decide +kernel
theorem dX7_causeOf_20 : decode cX7_causeOf 20 = .ok (.iload_n 2, 1) := by decide +kernel
theorem dX7_causeOf_21 : decode cX7_causeOf 21 = .ok (.iaload, 1) := by decide +kernel
theorem dX7_causeOf_22 : decode cX7_causeOf 22 = .ok (.i2l, 1) := by decide +kernel
theorem dX7_causeOf_23 : decode cX7_causeOf 23 = .ok (.ldc2_w 177, 3) := by decide +kernel
theorem dX7_causeOf_26 : decode cX7_causeOf 26 = .ok (.aload_n 0, 1) := by decide +kernel
theorem dX7_causeOf_27 : decode cX7_causeOf 27 = .ok (.getfield 65, 3) := by decide +kernel
theorem dX7_causeOf_30 : decode cX7_causeOf 30 = .ok (.iload_n 2, 1) := by decide +kernel
theorem dX7_causeOf_31 : decode cX7_causeOf 31 = .ok (.iaload, 1) := by decide +kernel
theorem dX7_causeOf_32 : decode cX7_causeOf 32 = .ok (.i2l, 1) := by decide +kernel
theorem dX7_causeOf_33 : decode cX7_causeOf 33 = .ok (.lmul, 1) := by decide +kernel
theorem dX7_causeOf_34 : decode cX7_causeOf 34 = .ok (.lcmp, 1) := by decide +kernel
theorem dX7_causeOf_35 : decode cX7_causeOf 35 = .ok (.ifCond .le 8, 3) := by decide +kernel
theorem dX7_causeOf_38 : decode cX7_causeOf 38 = .ok (.bipush 10, 2) := by decide +kernel
theorem dX7_causeOf_40 : decode cX7_causeOf 40 = .ok (.iload_n 2, 1) := by decide +kernel
theorem dX7_causeOf_41 : decode cX7_causeOf 41 = .ok (.iadd, 1) := by decide +kernel
theorem dX7_causeOf_42 : decode cX7_causeOf 42 = .ok (.ireturn, 1) := by decide +kernel
theorem dX7_causeOf_43 : decode cX7_causeOf 43 = .ok (.iinc 2 1, 3) := by decide +kernel
theorem dX7_causeOf_46 : decode cX7_causeOf 46 = .ok (.goto (-44), 3) := by decide +kernel
theorem dX7_causeOf_49 : decode cX7_causeOf 49 = .ok (.iconst 0, 1) := by decide +kernel
theorem dX7_causeOf_50 : decode cX7_causeOf 50 = .ok (.istore_n 2, 1) := by decide +kernel
theorem dX7_causeOf_51 : decode cX7_causeOf 51 = .ok (.iload_n 2, 1) := by decide +kernel
theorem dX7_causeOf_52 : decode cX7_causeOf 52 = .ok (.iconst 4, 1) := by decide +kernel
theorem dX7_causeOf_53 : decode cX7_causeOf 53 = .ok (.if_icmp .ge 26, 3) := by decide +kernel
theorem dX7_causeOf_56 : decode cX7_causeOf 56 = .ok (.aload_n 0, 1) := by decide +kernel
theorem dX7_causeOf_57 : decode cX7_causeOf 57 = .ok (.getfield 65, 3) := by decide +kernel
theorem dX7_causeOf_60 : decode cX7_causeOf 60 = .ok (.iload_n 2, 1) := by decide +kernel
theorem dX7_causeOf_61 : decode cX7_causeOf 61 = .ok (.iaload, 1) := by decide +kernel
theorem dX7_causeOf_62 : decode cX7_causeOf 62 = .ok (.sipush 2000, 3) := by decide +kernel
theorem dX7_causeOf_65 : decode cX7_causeOf 65 = .ok (.if_icmp .le 8, 3) := by decide +kernel
theorem dX7_causeOf_68 : decode cX7_causeOf 68 = .ok (.bipush 20, 2) := by decide +kernel
theorem dX7_causeOf_70 : decode cX7_causeOf 70 = .ok (.iload_n 2, 1) := by decide +kernel
theorem dX7_causeOf_71 : decode cX7_causeOf 71 = .ok (.iadd, 1) := by decide +kernel
theorem dX7_causeOf_72 : decode cX7_causeOf 72 = .ok (.ireturn, 1) := by decide +kernel
theorem dX7_causeOf_73 : decode cX7_causeOf 73 = .ok (.iinc 2 1, 3) := by decide +kernel
theorem dX7_causeOf_76 : decode cX7_causeOf 76 = .ok (.goto (-25), 3) := by decide +kernel
theorem dX7_causeOf_79 : decode cX7_causeOf 79 = .ok (.aload_n 0, 1) := by decide +kernel
theorem dX7_causeOf_80 : decode cX7_causeOf 80 = .ok (.getfield 77, 3) := by decide +kernel
theorem dX7_causeOf_83 : decode cX7_causeOf 83 = .ok (.iconst 0, 1) := by decide +kernel
theorem dX7_causeOf_84 : decode cX7_causeOf 84 = .ok (.iaload, 1) := by decide +kernel
theorem dX7_causeOf_85 : decode cX7_causeOf 85 = .ok (.ifCond .le 15, 3) := by decide +kernel
theorem dX7_causeOf_88 : decode cX7_causeOf 88 = .ok (.aload_n 0, 1) := by decide +kernel
theorem dX7_causeOf_89 : decode cX7_causeOf 89 = .ok (.getfield 77, 3) := by decide +kernel
theorem dX7_causeOf_92 : decode cX7_causeOf 92 = .ok (.iconst 3, 1) := by decide +kernel
theorem dX7_causeOf_93 : decode cX7_causeOf 93 = .ok (.iaload, 1) := by decide +kernel
theorem dX7_causeOf_94 : decode cX7_causeOf 94 = .ok (.ifCond .ne 6, 3) := by decide +kernel
theorem dX7_causeOf_97 : decode cX7_causeOf 97 = .ok (.bipush 33, 2) := by decide +kernel
theorem dX7_causeOf_99 : decode cX7_causeOf 99 = .ok (.ireturn, 1) := by decide +kernel
theorem dX7_causeOf_100 : decode cX7_causeOf 100 = .ok (.iload_n 1, 1) := by decide +kernel
theorem dX7_causeOf_101 : decode cX7_causeOf 101 = .ok (.ifCond .le 17, 3) := by decide +kernel
theorem dX7_causeOf_104 : decode cX7_causeOf 104 = .ok (.aload_n 0, 1) := by decide +kernel
theorem dX7_causeOf_105 : decode cX7_causeOf 105 = .ok (.getfield 65, 3) := by decide +kernel
theorem dX7_causeOf_108 : decode cX7_causeOf 108 = .ok (.iconst 2, 1) := by decide +kernel
theorem dX7_causeOf_109 : decode cX7_causeOf 109 = .ok (.iaload, 1) := by decide +kernel
theorem dX7_causeOf_110 : decode cX7_causeOf 110 = .ok (.ifCond .ne 8, 3) := by decide +kernel
theorem dX7_causeOf_113 : decode cX7_causeOf 113 = .ok (.bipush 42, 2) := by decide +kernel
theorem dX7_causeOf_115 : decode cX7_causeOf 115 = .ok (.goto 4, 3) := by decide +kernel
theorem dX7_causeOf_118 : decode cX7_causeOf 118 = .ok (.iconst 0, 1) := by decide +kernel
theorem dX7_causeOf_119 : decode cX7_causeOf 119 = .ok (.ireturn, 1) := by decide +kernel
theorem dX7_step_0 : decode cX7_step 0 = .ok (.iload_n 1, 1) := by decide +kernel
theorem dX7_step_1 : decode cX7_step 1 = .ok (.iconst 0, 1) := by decide +kernel
theorem dX7_step_2 : decode cX7_step 2 = .ok (.sipush 1000, 3) := by decide +kernel
theorem dX7_step_5 : decode cX7_step 5 = .ok (.invokestatic 125, 3) := by decide +kernel
theorem dX7_step_8 : decode cX7_step 8 = .ok (.ifCond .eq 23, 3) := by decide +kernel
theorem dX7_step_11 : decode cX7_step 11 = .ok (.iload_n 2, 1) := by decide +kernel
theorem dX7_step_12 : decode cX7_step 12 = .ok (.iconst 0, 1) := by decide +kernel
theorem dX7_step_13 : decode cX7_step 13 = .ok (.ldc 167, 2) := by decide +kernel
theorem dX7_step_15 : decode cX7_step 15 = .ok (.invokestatic 125, 3) := by decide +kernel
theorem dX7_step_18 : decode cX7_step 18 = .ok (.ifCond .eq 13, 3) := by decide +kernel
theorem dX7_step_21 : decode cX7_step 21 = .ok (.iload_n 3, 1) := by decide +kernel
theorem dX7_step_22 : decode cX7_step 22 = .ok (.iconst 0, 1) := by decide +kernel
theorem dX7_step_23 : decode cX7_step 23 = .ok (.bipush 100, 2) := by decide +kernel
theorem dX7_step_25 : decode cX7_step 25 = .ok (.invokestatic 125, 3) := by decide +kernel
theorem dX7_step_28 : decode cX7_step 28 = .ok (.ifCond .ne 5, 3) := by decide +kernel
theorem dX7_step_31 : decode cX7_step 31 = .ok (.iconst (-1), 1) := by decide +kernel
theorem dX7_step_32 : decode cX7_step 32 = .ok (.ireturn, 1) := by decide +kernel
theorem dX7_step_33 : decode cX7_step 33 = .ok (.aload_n 0, 1) := by decide +kernel
theorem dX7_step_34 : decode cX7_step 34 = .ok (.getfield 179, 3) := by decide +kernel
theorem dX7_step_37 : decode cX7_step 37 = .ok (.sipush 500, 3) := by decide +kernel
theorem dX7_step_40 : decode cX7_step 40 = .ok (.if_icmp .ne 6, 3) := by decide +kernel
theorem dX7_step_43 : decode cX7_step 43 = .ok (.bipush (-2), 2) := by decide +kernel
theorem dX7_step_45 : decode cX7_step 45 = .ok (.ireturn, 1) := by decide +kernel
theorem dX7_step_46 : decode cX7_step 46 = .ok (.aload_n 0, 1) := by decide +kernel
theorem dX7_step_47 : decode cX7_step 47 = .ok (.getfield 182, 3) := by decide +kernel
theorem dX7_step_50 : decode cX7_step 50 = .ok (.ifCond .eq 7, 3) := by decide +kernel
theorem dX7_step_53 : decode cX7_step 53 = .ok (.iconst 0, 1) := by decide +kernel
theorem dX7_step_54 : decode cX7_step 54 = .ok (.goto 4, 3) := by decide +kernel
theorem dX7_step_57 : decode cX7_step 57 = .ok (.iload_n 2, 1) := by decide +kernel
theorem dX7_step_58 : decode cX7_step 58 = .ok (.istore 4, 2) := by decide +kernel
theorem dX7_step_60 : decode cX7_step 60 = .ok (.aload_n 0, 1) := by decide +kernel
theorem dX7_step_61 : decode cX7_step 61 = .ok (.getfield 68, 3) := by decide +kernel
theorem dX7_step_64 : decode cX7_step 64 = .ok (.iconst 3, 1) := by decide +kernel
theorem dX7_step_65 : decode cX7_step 65 = .ok (.iaload, 1) := by decide +kernel
theorem dX7_step_66 : decode cX7_step 66 = .ok (.bipush 10, 2) := by decide +kernel
theorem dX7_step_68 : decode cX7_step 68 = .ok (.idiv, 1) := by decide +kernel
theorem dX7_step_69 : decode cX7_step 69 = .ok (.istore 5, 2) := by decide +kernel
theorem dX7_step_71 : decode cX7_step 71 = .ok (.aload_n 0, 1) := by decide +kernel
theorem dX7_step_72 : decode cX7_step 72 = .ok (.getfield 68, 3) := by decide +kernel
theorem dX7_step_75 : decode cX7_step 75 = .ok (.iconst 3, 1) := by decide +kernel
theorem dX7_step_76 : decode cX7_step 76 = .ok (.dup2, 1) := by decide +kernel
theorem dX7_step_77 : decode cX7_step 77 = .ok (.iaload, 1) := by decide +kernel
theorem dX7_step_78 : decode cX7_step 78 = .ok (.iload 5, 2) := by decide +kernel
theorem dX7_step_80 : decode cX7_step 80 = .ok (.isub, 1) := by decide +kernel
theorem dX7_step_81 : decode cX7_step 81 = .ok (.iastore, 1) := by decide +kernel
theorem dX7_step_82 : decode cX7_step 82 = .ok (.iload 4, 2) := by decide +kernel
theorem dX7_step_84 : decode cX7_step 84 = .ok (.iload 5, 2) := by decide +kernel
theorem dX7_step_86 : decode cX7_step 86 = .ok (.iadd, 1) := by decide +kernel
theorem dX7_step_87 : decode cX7_step 87 = .ok (.istore 6, 2) := by decide +kernel
theorem dX7_step_89 : decode cX7_step 89 = .ok (.iconst 2, 1) := by decide +kernel
theorem dX7_step_90 : decode cX7_step 90 = .ok (.istore 7, 2) := by decide +kernel
theorem dX7_step_92 : decode cX7_step 92 = .ok (.iload 7, 2) := by decide +kernel
theorem dX7_step_94 : decode cX7_step 94 = .ok (.ifCond .lt 19, 3) := by decide +kernel
theorem dX7_step_97 : decode cX7_step 97 = .ok (.aload_n 0, 1) := by decide +kernel
theorem dX7_step_98 : decode cX7_step 98 = .ok (.iload 7, 2) := by decide +kernel
theorem dX7_step_100 : decode cX7_step 100 = .ok (.iload 6, 2) := by decide +kernel
theorem dX7_step_102 : decode cX7_step 102 = .ok (.invokevirtual 186, 3) := by decide +kernel
theorem dX7_step_105 : decode cX7_step 105 = .ok (.istore 6, 2) := by decide +kernel
theorem dX7_step_107 : decode cX7_step 107 = .ok (.iinc 7 (-1), 3) := by decide +kernel
theorem dX7_step_110 : decode cX7_step 110 = .ok (.goto (-18), 3) := by decide +kernel
theorem dX7_step_113 : decode cX7_step 113 = .ok (.aload_n 0, 1) := by decide +kernel
theorem dX7_step_114 : decode cX7_step 114 = .ok (.iload_n 1, 1) := by decide +kernel
theorem dX7_step_115 : decode cX7_step 115 = .ok (.iload_n 3, 1) := by decide +kernel
theorem dX7_step_116 : decode cX7_step 116 = .ok (.invokevirtual 190, 3) := by decide +kernel
theorem dX7_step_119 : decode cX7_step 119 = .ok (.aload_n 0, 1) := by decide +kernel
theorem dX7_step_120 : decode cX7_step 120 = .ok (.getfield 77, 3) := by decide +kernel
theorem dX7_step_123 : decode cX7_step 123 = .ok (.iconst 0, 1) := by decide +kernel
theorem dX7_step_124 : decode cX7_step 124 = .ok (.aload_n 0, 1) := by decide +kernel
theorem dX7_step_125 : decode cX7_step 125 = .ok (.getfield 65, 3) := by decide +kernel
theorem dX7_step_128 : decode cX7_step 128 = .ok (.iconst 4, 1) := by decide +kernel
theorem dX7_step_129 : decode cX7_step 129 = .ok (.iaload, 1) := by decide +kernel
theorem dX7_step_130 : decode cX7_step 130 = .ok (.iastore, 1) := by decide +kernel
theorem dX7_step_131 : decode cX7_step 131 = .ok (.aload_n 0, 1) := by decide +kernel
theorem dX7_step_132 : decode cX7_step 132 = .ok (.getfield 77, 3) := by decide +kernel
theorem dX7_step_135 : decode cX7_step 135 = .ok (.iconst 1, 1) := by decide +kernel
theorem dX7_step_136 : decode cX7_step 136 = .ok (.aload_n 0, 1) := by decide +kernel
theorem dX7_step_137 : decode cX7_step 137 = .ok (.getfield 68, 3) := by decide +kernel
theorem dX7_step_140 : decode cX7_step 140 = .ok (.iconst 4, 1) := by decide +kernel
theorem dX7_step_141 : decode cX7_step 141 = .ok (.iaload, 1) := by decide +kernel
theorem dX7_step_142 : decode cX7_step 142 = .ok (.iastore, 1) := by decide +kernel
theorem dX7_step_143 : decode cX7_step 143 = .ok (.aload_n 0, 1) := by decide +kernel
theorem dX7_step_144 : decode cX7_step 144 = .ok (.getfield 77, 3) := by decide +kernel
theorem dX7_step_147 : decode cX7_step 147 = .ok (.iconst 2, 1) := by decide +kernel
theorem dX7_step_148 : decode cX7_step 148 = .ok (.aload_n 0, 1) := by decide +kernel
theorem dX7_step_149 : decode cX7_step 149 = .ok (.getfield 65, 3) := by decide +kernel
theorem dX7_step_152 : decode cX7_step 152 = .ok (.iconst 4, 1) := by decide +kernel
theorem dX7_step_153 : decode cX7_step 153 = .ok (.iaload, 1) := by decide +kernel
theorem dX7_step_154 : decode cX7_step 154 = .ok (.ifCond .ne 7, 3) := by decide +kernel
theorem dX7_step_157 : decode cX7_step 157 = .ok (.iconst 0, 1) := by decide +kernel
theorem dX7_step_158 : decode cX7_step 158 = .ok (.goto 16, 3) := by decide +kernel
theorem dX7_step_161 : decode cX7_step 161 = .ok (.aload_n 0, 1) := by decide +kernel
theorem dX7_step_162 : decode cX7_step 162 = .ok (.getfield 68, 3) := by decide +kernel
theorem dX7_step_165 : decode cX7_step 165 = .ok (.iconst 4, 1) := by decide +kernel
theorem dX7_step_166 : decode cX7_step 166 = .ok (.iaload, 1) := by decide +kernel
theorem dX7_step_167 : decode cX7_step 167 = .ok (.aload_n 0, 1) := by decide +kernel
theorem dX7_step_168 : decode cX7_step 168 = .ok (.getfield 65, 3) := by decide +kernel
theorem dX7_step_171 : decode cX7_step 171 = .ok (.iconst 4, 1) := by decide +kernel
theorem dX7_step_172 : decode cX7_step 172 = .ok (.iaload, 1) := by decide +kernel
theorem dX7_step_173 : decode cX7_step 173 = .ok (.idiv, 1) := by decide +kernel
theorem dX7_step_174 : decode cX7_step 174 = .ok (.iastore, 1) := by decide +kernel
theorem dX7_step_175 : decode cX7_step 175 = .ok (.aload_n 0, 1) := by decide +kernel
theorem dX7_step_176 : decode cX7_step 176 = .ok (.getfield 77, 3) := by decide +kernel
theorem dX7_step_179 : decode cX7_step 179 = .ok (.iconst 3, 1) := by decide +kernel
theorem dX7_step_180 : decode cX7_step 180 = .ok (.aload_n 0, 1) := by decide +kernel
theorem dX7_step_181 : decode cX7_step 181 = .ok (.getfield 77, 3) := by decide +kernel
theorem dX7_step_184 : decode cX7_step 184 = .ok (.iconst 2, 1) := by decide +kernel
theorem dX7_step_185 : decode cX7_step 185 = .ok (.iaload, 1) := by decide +kernel
theorem dX7_step_186 : decode cX7_step 186 = .ok (.bipush 60, 2) := by decide +kernel
theorem dX7_step_188 : decode cX7_step 188 = .ok (.if_icmp .lt 7, 3) := by decide +kernel
theorem dX7_step_191 : decode cX7_step 191 = .ok (.iconst 2, 1) := by decide +kernel
theorem dX7_step_192 : decode cX7_step 192 = .ok (.goto 19, 3) := by decide +kernel
theorem dX7_step_195 : decode cX7_step 195 = .ok (.aload_n 0, 1) := by decide +kernel
theorem dX7_step_196 : decode cX7_step 196 = .ok (.getfield 77, 3) := by decide +kernel
theorem dX7_step_199 : decode cX7_step 199 = .ok (.iconst 2, 1) := by decide +kernel
theorem dX7_step_200 : decode cX7_step 200 = .ok (.iaload, 1) := by decide +kernel
theorem dX7_step_201 : decode cX7_step 201 = .ok (.bipush 30, 2) := by decide +kernel
theorem dX7_step_203 : decode cX7_step 203 = .ok (.if_icmp .lt 7, 3) := by decide +kernel
theorem dX7_step_206 : decode cX7_step 206 = .ok (.iconst 1, 1) := by decide +kernel
theorem dX7_step_207 : decode cX7_step 207 = .ok (.goto 4, 3) := by decide +kernel
theorem dX7_step_210 : decode cX7_step 210 = .ok (.iconst 0, 1) := by decide +kernel
theorem dX7_step_211 : decode cX7_step 211 = .ok (.iastore, 1) := by decide +kernel
theorem dX7_step_212 : decode cX7_step 212 = .ok (.aload_n 0, 1) := by decide +kernel
theorem dX7_step_213 : decode cX7_step 213 = .ok (.getfield 77, 3) := by decide +kernel
theorem dX7_step_216 : decode cX7_step 216 = .ok (.bipush 6, 2) := by decide +kernel
theorem dX7_step_218 : decode cX7_step 218 = .ok (.iload 6, 2) := by decide +kernel
theorem dX7_step_220 : decode cX7_step 220 = .ok (.iastore, 1) := by decide +kernel
theorem dX7_step_221 : decode cX7_step 221 = .ok (.aload_n 0, 1) := by decide +kernel
theorem dX7_step_222 : decode cX7_step 222 = .ok (.getfield 77, 3) := by decide +kernel
theorem dX7_step_225 : decode cX7_step 225 = .ok (.iconst 0, 1) := by decide +kernel
theorem dX7_step_226 : decode cX7_step 226 = .ok (.iaload, 1) := by decide +kernel
theorem dX7_step_227 : decode cX7_step 227 = .ok (.ifCond .le 19, 3) := by decide +kernel
theorem dX7_step_230 : decode cX7_step 230 = .ok (.aload_n 0, 1) := by decide +kernel
theorem dX7_step_231 : decode cX7_step 231 = .ok (.aload_n 0, 1) := by decide +kernel
theorem dX7_step_232 : decode cX7_step 232 = .ok (.getfield 77, 3) := by decide +kernel
theorem dX7_step_235 : decode cX7_step 235 = .ok (.iconst 3, 1) := by decide +kernel
theorem dX7_step_236 : decode cX7_step 236 = .ok (.iaload, 1) := by decide +kernel
theorem dX7_step_237 : decode cX7_step 237 = .ok (.aload_n 0, 1) := by decide +kernel
theorem dX7_step_238 : decode cX7_step 238 = .ok (.getfield 77, 3) := by decide +kernel
theorem dX7_step_241 : decode cX7_step 241 = .ok (.iconst 0, 1) := by decide +kernel
theorem dX7_step_242 : decode cX7_step 242 = .ok (.iaload, 1) := by decide +kernel
theorem dX7_step_243 : decode cX7_step 243 = .ok (.invokevirtual 194, 3) := by decide +kernel
theorem dX7_step_246 : decode cX7_step 246 = .ok (.aload_n 0, 1) := by decide +kernel
theorem dX7_step_247 : decode cX7_step 247 = .ok (.iload 4, 2) := by decide +kernel
theorem dX7_step_249 : decode cX7_step 249 = .ok (.invokevirtual 197, 3) := by decide +kernel
theorem dX7_step_252 : decode cX7_step 252 = .ok (.istore 7, 2) := by decide +kernel
theorem dX7_step_254 : decode cX7_step 254 = .ok (.aload_n 0, 1) := by decide +kernel
theorem dX7_step_255 : decode cX7_step 255 = .ok (.getfield 77, 3) := by decide +kernel
theorem dX7_step_258 : decode cX7_step 258 = .ok (.iconst 4, 1) := by decide +kernel
theorem dX7_step_259 : decode cX7_step 259 = .ok (.iload 7, 2) := by decide +kernel
theorem dX7_step_261 : decode cX7_step 261 = .ok (.bipush 10, 2) := by decide +kernel
theorem dX7_step_263 : decode cX7_step 263 = .ok (.idiv, 1) := by decide +kernel
theorem dX7_step_264 : decode cX7_step 264 = .ok (.iastore, 1) := by decide +kernel
theorem dX7_step_265 : decode cX7_step 265 = .ok (.aload_n 0, 1) := by decide +kernel
theorem dX7_step_266 : decode cX7_step 266 = .ok (.getfield 77, 3) := by decide +kernel
theorem dX7_step_269 : decode cX7_step 269 = .ok (.iconst 5, 1) := by decide +kernel
theorem dX7_step_270 : decode cX7_step 270 = .ok (.iload 7, 2) := by decide +kernel
theorem dX7_step_272 : decode cX7_step 272 = .ok (.ifCond .ne 8, 3) := by decide +kernel
theorem dX7_step_275 : decode cX7_step 275 = .ok (.bipush (-9), 2) := by decide +kernel
theorem dX7_step_277 : decode cX7_step 277 = .ok (.goto 8, 3) := by decide +kernel
theorem dX7_step_280 : decode cX7_step 280 = .ok (.iload 7, 2) := by decide +kernel
theorem dX7_step_282 : decode cX7_step 282 = .ok (.bipush 10, 2) := by decide +kernel
theorem dX7_step_284 : decode cX7_step 284 = .ok (.irem, 1) := by decide +kernel
theorem dX7_step_285 : decode cX7_step 285 = .ok (.iastore, 1) := by decide +kernel
theorem dX7_step_286 : decode cX7_step 286 = .ok (.aload_n 0, 1) := by decide +kernel
theorem dX7_step_287 : decode cX7_step 287 = .ok (.aload_n 0, 1) := by decide +kernel
theorem dX7_step_288 : decode cX7_step 288 = .ok (.getfield 182, 3) := by decide +kernel
theorem dX7_step_291 : decode cX7_step 291 = .ok (.ifCond .ne 17, 3) := by decide +kernel
theorem dX7_step_294 : decode cX7_step 294 = .ok (.aload_n 0, 1) := by decide +kernel
theorem dX7_step_295 : decode cX7_step 295 = .ok (.getfield 77, 3) := by decide +kernel
theorem dX7_step_298 : decode cX7_step 298 = .ok (.iconst 4, 1) := by decide +kernel
theorem dX7_step_299 : decode cX7_step 299 = .ok (.iaload, 1) := by decide +kernel
theorem dX7_step_300 : decode cX7_step 300 = .ok (.iconst 1, 1) := by decide +kernel
theorem dX7_step_301 : decode cX7_step 301 = .ok (.iconst 2, 1) := by decide +kernel
theorem dX7_step_302 : decode cX7_step 302 = .ok (.invokestatic 125, 3) := by decide +kernel
theorem dX7_step_305 : decode cX7_step 305 = .ok (.ifCond .eq 7, 3) := by decide +kernel
theorem dX7_step_308 : decode cX7_step 308 = .ok (.iconst 1, 1) := by decide +kernel
theorem dX7_step_309 : decode cX7_step 309 = .ok (.goto 4, 3) := by decide +kernel
theorem dX7_step_312 : decode cX7_step 312 = .ok (.iconst 0, 1) := by decide +kernel
theorem dX7_step_313 : decode cX7_step 313 = .ok (.putfield 182, 3) := by decide +kernel
theorem dX7_step_316 : decode cX7_step 316 = .ok (.aload_n 0, 1) := by decide +kernel
theorem dX7_step_317 : decode cX7_step 317 = .ok (.iload 7, 2) := by decide +kernel
theorem dX7_step_319 : decode cX7_step 319 = .ok (.ifCond .le 17, 3) := by decide +kernel
theorem dX7_step_322 : decode cX7_step 322 = .ok (.aload_n 0, 1) := by decide +kernel
theorem dX7_step_323 : decode cX7_step 323 = .ok (.getfield 83, 3) := by decide +kernel
theorem dX7_step_326 : decode cX7_step 326 = .ok (.ifCond .ge 10, 3) := by decide +kernel
theorem dX7_step_329 : decode cX7_step 329 = .ok (.aload_n 0, 1) := by decide +kernel
theorem dX7_step_330 : decode cX7_step 330 = .ok (.getfield 179, 3) := by decide +kernel
theorem dX7_step_333 : decode cX7_step 333 = .ok (.goto 7, 3) := by decide +kernel
theorem dX7_step_336 : decode cX7_step 336 = .ok (.aload_n 0, 1) := by decide +kernel
theorem dX7_step_337 : decode cX7_step 337 = .ok (.getfield 83, 3) := by decide +kernel
theorem dX7_step_340 : decode cX7_step 340 = .ok (.putfield 83, 3) := by decide +kernel
theorem dX7_step_343 : decode cX7_step 343 = .ok (.aload_n 0, 1) := by decide +kernel
theorem dX7_step_344 : decode cX7_step 344 = .ok (.getfield 80, 3) := by decide +kernel
theorem dX7_step_347 : decode cX7_step 347 = .ok (.iconst 0, 1) := by decide +kernel
theorem dX7_step_348 : decode cX7_step 348 = .ok (.dup2, 1) := by decide +kernel
theorem dX7_step_349 : decode cX7_step 349 = .ok (.laload, 1) := by decide +kernel
theorem dX7_step_350 : decode cX7_step 350 = .ok (.iload_n 1, 1) := by decide +kernel
theorem dX7_step_351 : decode cX7_step 351 = .ok (.i2l, 1) := by decide +kernel
theorem dX7_step_352 : decode cX7_step 352 = .ok (.ladd, 1) := by decide +kernel
theorem dX7_step_353 : decode cX7_step 353 = .ok (.lastore, 1) := by decide +kernel
theorem dX7_step_354 : decode cX7_step 354 = .ok (.aload_n 0, 1) := by decide +kernel
theorem dX7_step_355 : decode cX7_step 355 = .ok (.getfield 80, 3) := by decide +kernel
theorem dX7_step_358 : decode cX7_step 358 = .ok (.iconst 1, 1) := by decide +kernel
theorem dX7_step_359 : decode cX7_step 359 = .ok (.dup2, 1) := by decide +kernel
theorem dX7_step_360 : decode cX7_step 360 = .ok (.laload, 1) := by decide +kernel
theorem dX7_step_361 : decode cX7_step 361 = .ok (.iload 4, 2) := by decide +kernel
theorem dX7_step_363 : decode cX7_step 363 = .ok (.i2l, 1) := by decide +kernel
theorem dX7_step_364 : decode cX7_step 364 = .ok (.ladd, 1) := by decide +kernel
theorem dX7_step_365 : decode cX7_step 365 = .ok (.lastore, 1) := by decide +kernel
theorem dX7_step_366 : decode cX7_step 366 = .ok (.aload_n 0, 1) := by decide +kernel
theorem dX7_step_367 : decode cX7_step 367 = .ok (.getfield 80, 3) := by decide +kernel
theorem dX7_step_370 : decode cX7_step 370 = .ok (.iconst 2, 1) := by decide +kernel
theorem dX7_step_371 : decode cX7_step 371 = .ok (.dup2, 1) := by decide +kernel
theorem dX7_step_372 : decode cX7_step 372 = .ok (.laload, 1) := by decide +kernel
theorem dX7_step_373 : decode cX7_step 373 = .ok (.aload_n 0, 1) := by decide +kernel
theorem dX7_step_374 : decode cX7_step 374 = .ok (.getfield 77, 3) := by decide +kernel
theorem dX7_step_377 : decode cX7_step 377 = .ok (.iconst 0, 1) := by decide +kernel
theorem dX7_step_378 : decode cX7_step 378 = .ok (.iaload, 1) := by decide +kernel
theorem dX7_step_379 : decode cX7_step 379 = .ok (.i2l, 1) := by decide +kernel
theorem dX7_step_380 : decode cX7_step 380 = .ok (.ladd, 1) := by decide +kernel
theorem dX7_step_381 : decode cX7_step 381 = .ok (.lastore, 1) := by decide +kernel
theorem dX7_step_382 : decode cX7_step 382 = .ok (.aload_n 0, 1) := by decide +kernel
theorem dX7_step_383 : decode cX7_step 383 = .ok (.getfield 80, 3) := by decide +kernel
theorem dX7_step_386 : decode cX7_step 386 = .ok (.iconst 3, 1) := by decide +kernel
theorem dX7_step_387 : decode cX7_step 387 = .ok (.dup2, 1) := by decide +kernel
theorem dX7_step_388 : decode cX7_step 388 = .ok (.laload, 1) := by decide +kernel
theorem dX7_step_389 : decode cX7_step 389 = .ok (.aload_n 0, 1) := by decide +kernel
theorem dX7_step_390 : decode cX7_step 390 = .ok (.getfield 77, 3) := by decide +kernel
theorem dX7_step_393 : decode cX7_step 393 = .ok (.iconst 1, 1) := by decide +kernel
theorem dX7_step_394 : decode cX7_step 394 = .ok (.iaload, 1) := by decide +kernel
theorem dX7_step_395 : decode cX7_step 395 = .ok (.i2l, 1) := by decide +kernel
theorem dX7_step_396 : decode cX7_step 396 = .ok (.ladd, 1) := by decide +kernel
theorem dX7_step_397 : decode cX7_step 397 = .ok (.lastore, 1) := by decide +kernel
theorem dX7_step_398 : decode cX7_step 398 = .ok (.aload_n 0, 1) := by decide +kernel
theorem dX7_step_399 : decode cX7_step 399 = .ok (.getfield 80, 3) := by decide +kernel
theorem dX7_step_402 : decode cX7_step 402 = .ok (.iconst 4, 1) := by decide +kernel
theorem dX7_step_403 : decode cX7_step 403 = .ok (.dup2, 1) := by decide +kernel
theorem dX7_step_404 : decode cX7_step 404 = .ok (.laload, 1) := by decide +kernel
theorem dX7_step_405 : decode cX7_step 405 = .ok (.iload 6, 2) := by decide +kernel
theorem dX7_step_407 : decode cX7_step 407 = .ok (.i2l, 1) := by decide +kernel
theorem dX7_step_408 : decode cX7_step 408 = .ok (.ladd, 1) := by decide +kernel
theorem dX7_step_409 : decode cX7_step 409 = .ok (.lastore, 1) := by decide +kernel
theorem dX7_step_410 : decode cX7_step 410 = .ok (.aload_n 0, 1) := by decide +kernel
theorem dX7_step_411 : decode cX7_step 411 = .ok (.dup, 1) := by decide +kernel
theorem dX7_step_412 : decode cX7_step 412 = .ok (.getfield 179, 3) := by decide +kernel
theorem dX7_step_415 : decode cX7_step 415 = .ok (.iconst 1, 1) := by decide +kernel
theorem dX7_step_416 : decode cX7_step 416 = .ok (.iadd, 1) := by decide +kernel
theorem dX7_step_417 : decode cX7_step 417 = .ok (.putfield 179, 3) := by decide +kernel
theorem dX7_step_420 : decode cX7_step 420 = .ok (.aload_n 0, 1) := by decide +kernel
theorem dX7_step_421 : decode cX7_step 421 = .ok (.getfield 77, 3) := by decide +kernel
theorem dX7_step_424 : decode cX7_step 424 = .ok (.iconst 4, 1) := by decide +kernel
theorem dX7_step_425 : decode cX7_step 425 = .ok (.iaload, 1) := by decide +kernel
theorem dX7_step_426 : decode cX7_step 426 = .ok (.ireturn, 1) := by decide +kernel
theorem dX7_start_0 : decode cX7_start 0 = .ok (.aload_n 0, 1) := by decide +kernel
theorem dX7_start_1 : decode cX7_start 1 = .ok (.getfield 182, 3) := by decide +kernel
theorem dX7_start_4 : decode cX7_start 4 = .ok (.ifCond .ne 5, 3) := by decide +kernel
theorem dX7_start_7 : decode cX7_start 7 = .ok (.iconst 0, 1) := by decide +kernel
theorem dX7_start_8 : decode cX7_start 8 = .ok (.ireturn, 1) := by decide +kernel
theorem dX7_start_9 : decode cX7_start 9 = .ok (.aload_n 0, 1) := by decide +kernel
theorem dX7_start_10 : decode cX7_start 10 = .ok (.iconst 0, 1) := by decide +kernel
theorem dX7_start_11 : decode cX7_start 11 = .ok (.putfield 182, 3) := by decide +kernel
theorem dX7_start_14 : decode cX7_start 14 = .ok (.aload_n 0, 1) := by decide +kernel
theorem dX7_start_15 : decode cX7_start 15 = .ok (.bipush (-9), 2) := by decide +kernel
theorem dX7_start_17 : decode cX7_start 17 = .ok (.putfield 83, 3) := by decide +kernel
theorem dX7_start_20 : decode cX7_start 20 = .ok (.iconst 1, 1) := by decide +kernel
theorem dX7_start_21 : decode cX7_start 21 = .ok (.ireturn, 1) := by decide +kernel
theorem dX7_zone_0 : decode cX7_zone 0 = .ok (.iload_n 1, 1) := by decide +kernel
theorem dX7_zone_1 : decode cX7_zone 1 = .ok (.iconst 0, 1) := by decide +kernel
theorem dX7_zone_2 : decode cX7_zone 2 = .ok (.iconst 3, 1) := by decide +kernel
theorem dX7_zone_3 : decode cX7_zone 3 = .ok (.invokestatic 125, 3) := by decide +kernel
theorem dX7_zone_6 : decode cX7_zone 6 = .ok (.ifCond .eq 12, 3) := by decide +kernel
theorem dX7_zone_9 : decode cX7_zone 9 = .ok (.iload_n 2, 1) := by decide +kernel
theorem dX7_zone_10 : decode cX7_zone 10 = .ok (.iconst 0, 1) := by decide +kernel
theorem dX7_zone_11 : decode cX7_zone 11 = .ok (.iconst 2, 1) := by decide +kernel
theorem dX7_zone_12 : decode cX7_zone 12 = .ok (.invokestatic 125, 3) := by decide +kernel
theorem dX7_zone_15 : decode cX7_zone 15 = .ok (.ifCond .ne 7, 3) := by decide +kernel
theorem dX7_zone_18 : decode cX7_zone 18 = .ok (.iconst (-1), 1) := by decide +kernel
theorem dX7_zone_19 : decode cX7_zone 19 = .ok (.goto 34, 3) := by decide +kernel
theorem dX7_zone_22 : decode cX7_zone 22 = .ok (.iload_n 2, 1) := by decide +kernel
theorem dX7_zone_23 : decode cX7_zone 23 = .ok (.ifCond .ne 12, 3) := by decide +kernel
theorem dX7_zone_26 : decode cX7_zone 26 = .ok (.aload_n 0, 1) := by decide +kernel
theorem dX7_zone_27 : decode cX7_zone 27 = .ok (.getfield 65, 3) := by decide +kernel
theorem dX7_zone_30 : decode cX7_zone 30 = .ok (.iload_n 1, 1) := by decide +kernel
theorem dX7_zone_31 : decode cX7_zone 31 = .ok (.iaload, 1) := by decide +kernel
theorem dX7_zone_32 : decode cX7_zone 32 = .ok (.goto 21, 3) := by decide +kernel
theorem dX7_zone_35 : decode cX7_zone 35 = .ok (.iload_n 2, 1) := by decide +kernel
theorem dX7_zone_36 : decode cX7_zone 36 = .ok (.iconst 1, 1) := by decide +kernel
theorem dX7_zone_37 : decode cX7_zone 37 = .ok (.if_icmp .ne 12, 3) := by decide +kernel
theorem dX7_zone_40 : decode cX7_zone 40 = .ok (.aload_n 0, 1) := by decide +kernel
theorem dX7_zone_41 : decode cX7_zone 41 = .ok (.getfield 68, 3) := by decide +kernel
theorem dX7_zone_44 : decode cX7_zone 44 = .ok (.iload_n 1, 1) := by decide +kernel
theorem dX7_zone_45 : decode cX7_zone 45 = .ok (.iaload, 1) := by decide +kernel
theorem dX7_zone_46 : decode cX7_zone 46 = .ok (.goto 7, 3) := by decide +kernel
theorem dX7_zone_49 : decode cX7_zone 49 = .ok (.iload_n 1, 1) := by decide +kernel
theorem dX7_zone_50 : decode cX7_zone 50 = .ok (.invokestatic 172, 3) := by decide +kernel
theorem dX7_zone_53 : decode cX7_zone 53 = .ok (.ireturn, 1) := by decide +kernel
theorem dX7_warmth_0 : decode cX7_warmth 0 = .ok (.iload_n 1, 1) := by decide +kernel
theorem dX7_warmth_1 : decode cX7_warmth 1 = .ok (.iconst 0, 1) := by decide +kernel
theorem dX7_warmth_2 : decode cX7_warmth 2 = .ok (.iconst 3, 1) := by decide +kernel
theorem dX7_warmth_3 : decode cX7_warmth 3 = .ok (.invokestatic 125, 3) := by decide +kernel
theorem dX7_warmth_6 : decode cX7_warmth 6 = .ok (.ifCond .eq 12, 3) := by decide +kernel
theorem dX7_warmth_9 : decode cX7_warmth 9 = .ok (.iload_n 2, 1) := by decide +kernel
theorem dX7_warmth_10 : decode cX7_warmth 10 = .ok (.iconst 0, 1) := by decide +kernel
theorem dX7_warmth_11 : decode cX7_warmth 11 = .ok (.iconst 2, 1) := by decide +kernel
theorem dX7_warmth_12 : decode cX7_warmth 12 = .ok (.invokestatic 125, 3) := by decide +kernel
theorem dX7_warmth_15 : decode cX7_warmth 15 = .ok (.ifCond .ne 5, 3) := by decide +kernel
theorem dX7_warmth_18 : decode cX7_warmth 18 = .ok (.iconst (-1), 1) := by decide +kernel
theorem dX7_warmth_19 : decode cX7_warmth 19 = .ok (.ireturn, 1) := by decide +kernel
theorem dX7_warmth_20 : decode cX7_warmth 20 = .ok (.iload_n 2, 1) := by decide +kernel
theorem dX7_warmth_21 : decode cX7_warmth 21 = .ok (.ifCond .eq 17, 3) := by decide +kernel
theorem dX7_warmth_24 : decode cX7_warmth 24 = .ok (.iload_n 2, 1) := by decide +kernel
theorem dX7_warmth_25 : decode cX7_warmth 25 = .ok (.iload_n 1, 1) := by decide +kernel
theorem dX7_warmth_26 : decode cX7_warmth 26 = .ok (.invokestatic 172, 3) := by decide +kernel
theorem dX7_warmth_29 : decode cX7_warmth 29 = .ok (.if_icmp .eq 9, 3) := by decide +kernel
theorem dX7_warmth_32 : decode cX7_warmth 32 = .ok (.aload_n 0, 1) := by decide +kernel
theorem dX7_warmth_33 : decode cX7_warmth 33 = .ok (.iconst 3, 1) := by decide +kernel
theorem dX7_warmth_34 : decode cX7_warmth 34 = .ok (.invokevirtual 151, 3) := by decide +kernel
theorem dX7_warmth_37 : decode cX7_warmth 37 = .ok (.ireturn, 1) := by decide +kernel
theorem dX7_warmth_38 : decode cX7_warmth 38 = .ok (.aload_n 0, 1) := by decide +kernel
theorem dX7_warmth_39 : decode cX7_warmth 39 = .ok (.getfield 65, 3) := by decide +kernel
theorem dX7_warmth_42 : decode cX7_warmth 42 = .ok (.iload_n 1, 1) := by decide +kernel
theorem dX7_warmth_43 : decode cX7_warmth 43 = .ok (.iaload, 1) := by decide +kernel
theorem dX7_warmth_44 : decode cX7_warmth 44 = .ok (.ifCond .ne 11, 3) := by decide +kernel
theorem dX7_warmth_47 : decode cX7_warmth 47 = .ok (.aload_n 0, 1) := by decide +kernel
theorem dX7_warmth_48 : decode cX7_warmth 48 = .ok (.iconst 4, 1) := by decide +kernel
theorem dX7_warmth_49 : decode cX7_warmth 49 = .ok (.invokevirtual 151, 3) := by decide +kernel
theorem dX7_warmth_52 : decode cX7_warmth 52 = .ok (.goto 16, 3) := by decide +kernel
theorem dX7_warmth_55 : decode cX7_warmth 55 = .ok (.aload_n 0, 1) := by decide +kernel
theorem dX7_warmth_56 : decode cX7_warmth 56 = .ok (.getfield 68, 3) := by decide +kernel
theorem dX7_warmth_59 : decode cX7_warmth 59 = .ok (.iload_n 1, 1) := by decide +kernel
theorem dX7_warmth_60 : decode cX7_warmth 60 = .ok (.iaload, 1) := by decide +kernel
theorem dX7_warmth_61 : decode cX7_warmth 61 = .ok (.aload_n 0, 1) := by decide +kernel
theorem dX7_warmth_62 : decode cX7_warmth 62 = .ok (.getfield 65, 3) := by decide +kernel
theorem dX7_warmth_65 : decode cX7_warmth 65 = .ok (.iload_n 1, 1) := by decide +kernel
theorem dX7_warmth_66 : decode cX7_warmth 66 = .ok (.iaload, 1) := by decide +kernel
theorem dX7_warmth_67 : decode cX7_warmth 67 = .ok (.idiv, 1) := by decide +kernel
theorem dX7_warmth_68 : decode cX7_warmth 68 = .ok (.ireturn, 1) := by decide +kernel
theorem dX7_out_0 : decode cX7_out 0 = .ok (.iload_n 1, 1) := by decide +kernel
theorem dX7_out_1 : decode cX7_out 1 = .ok (.iconst 0, 1) := by decide +kernel
theorem dX7_out_2 : decode cX7_out 2 = .ok (.bipush 6, 2) := by decide +kernel
theorem dX7_out_4 : decode cX7_out 4 = .ok (.invokestatic 125, 3) := by decide +kernel
theorem dX7_out_7 : decode cX7_out 7 = .ok (.ifCond .ne 7, 3) := by decide +kernel
theorem dX7_out_10 : decode cX7_out 10 = .ok (.iconst (-1), 1) := by decide +kernel
theorem dX7_out_11 : decode cX7_out 11 = .ok (.goto 21, 3) := by decide +kernel
theorem dX7_out_14 : decode cX7_out 14 = .ok (.aload_n 0, 1) := by decide +kernel
