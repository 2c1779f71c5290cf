theorem dX12_isKnown_4 : decode cX12_isKnown 4 = .ok (.iload_n 1, 1) := by decide +kernel
theorem dX12_isKnown_5 : decode cX12_isKnown 5 = .ok (.aload_n 0, 1) := by decide +kernel
theorem dX12_isKnown_6 : decode cX12_isKnown 6 = .ok (.getfield 323, 3) := by decide +kernel
theorem dX12_isKnown_9 : decode cX12_isKnown 9 = .ok (.if_icmp .gt 7, 3) := by decide +kernel
theorem dX12_isKnown_12 : decode cX12_isKnown 12 = .ok (.iconst 1, 1) := by decide +kernel
theorem dX12_isKnown_13 : decode cX12_isKnown 13 = .ok (.goto 4, 3) := by decide +kernel
theorem dX12_isKnown_16 : decode cX12_isKnown 16 = .ok (.iconst 0, 1) := by decide +kernel
theorem dX12_isKnown_17 : decode cX12_isKnown 17 = .ok (.ireturn, 1) := by decide +kernel
theorem dX12_hall_0 : decode cX12_hall 0 = .ok (.aload_n 0, 1) := by decide +kernel
theorem dX12_hall_1 : decode cX12_hall 1 = .ok (.getfield 201, 3) := by decide +kernel
theorem dX12_hall_4 : decode cX12_hall 4 = .ok (.bipush 6, 2) := by decide +kernel
theorem dX12_hall_6 : decode cX12_hall 6 = .ok (.if_icmp .ne 5, 3) := by decide +kernel
theorem dX12_hall_11 : decode cX12_hall 11 = .ok (.aload_n 0, 1) := by decide +kernel
theorem dX12_hall_12 : decode cX12_hall 12 = .ok (.dup, 1) := by decide +kernel
theorem dX12_hall_13 : decode cX12_hall 13 = .ok (.getfield 201, 3) := by decide +kernel
theorem dX12_hall_16 : decode cX12_hall 16 = .ok (.iconst 1, 1) := by decide +kernel
theorem dX12_hall_17 : decode cX12_hall 17 = .ok (.iadd, 1) := by decide +kernel
theorem dX12_hall_18 : decode cX12_hall 18 = .ok (.putfield 201, 3) := by decide +kernel
theorem dX12_hall_21 : decode cX12_hall 21 = .ok (.aload_n 0, 1) := by decide +kernel
theorem dX12_hall_22 : decode cX12_hall 22 = .ok (.getfield 201, 3) := by decide +kernel
theorem dX12_hall_25 : decode cX12_hall 25 = .ok (.iconst 1, 1) := by decide +kernel
theorem dX12_hall_26 : decode cX12_hall 26 = .ok (.isub, 1) := by decide +kernel
theorem dX12_hall_27 : decode cX12_hall 27 = .ok (.ireturn, 1) := by decide +kernel
theorem dX12_train_0 : decode cX12_train 0 = .ok (.aload_n 0, 1) := by decide +kernel
theorem dX12_train_1 : decode cX12_train 1 = .ok (.getfield 326, 3) := by decide +kernel
theorem dX12_train_4 : decode cX12_train 4 = .ok (.bipush 16, 2) := by decide +kernel
theorem dX12_train_6 : decode cX12_train 6 = .ok (.if_icmp .eq 47, 3) := by decide +kernel
theorem dX12_train_9 : decode cX12_train 9 = .ok (.aload_n 0, 1) := by decide +kernel
theorem dX12_train_10 : decode cX12_train 10 = .ok (.iload_n 1, 1) := by decide +kernel
theorem dX12_train_11 : decode cX12_train 11 = .ok (.invokevirtual 329, 3) := by decide +kernel
theorem dX12_train_14 : decode cX12_train 14 = .ok (.ifCond .eq 39, 3) := by decide +kernel
theorem dX12_train_17 : decode cX12_train 17 = .ok (.aload_n 0, 1) := by decide +kernel
theorem dX12_train_18 : decode cX12_train 18 = .ok (.iload_n 2, 1) := by decide +kernel
theorem dX12_train_19 : decode cX12_train 19 = .ok (.invokevirtual 329, 3) := by decide +kernel
theorem dX12_train_22 : decode cX12_train 22 = .ok (.ifCond .eq 31, 3) := by decide +kernel
theorem dX12_train_25 : decode cX12_train 25 = .ok (.iload_n 1, 1) := by decide +kernel
theorem dX12_train_26 : decode cX12_train 26 = .ok (.iload_n 2, 1) := by decide +kernel
theorem dX12_train_27 : decode cX12_train 27 = .ok (.if_icmp .eq 26, 3) := by decide +kernel
theorem dX12_train_53 : decode cX12_train 53 = .ok (.iconst (-1), 1) := by decide +kernel
theorem dX12_train_54 : decode cX12_train 54 = .ok (.ireturn, 1) := by decide +kernel
theorem dX12_plate_0 : decode cX12_plate 0 = .ok (.aload_n 0, 1) := by decide +kernel
theorem dX12_plate_1 : decode cX12_plate 1 = .ok (.getfield 320, 3) := by decide +kernel
theorem dX12_plate_4 : decode cX12_plate 4 = .ok (.bipush 20, 2) := by decide +kernel
theorem dX12_plate_6 : decode cX12_plate 6 = .ok (.if_icmp .eq 13, 3) := by decide +kernel
theorem dX12_plate_9 : decode cX12_plate 9 = .ok (.iload_n 1, 1) := by decide +kernel
theorem dX12_plate_10 : decode cX12_plate 10 = .ok (.ifCond .lt 9, 3) := by decide +kernel
theorem dX12_plate_13 : decode cX12_plate 13 = .ok (.iload_n 1, 1) := by decide +kernel
theorem dX12_plate_14 : decode cX12_plate 14 = .ok (.bipush 29, 2) := by decide +kernel
theorem dX12_plate_16 : decode cX12_plate 16 = .ok (.if_icmp .le 5, 3) := by decide +kernel
theorem dX12_plate_19 : decode cX12_plate 19 = .ok (.iconst (-1), 1) := by decide +kernel
theorem dX12_plate_20 : decode cX12_plate 20 = .ok (.ireturn, 1) := by decide +kernel
theorem dX12_plate_21 : decode cX12_plate 21 = .ok (.aload_n 0, 1) := by decide +kernel
theorem dX12_plate_22 : decode cX12_plate 22 = .ok (.getfield 116, 3) := by decide +kernel
theorem dX12_plate_25 : decode cX12_plate 25 = .ok (.aload_n 0, 1) := by decide +kernel
theorem dX12_plate_26 : decode cX12_plate 26 = .ok (.getfield 320, 3) := by decide +kernel
theorem dX12_plate_29 : decode cX12_plate 29 = .ok (.iload_n 1, 1) := by decide +kernel
theorem dX12_plate_30 : decode cX12_plate 30 = .ok (.iastore, 1) := by decide +kernel
theorem dX12_plate_31 : decode cX12_plate 31 = .ok (.aload_n 0, 1) := by decide +kernel
theorem dX12_plate_32 : decode cX12_plate 32 = .ok (.dup, 1) := by decide +kernel
theorem dX12_plate_33 : decode cX12_plate 33 = .ok (.getfield 320, 3) := by decide +kernel
theorem dX12_plate_36 : decode cX12_plate 36 = .ok (.iconst 1, 1) := by decide +kernel
theorem dX12_plate_37 : decode cX12_plate 37 = .ok (.iadd, 1) := by decide +kernel
theorem dX12_plate_38 : decode cX12_plate 38 = .ok (.putfield 320, 3) := by decide +kernel
theorem dX12_plate_41 : decode cX12_plate 41 = .ok (.aload_n 0, 1) := by decide +kernel
theorem dX12_plate_42 : decode cX12_plate 42 = .ok (.getfield 320, 3) := by decide +kernel
theorem dX12_plate_45 : decode cX12_plate 45 = .ok (.iconst 1, 1) := by decide +kernel
theorem dX12_plate_46 : decode cX12_plate 46 = .ok (.isub, 1) := by decide +kernel
theorem dX12_plate_47 : decode cX12_plate 47 = .ok (.ireturn, 1) := by decide +kernel
theorem dX12_cleaning_0 : decode cX12_cleaning 0 = .ok (.iload_n 1, 1) := by decide +kernel
theorem dX12_cleaning_1 : decode cX12_cleaning 1 = .ok (.ifCond .lt 9, 3) := by decide +kernel
theorem dX12_cleaning_4 : decode cX12_cleaning 4 = .ok (.iload_n 1, 1) := by decide +kernel
theorem dX12_cleaning_5 : decode cX12_cleaning 5 = .ok (.bipush 24, 2) := by decide +kernel
theorem dX12_cleaning_7 : decode cX12_cleaning 7 = .ok (.if_icmp .le 5, 3) := by decide +kernel
theorem dX12_cleaning_10 : decode cX12_cleaning 10 = .ok (.iconst 0, 1) := by decide +kernel
theorem dX12_cleaning_11 : decode cX12_cleaning 11 = .ok (.ireturn, 1) := by decide +kernel
theorem dX12_cleaning_12 : decode cX12_cleaning 12 = .ok (.aload_n 0, 1) := by decide +kernel
theorem dX12_cleaning_13 : decode cX12_cleaning 13 = .ok (.iload_n 1, 1) := by decide +kernel
theorem dX12_cleaning_14 : decode cX12_cleaning 14 = .ok (.putfield 332, 3) := by decide +kernel
theorem dX12_cleaning_17 : decode cX12_cleaning 17 = .ok (.iconst 1, 1) := by decide +kernel
theorem dX12_cleaning_18 : decode cX12_cleaning 18 = .ok (.ireturn, 1) := by decide +kernel
theorem dX12_cancel_0 : decode cX12_cancel 0 = .ok (.aload_n 0, 1) := by decide +kernel
theorem dX12_cancel_1 : decode cX12_cancel 1 = .ok (.getfield 323, 3) := by decide +kernel
theorem dX12_cancel_4 : decode cX12_cancel 4 = .ok (.sipush 300, 3) := by decide +kernel
theorem dX12_cancel_7 : decode cX12_cancel 7 = .ok (.if_icmp .eq 25, 3) := by decide +kernel
theorem dX12_cancel_10 : decode cX12_cancel 10 = .ok (.iload_n 1, 1) := by decide +kernel
theorem dX12_cancel_11 : decode cX12_cancel 11 = .ok (.ifCond .lt 21, 3) := by decide +kernel
theorem dX12_cancel_14 : decode cX12_cancel 14 = .ok (.iload_n 1, 1) := by decide +kernel
theorem dX12_cancel_15 : decode cX12_cancel 15 = .ok (.aload_n 0, 1) := by decide +kernel
theorem dX12_cancel_16 : decode cX12_cancel 16 = .ok (.getfield 326, 3) := by decide +kernel
theorem dX12_cancel_19 : decode cX12_cancel 19 = .ok (.if_icmp .ge 13, 3) := by decide +kernel
theorem dX12_cancel_32 : decode cX12_cancel 32 = .ok (.iconst (-1), 1) := by decide +kernel
theorem dX12_cancel_33 : decode cX12_cancel 33 = .ok (.goto 10, 3) := by decide +kernel
theorem dX12_cancel_43 : decode cX12_cancel 43 = .ok (.ireturn, 1) := by decide +kernel
theorem dX12_look_0 : decode cX12_look 0 = .ok (.aload_n 0, 1) := by decide +kernel
theorem dX12_look_1 : decode cX12_look 1 = .ok (.getfield 323, 3) := by decide +kernel
theorem dX12_look_4 : decode cX12_look 4 = .ok (.sipush 300, 3) := by decide +kernel
theorem dX12_look_7 : decode cX12_look 7 = .ok (.if_icmp .eq 18, 3) := by decide +kernel
theorem dX12_look_10 : decode cX12_look 10 = .ok (.aload_n 0, 1) := by decide +kernel
theorem dX12_look_11 : decode cX12_look 11 = .ok (.iload_n 1, 1) := by decide +kernel
theorem dX12_look_12 : decode cX12_look 12 = .ok (.invokevirtual 338, 3) := by decide +kernel
theorem dX12_look_15 : decode cX12_look 15 = .ok (.ifCond .eq 10, 3) := by decide +kernel
theorem dX12_look_25 : decode cX12_look 25 = .ok (.iconst (-1), 1) := by decide +kernel
theorem dX12_look_26 : decode cX12_look 26 = .ok (.goto 18, 3) := by decide +kernel
theorem dX12_look_44 : decode cX12_look 44 = .ok (.ireturn, 1) := by decide +kernel
theorem dX12_broken_0 : decode cX12_broken 0 = .ok (.aload_n 0, 1) := by decide +kernel
theorem dX12_broken_1 : decode cX12_broken 1 = .ok (.iload_n 1, 1) := by decide +kernel
theorem dX12_broken_2 : decode cX12_broken 2 = .ok (.invokevirtual 338, 3) := by decide +kernel
theorem dX12_broken_5 : decode cX12_broken 5 = .ok (.ifCond .eq 36, 3) := by decide +kernel
theorem dX12_broken_41 : decode cX12_broken 41 = .ok (.iconst (-1), 1) := by decide +kernel
theorem dX12_broken_42 : decode cX12_broken 42 = .ok (.ireturn, 1) := by decide +kernel
theorem dX12_knows_0 : decode cX12_knows 0 = .ok (.aload_n 0, 1) := by decide +kernel
theorem dX12_knows_1 : decode cX12_knows 1 = .ok (.getfield 128, 3) := by decide +kernel
theorem dX12_knows_4 : decode cX12_knows 4 = .ok (.iload_n 1, 1) := by decide +kernel
theorem dX12_knows_5 : decode cX12_knows 5 = .ok (.if_icmp .ne 4, 3) := by decide +kernel
theorem dX12_knows_9 : decode cX12_knows 9 = .ok (.iconst 0, 1) := by decide +kernel
theorem dX12_knows_10 : decode cX12_knows 10 = .ok (.istore_n 2, 1) := by decide +kernel
theorem dX12_knows_11 : decode cX12_knows 11 = .ok (.iload_n 2, 1) := by decide +kernel
theorem dX12_knows_12 : decode cX12_knows 12 = .ok (.sipush 656, 3) := by decide +kernel
theorem dX12_knows_15 : decode cX12_knows 15 = .ok (.if_icmp .ge 16, 3) := by decide +kernel
theorem dX12_knows_18 : decode cX12_knows 18 = .ok (.aload_n 0, 1) := by decide +kernel
theorem dX12_knows_19 : decode cX12_knows 19 = .ok (.getfield 131, 3) := by decide +kernel
theorem dX12_knows_22 : decode cX12_knows 22 = .ok (.iload_n 2, 1) := by decide +kernel
theorem dX12_knows_23 : decode cX12_knows 23 = .ok (.iconst 0, 1) := by decide +kernel
theorem dX12_knows_24 : decode cX12_knows 24 = .ok (.bastore, 1) := by decide +kernel
theorem dX12_knows_25 : decode cX12_knows 25 = .ok (.iinc 2 1, 3) := by decide +kernel
theorem dX12_knows_28 : decode cX12_knows 28 = .ok (.goto (-17), 3) := by decide +kernel
theorem dX12_knows_31 : decode cX12_knows 31 = .ok (.iconst 0, 1) := by decide +kernel
theorem dX12_knows_32 : decode cX12_knows 32 = .ok (.istore_n 2, 1) := by decide +kernel
theorem dX12_knows_33 : decode cX12_knows 33 = .ok (.iload_n 2, 1) := by decide +kernel
theorem dX12_knows_34 : decode cX12_knows 34 = .ok (.iload_n 1, 1) := by decide +kernel
theorem dX12_knows_35 : decode cX12_knows 35 = .ok (.if_icmp .ge 40, 3) := by decide +kernel
theorem dX12_knows_75 : decode cX12_knows 75 = .ok (.aload_n 0, 1) := by decide +kernel
theorem dX12_knows_76 : decode cX12_knows 76 = .ok (.iload_n 1, 1) := by decide +kernel
theorem dX12_knows_77 : decode cX12_knows 77 = .ok (.putfield 128, 3) := by decide +kernel
theorem dX12_knows_80 : decode cX12_knows 80 = .ok (.return_, 1) := by decide +kernel
theorem dX12_wayTo_0 : decode cX12_wayTo 0 = .ok (.iload_n 3, 1) := by decide +kernel
theorem dX12_wayTo_1 : decode cX12_wayTo 1 = .ok (.bipush 24, 2) := by decide +kernel
theorem dX12_wayTo_3 : decode cX12_wayTo 3 = .ok (.idiv, 1) := by decide +kernel
theorem dX12_wayTo_4 : decode cX12_wayTo 4 = .ok (.bipush 60, 2) := by decide +kernel
theorem dX12_wayTo_6 : decode cX12_wayTo 6 = .ok (.iadd, 1) := by decide +kernel
theorem dX12_wayTo_7 : decode cX12_wayTo 7 = .ok (.istore 4, 2) := by decide +kernel
theorem dX12_wayTo_9 : decode cX12_wayTo 9 = .ok (.iconst 0, 1) := by decide +kernel
theorem dX12_wayTo_10 : decode cX12_wayTo 10 = .ok (.istore 5, 2) := by decide +kernel
theorem dX12_wayTo_12 : decode cX12_wayTo 12 = .ok (.iload 5, 2) := by decide +kernel
theorem dX12_wayTo_14 : decode cX12_wayTo 14 = .ok (.bipush 6, 2) := by decide +kernel
theorem dX12_wayTo_16 : decode cX12_wayTo 16 = .ok (.if_icmp .ge 19, 3) := by decide +kernel
theorem dX12_wayTo_19 : decode cX12_wayTo 19 = .ok (.aload_n 0, 1) := by decide +kernel
theorem dX12_wayTo_20 : decode cX12_wayTo 20 = .ok (.getfield 134, 3) := by decide +kernel
theorem dX12_wayTo_23 : decode cX12_wayTo 23 = .ok (.iload 5, 2) := by decide +kernel
theorem dX12_wayTo_25 : decode cX12_wayTo 25 = .ok (.ldc_w 351, 3) := by decide +kernel
theorem dX12_wayTo_28 : decode cX12_wayTo 28 = .ok (.iastore, 1) := by decide +kernel
theorem dX12_wayTo_29 : decode cX12_wayTo 29 = .ok (.iinc 5 1, 3) := by decide +kernel
theorem dX12_wayTo_32 : decode cX12_wayTo 32 = .ok (.goto (-20), 3) := by decide +kernel
theorem dX12_wayTo_35 : decode cX12_wayTo 35 = .ok (.aload_n 0, 1) := by decide +kernel
theorem dX12_wayTo_36 : decode cX12_wayTo 36 = .ok (.getfield 134, 3) := by decide +kernel
theorem dX12_wayTo_39 : decode cX12_wayTo 39 = .ok (.iload_n 1, 1) := by decide +kernel
theorem dX12_wayTo_40 : decode cX12_wayTo 40 = .ok (.iload_n 3, 1) := by decide +kernel
theorem dX12_wayTo_41 : decode cX12_wayTo 41 = .ok (.iastore, 1) := by decide +kernel
theorem dX12_wayTo_42 : decode cX12_wayTo 42 = .ok (.iconst 1, 1) := by decide +kernel
theorem dX12_wayTo_43 : decode cX12_wayTo 43 = .ok (.istore 5, 2) := by decide +kernel
theorem dX12_wayTo_45 : decode cX12_wayTo 45 = .ok (.iload 5, 2) := by decide +kernel
theorem dX12_wayTo_47 : decode cX12_wayTo 47 = .ok (.ifCond .eq 107, 3) := by decide +kernel
theorem dX12_wayTo_50 : decode cX12_wayTo 50 = .ok (.iconst 0, 1) := by decide +kernel
theorem dX12_wayTo_51 : decode cX12_wayTo 51 = .ok (.istore 5, 2) := by decide +kernel
theorem dX12_wayTo_53 : decode cX12_wayTo 53 = .ok (.iconst 0, 1) := by decide +kernel
theorem dX12_wayTo_54 : decode cX12_wayTo 54 = .ok (.istore 6, 2) := by decide +kernel
theorem dX12_wayTo_56 : decode cX12_wayTo 56 = .ok (.iload 6, 2) := by decide +kernel
theorem dX12_wayTo_58 : decode cX12_wayTo 58 = .ok (.aload_n 0, 1) := by decide +kernel
theorem dX12_wayTo_59 : decode cX12_wayTo 59 = .ok (.getfield 326, 3) := by decide +kernel
theorem dX12_wayTo_62 : decode cX12_wayTo 62 = .ok (.if_icmp .ge 89, 3) := by decide +kernel
theorem dX12_wayTo_151 : decode cX12_wayTo 151 = .ok (.goto (-106), 3) := by decide +kernel
theorem dX12_wayTo_154 : decode cX12_wayTo 154 = .ok (.aload_n 0, 1) := by decide +kernel
theorem dX12_wayTo_155 : decode cX12_wayTo 155 = .ok (.getfield 134, 3) := by decide +kernel
theorem dX12_wayTo_158 : decode cX12_wayTo 158 = .ok (.iload_n 2, 1) := by decide +kernel
theorem dX12_wayTo_159 : decode cX12_wayTo 159 = .ok (.iaload, 1) := by decide +kernel
theorem dX12_wayTo_160 : decode cX12_wayTo 160 = .ok (.ireturn, 1) := by decide +kernel
theorem dX12_way_0 : decode cX12_way 0 = .ok (.aload_n 0, 1) := by decide +kernel
theorem dX12_way_1 : decode cX12_way 1 = .ok (.iload_n 1, 1) := by decide +kernel
theorem dX12_way_2 : decode cX12_way 2 = .ok (.invokevirtual 329, 3) := by decide +kernel
theorem dX12_way_5 : decode cX12_way 5 = .ok (.ifCond .eq 27, 3) := by decide +kernel
theorem dX12_way_8 : decode cX12_way 8 = .ok (.aload_n 0, 1) := by decide +kernel
theorem dX12_way_9 : decode cX12_way 9 = .ok (.iload_n 2, 1) := by decide +kernel
theorem dX12_way_10 : decode cX12_way 10 = .ok (.invokevirtual 329, 3) := by decide +kernel
theorem dX12_way_13 : decode cX12_way 13 = .ok (.ifCond .eq 19, 3) := by decide +kernel
theorem dX12_way_16 : decode cX12_way 16 = .ok (.iload_n 3, 1) := by decide +kernel
theorem dX12_way_17 : decode cX12_way 17 = .ok (.invokestatic 341, 3) := by decide +kernel
theorem dX12_way_20 : decode cX12_way 20 = .ok (.ifCond .eq 12, 3) := by decide +kernel
theorem dX12_way_23 : decode cX12_way 23 = .ok (.aload_n 0, 1) := by decide +kernel
theorem dX12_way_24 : decode cX12_way 24 = .ok (.iload 4, 2) := by decide +kernel
theorem dX12_way_26 : decode cX12_way 26 = .ok (.invokevirtual 344, 3) := by decide +kernel
theorem dX12_way_29 : decode cX12_way 29 = .ok (.ifCond .ne 5, 3) := by decide +kernel
theorem dX12_way_32 : decode cX12_way 32 = .ok (.iconst (-1), 1) := by decide +kernel
theorem dX12_way_33 : decode cX12_way 33 = .ok (.ireturn, 1) := by decide +kernel
theorem dX12_way_34 : decode cX12_way 34 = .ok (.aload_n 0, 1) := by decide +kernel
theorem dX12_way_35 : decode cX12_way 35 = .ok (.iload 4, 2) := by decide +kernel
theorem dX12_way_37 : decode cX12_way 37 = .ok (.invokevirtual 355, 3) := by decide +kernel
theorem dX12_way_40 : decode cX12_way 40 = .ok (.aload_n 0, 1) := by decide +kernel
theorem dX12_way_41 : decode cX12_way 41 = .ok (.iload_n 1, 1) := by decide +kernel
theorem dX12_way_42 : decode cX12_way 42 = .ok (.iload_n 2, 1) := by decide +kernel
theorem dX12_way_43 : decode cX12_way 43 = .ok (.iload_n 3, 1) := by decide +kernel
theorem dX12_way_44 : decode cX12_way 44 = .ok (.invokevirtual 358, 3) := by decide +kernel
theorem dX12_way_47 : decode cX12_way 47 = .ok (.istore 5, 2) := by decide +kernel
theorem dX12_way_49 : decode cX12_way 49 = .ok (.iload 5, 2) := by decide +kernel
theorem dX12_way_51 : decode cX12_way 51 = .ok (.ldc_w 351, 3) := by decide +kernel
theorem dX12_way_54 : decode cX12_way 54 = .ok (.if_icmp .ne 7, 3) := by decide +kernel
theorem dX12_way_61 : decode cX12_way 61 = .ok (.iload 5, 2) := by decide +kernel
theorem dX12_way_63 : decode cX12_way 63 = .ok (.ireturn, 1) := by decide +kernel
theorem dX12_show_0 : decode cX12_show 0 = .ok (.aload_n 0, 1) := by decide +kernel
theorem dX12_show_1 : decode cX12_show 1 = .ok (.getfield 284, 3) := by decide +kernel
theorem dX12_show_4 : decode cX12_show 4 = .ok (.bipush 8, 2) := by decide +kernel
theorem dX12_show_6 : decode cX12_show 6 = .ok (.if_icmp .eq 64, 3) := by decide +kernel
theorem dX12_show_9 : decode cX12_show 9 = .ok (.iload_n 1, 1) := by decide +kernel
theorem dX12_show_10 : decode cX12_show 10 = .ok (.ifCond .lt 60, 3) := by decide +kernel
theorem dX12_show_13 : decode cX12_show 13 = .ok (.iload_n 1, 1) := by decide +kernel
theorem dX12_show_14 : decode cX12_show 14 = .ok (.bipush 27, 2) := by decide +kernel
theorem dX12_show_16 : decode cX12_show 16 = .ok (.if_icmp .gt 54, 3) := by decide +kernel
theorem dX12_show_19 : decode cX12_show 19 = .ok (.aload_n 0, 1) := by decide +kernel
theorem dX12_show_20 : decode cX12_show 20 = .ok (.iload_n 2, 1) := by decide +kernel
theorem dX12_show_21 : decode cX12_show 21 = .ok (.invokevirtual 329, 3) := by decide +kernel
theorem dX12_show_24 : decode cX12_show 24 = .ok (.ifCond .eq 46, 3) := by decide +kernel
theorem dX12_show_27 : decode cX12_show 27 = .ok (.iload_n 3, 1) := by decide +kernel
theorem dX12_show_28 : decode cX12_show 28 = .ok (.ifCond .lt 42, 3) := by decide +kernel
theorem dX12_show_31 : decode cX12_show 31 = .ok (.iload_n 3, 1) := by decide +kernel
theorem dX12_show_32 : decode cX12_show 32 = .ok (.aload_n 0, 1) := by decide +kernel
theorem dX12_show_33 : decode cX12_show 33 = .ok (.getfield 40, 3) := by decide +kernel
theorem dX12_show_36 : decode cX12_show 36 = .ok (.aload_n 0, 1) := by decide +kernel
theorem dX12_show_37 : decode cX12_show 37 = .ok (.getfield 272, 3) := by decide +kernel
theorem dX12_show_40 : decode cX12_show 40 = .ok (.iaload, 1) := by decide +kernel
theorem dX12_show_41 : decode cX12_show 41 = .ok (.if_icmp .ge 29, 3) := by decide +kernel
theorem dX12_show_70 : decode cX12_show 70 = .ok (.iconst (-1), 1) := by decide +kernel
theorem dX12_show_71 : decode cX12_show 71 = .ok (.ireturn, 1) := by decide +kernel
theorem dX12_keeps_0 : decode cX12_keeps 0 = .ok (.aload_n 0, 1) := by decide +kernel
theorem dX12_keeps_1 : decode cX12_keeps 1 = .ok (.iconst 0, 1) := by decide +kernel
theorem dX12_keeps_2 : decode cX12_keeps 2 = .ok (.putfield 361, 3) := by decide +kernel
theorem dX12_keeps_5 : decode cX12_keeps 5 = .ok (.aload_n 0, 1) := by decide +kernel
theorem dX12_keeps_6 : decode cX12_keeps 6 = .ok (.iconst 0, 1) := by decide +kernel
theorem dX12_keeps_7 : decode cX12_keeps 7 = .ok (.putfield 364, 3) := by decide +kernel
theorem dX12_keeps_10 : decode cX12_keeps 10 = .ok (.iconst 0, 1) := by decide +kernel
theorem dX12_keeps_11 : decode cX12_keeps 11 = .ok (.istore_n 3, 1) := by decide +kernel
theorem dX12_keeps_12 : decode cX12_keeps 12 = .ok (.iload_n 3, 1) := by decide +kernel
theorem dX12_keeps_13 : decode cX12_keeps 13 = .ok (.aload_n 0, 1) := by decide +kernel
theorem dX12_keeps_14 : decode cX12_keeps 14 = .ok (.getfield 320, 3) := by decide +kernel
theorem dX12_keeps_17 : decode cX12_keeps 17 = .ok (.if_icmp .ge 23, 3) := by decide +kernel
theorem dX12_keeps_40 : decode cX12_keeps 40 = .ok (.iconst 0, 1) := by decide +kernel
theorem dX12_keeps_41 : decode cX12_keeps 41 = .ok (.istore_n 3, 1) := by decide +kernel
theorem dX12_keeps_42 : decode cX12_keeps 42 = .ok (.iload_n 3, 1) := by decide +kernel
theorem dX12_keeps_43 : decode cX12_keeps 43 = .ok (.bipush 28, 2) := by decide +kernel
theorem dX12_keeps_45 : decode cX12_keeps 45 = .ok (.if_icmp .ge 60, 3) := by decide +kernel
theorem dX12_keeps_48 : decode cX12_keeps 48 = .ok (.iconst 0, 1) := by decide +kernel
theorem dX12_keeps_49 : decode cX12_keeps 49 = .ok (.istore 4, 2) := by decide +kernel
theorem dX12_keeps_51 : decode cX12_keeps 51 = .ok (.iload 4, 2) := by decide +kernel
theorem dX12_keeps_53 : decode cX12_keeps 53 = .ok (.aload_n 0, 1) := by decide +kernel
theorem dX12_keeps_54 : decode cX12_keeps 54 = .ok (.getfield 284, 3) := by decide +kernel
theorem dX12_keeps_57 : decode cX12_keeps 57 = .ok (.if_icmp .ge 42, 3) := by decide +kernel
theorem dX12_keeps_99 : decode cX12_keeps 99 = .ok (.iinc 3 1, 3) := by decide +kernel
theorem dX12_keeps_102 : decode cX12_keeps 102 = .ok (.goto (-60), 3) := by decide +kernel
theorem dX12_keeps_105 : decode cX12_keeps 105 = .ok (.iconst 1, 1) := by decide +kernel
theorem dX12_keeps_106 : decode cX12_keeps 106 = .ok (.ireturn, 1) := by decide +kernel
theorem dX12_worthOf_0 : decode cX12_worthOf 0 = .ok (.iconst 0, 1) := by decide +kernel
theorem dX12_worthOf_1 : decode cX12_worthOf 1 = .ok (.istore_n 2, 1) := by decide +kernel
theorem dX12_worthOf_2 : decode cX12_worthOf 2 = .ok (.iconst 0, 1) := by decide +kernel
theorem dX12_worthOf_3 : decode cX12_worthOf 3 = .ok (.istore_n 3, 1) := by decide +kernel
theorem dX12_worthOf_4 : decode cX12_worthOf 4 = .ok (.iload_n 3, 1) := by decide +kernel
theorem dX12_worthOf_5 : decode cX12_worthOf 5 = .ok (.aload_n 0, 1) := by decide +kernel
theorem dX12_worthOf_6 : decode cX12_worthOf 6 = .ok (.getfield 284, 3) := by decide +kernel
theorem dX12_worthOf_9 : decode cX12_worthOf 9 = .ok (.if_icmp .ge 27, 3) := by decide +kernel
theorem dX12_worthOf_36 : decode cX12_worthOf 36 = .ok (.iload_n 2, 1) := by decide +kernel
theorem dX12_worthOf_37 : decode cX12_worthOf 37 = .ok (.ireturn, 1) := by decide +kernel
theorem dX12_can_0 : decode cX12_can 0 = .ok (.iload_n 1, 1) := by decide +kernel
theorem dX12_can_1 : decode cX12_can 1 = .ok (.ifCond .lt 21, 3) := by decide +kernel
theorem dX12_can_4 : decode cX12_can 4 = .ok (.iload_n 1, 1) := by decide +kernel
theorem dX12_can_5 : decode cX12_can 5 = .ok (.iconst 1, 1) := by decide +kernel
theorem dX12_can_6 : decode cX12_can 6 = .ok (.aload_n 0, 1) := by decide +kernel
theorem dX12_can_7 : decode cX12_can 7 = .ok (.getfield 284, 3) := by decide +kernel
theorem dX12_can_10 : decode cX12_can 10 = .ok (.ishl, 1) := by decide +kernel
theorem dX12_can_11 : decode cX12_can 11 = .ok (.if_icmp .ge 11, 3) := by decide +kernel
theorem dX12_can_14 : decode cX12_can 14 = .ok (.aload_n 0, 1) := by decide +kernel
theorem dX12_can_15 : decode cX12_can 15 = .ok (.iload_n 2, 1) := by decide +kernel
theorem dX12_can_16 : decode cX12_can 16 = .ok (.invokevirtual 344, 3) := by decide +kernel
theorem dX12_can_19 : decode cX12_can 19 = .ok (.ifCond .ne 5, 3) := by decide +kernel
theorem dX12_can_22 : decode cX12_can 22 = .ok (.iconst (-1), 1) := by decide +kernel
theorem dX12_can_23 : decode cX12_can 23 = .ok (.ireturn, 1) := by decide +kernel
theorem dX12_can_24 : decode cX12_can 24 = .ok (.aload_n 0, 1) := by decide +kernel
theorem dX12_can_25 : decode cX12_can 25 = .ok (.iload_n 2, 1) := by decide +kernel
theorem dX12_can_26 : decode cX12_can 26 = .ok (.invokevirtual 355, 3) := by decide +kernel
theorem dX12_can_29 : decode cX12_can 29 = .ok (.aload_n 0, 1) := by decide +kernel
theorem dX12_can_30 : decode cX12_can 30 = .ok (.iload_n 1, 1) := by decide +kernel
theorem dX12_can_31 : decode cX12_can 31 = .ok (.iload_n 2, 1) := by decide +kernel
theorem dX12_can_32 : decode cX12_can 32 = .ok (.invokevirtual 375, 3) := by decide +kernel
theorem dX12_can_35 : decode cX12_can 35 = .ok (.ifCond .eq 11, 3) := by decide +kernel
theorem dX12_can_38 : decode cX12_can 38 = .ok (.aload_n 0, 1) := by decide +kernel
theorem dX12_can_39 : decode cX12_can 39 = .ok (.iload_n 1, 1) := by decide +kernel
theorem dX12_can_40 : decode cX12_can 40 = .ok (.invokevirtual 378, 3) := by decide +kernel
theorem dX12_can_43 : decode cX12_can 43 = .ok (.goto 5, 3) := by decide +kernel
theorem dX12_can_48 : decode cX12_can 48 = .ok (.ireturn, 1) := by decide +kernel
theorem dX12_makes_0 : decode cX12_makes 0 = .ok (.aload_n 0, 1) := by decide +kernel
theorem dX12_makes_1 : decode cX12_makes 1 = .ok (.iload_n 1, 1) := by decide +kernel
theorem dX12_makes_2 : decode cX12_makes 2 = .ok (.invokevirtual 355, 3) := by decide +kernel
theorem dX12_makes_5 : decode cX12_makes 5 = .ok (.iconst (-1), 1) := by decide +kernel
theorem dX12_makes_6 : decode cX12_makes 6 = .ok (.istore_n 3, 1) := by decide +kernel
theorem dX12_makes_7 : decode cX12_makes 7 = .ok (.iconst 0, 1) := by decide +kernel
theorem dX12_makes_8 : decode cX12_makes 8 = .ok (.istore 4, 2) := by decide +kernel
theorem dX12_makes_10 : decode cX12_makes 10 = .ok (.iconst 0, 1) := by decide +kernel
theorem dX12_makes_11 : decode cX12_makes 11 = .ok (.istore 5, 2) := by decide +kernel
theorem dX12_makes_13 : decode cX12_makes 13 = .ok (.iconst 0, 1) := by decide +kernel
theorem dX12_makes_14 : decode cX12_makes 14 = .ok (.istore 6, 2) := by decide +kernel
theorem dX12_makes_16 : decode cX12_makes 16 = .ok (.iload 6, 2) := by decide +kernel
theorem dX12_makes_18 : decode cX12_makes 18 = .ok (.iconst 1, 1) := by decide +kernel
theorem dX12_makes_19 : decode cX12_makes 19 = .ok (.aload_n 0, 1) := by decide +kernel
theorem dX12_makes_20 : decode cX12_makes 20 = .ok (.getfield 284, 3) := by decide +kernel
theorem dX12_makes_23 : decode cX12_makes 23 = .ok (.ishl, 1) := by decide +kernel
theorem dX12_makes_24 : decode cX12_makes 24 = .ok (.if_icmp .ge 79, 3) := by decide +kernel
theorem dX12_makes_27 : decode cX12_makes 27 = .ok (.iload_n 3, 1) := by decide +kernel
theorem dX12_makes_28 : decode cX12_makes 28 = .ok (.iconst (-1), 1) := by decide +kernel
theorem dX12_makes_29 : decode cX12_makes 29 = .ok (.if_icmp .eq 17, 3) := by decide +kernel
theorem dX12_makes_46 : decode cX12_makes 46 = .ok (.aload_n 0, 1) := by decide +kernel
theorem dX12_makes_47 : decode cX12_makes 47 = .ok (.iload 6, 2) := by decide +kernel
theorem dX12_makes_49 : decode cX12_makes 49 = .ok (.iload_n 1, 1) := by decide +kernel
theorem dX12_makes_50 : decode cX12_makes 50 = .ok (.invokevirtual 375, 3) := by decide +kernel
theorem dX12_makes_53 : decode cX12_makes 53 = .ok (.ifCond .ne 6, 3) := by decide +kernel
theorem dX12_makes_59 : decode cX12_makes 59 = .ok (.iload_n 3, 1) := by decide +kernel
theorem dX12_makes_60 : decode cX12_makes 60 = .ok (.iconst (-1), 1) := by decide +kernel
theorem dX12_makes_61 : decode cX12_makes 61 = .ok (.if_icmp .eq 21, 3) := by decide +kernel
theorem dX12_makes_82 : decode cX12_makes 82 = .ok (.iload 6, 2) := by decide +kernel
theorem dX12_makes_84 : decode cX12_makes 84 = .ok (.istore_n 3, 1) := by decide +kernel
theorem dX12_makes_85 : decode cX12_makes 85 = .ok (.aload_n 0, 1) := by decide +kernel
theorem dX12_makes_86 : decode cX12_makes 86 = .ok (.getfield 361, 3) := by decide +kernel
theorem dX12_makes_89 : decode cX12_makes 89 = .ok (.istore 4, 2) := by decide +kernel
theorem dX12_makes_91 : decode cX12_makes 91 = .ok (.aload_n 0, 1) := by decide +kernel
theorem dX12_makes_92 : decode cX12_makes 92 = .ok (.getfield 364, 3) := by decide +kernel
theorem dX12_makes_95 : decode cX12_makes 95 = .ok (.istore 5, 2) := by decide +kernel
theorem dX12_makes_97 : decode cX12_makes 97 = .ok (.iinc 6 1, 3) := by decide +kernel
theorem dX12_makes_100 : decode cX12_makes 100 = .ok (.goto (-84), 3) := by decide +kernel
theorem dX12_makes_103 : decode cX12_makes 103 = .ok (.aload_n 0, 1) := by decide +kernel
theorem dX12_makes_104 : decode cX12_makes 104 = .ok (.iload_n 3, 1) := by decide +kernel
theorem dX12_makes_105 : decode cX12_makes 105 = .ok (.iload_n 1, 1) := by decide +kernel
theorem dX12_makes_106 : decode cX12_makes 106 = .ok (.invokevirtual 375, 3) := by decide +kernel
theorem dX12_makes_109 : decode cX12_makes 109 = .ok (.istore 6, 2) := by decide +kernel
theorem dX12_makes_111 : decode cX12_makes 111 = .ok (.aload_n 0, 1) := by decide +kernel
theorem dX12_makes_112 : decode cX12_makes 112 = .ok (.iload_n 3, 1) := by decide +kernel
theorem dX12_makes_113 : decode cX12_makes 113 = .ok (.putfield 385, 3) := by decide +kernel
theorem dX12_makes_116 : decode cX12_makes 116 = .ok (.aload_n 0, 1) := by decide +kernel
theorem dX12_makes_117 : decode cX12_makes 117 = .ok (.iload 6, 2) := by decide +kernel
theorem dX12_makes_119 : decode cX12_makes 119 = .ok (.putfield 287, 3) := by decide +kernel
theorem dX12_makes_122 : decode cX12_makes 122 = .ok (.aload_n 0, 1) := by decide +kernel
theorem dX12_makes_123 : decode cX12_makes 123 = .ok (.aload_n 0, 1) := by decide +kernel
theorem dX12_makes_124 : decode cX12_makes 124 = .ok (.getfield 361, 3) := by decide +kernel
theorem dX12_makes_127 : decode cX12_makes 127 = .ok (.putfield 388, 3) := by decide +kernel
theorem dX12_makes_130 : decode cX12_makes 130 = .ok (.aload_n 0, 1) := by decide +kernel
theorem dX12_makes_131 : decode cX12_makes 131 = .ok (.aload_n 0, 1) := by decide +kernel
theorem dX12_makes_132 : decode cX12_makes 132 = .ok (.getfield 364, 3) := by decide +kernel
theorem dX12_makes_135 : decode cX12_makes 135 = .ok (.putfield 391, 3) := by decide +kernel
theorem dX12_makes_138 : decode cX12_makes 138 = .ok (.iconst 0, 1) := by decide +kernel
theorem dX12_makes_139 : decode cX12_makes 139 = .ok (.istore 7, 2) := by decide +kernel
theorem dX12_makes_141 : decode cX12_makes 141 = .ok (.iload 7, 2) := by decide +kernel
theorem dX12_makes_143 : decode cX12_makes 143 = .ok (.bipush 64, 2) := by decide +kernel
theorem dX12_makes_145 : decode cX12_makes 145 = .ok (.if_icmp .ge 65, 3) := by decide +kernel
theorem dX12_makes_148 : decode cX12_makes 148 = .ok (.aload_n 0, 1) := by decide +kernel
theorem dX12_makes_149 : decode cX12_makes 149 = .ok (.getfield 173, 3) := by decide +kernel
theorem dX12_makes_152 : decode cX12_makes 152 = .ok (.iload 7, 2) := by decide +kernel
theorem dX12_makes_154 : decode cX12_makes 154 = .ok (.aload_n 0, 1) := by decide +kernel
theorem dX12_makes_155 : decode cX12_makes 155 = .ok (.getfield 152, 3) := by decide +kernel
theorem dX12_makes_158 : decode cX12_makes 158 = .ok (.iload 7, 2) := by decide +kernel
theorem dX12_makes_160 : decode cX12_makes 160 = .ok (.iaload, 1) := by decide +kernel
theorem dX12_makes_161 : decode cX12_makes 161 = .ok (.iastore, 1) := by decide +kernel
theorem dX12_makes_162 : decode cX12_makes 162 = .ok (.aload_n 0, 1) := by decide +kernel
theorem dX12_makes_163 : decode cX12_makes 163 = .ok (.getfield 176, 3) := by decide +kernel
theorem dX12_makes_166 : decode cX12_makes 166 = .ok (.iload 7, 2) := by decide +kernel
theorem dX12_makes_168 : decode cX12_makes 168 = .ok (.aload_n 0, 1) := by decide +kernel
theorem dX12_makes_169 : decode cX12_makes 169 = .ok (.getfield 155, 3) := by decide +kernel
theorem dX12_makes_172 : decode cX12_makes 172 = .ok (.iload 7, 2) := by decide +kernel
theorem dX12_makes_174 : decode cX12_makes 174 = .ok (.iaload, 1) := by decide +kernel
theorem dX12_makes_175 : decode cX12_makes 175 = .ok (.iastore, 1) := by decide +kernel
theorem dX12_makes_176 : decode cX12_makes 176 = .ok (.aload_n 0, 1) := by decide +kernel
theorem dX12_makes_177 : decode cX12_makes 177 = .ok (.getfield 179, 3) := by decide +kernel
theorem dX12_makes_180 : decode cX12_makes 180 = .ok (.iload 7, 2) := by decide +kernel
theorem dX12_makes_182 : decode cX12_makes 182 = .ok (.aload_n 0, 1) := by decide +kernel
theorem dX12_makes_183 : decode cX12_makes 183 = .ok (.getfield 158, 3) := by decide +kernel
theorem dX12_makes_186 : decode cX12_makes 186 = .ok (.iload 7, 2) := by decide +kernel
theorem dX12_makes_188 : decode cX12_makes 188 = .ok (.iaload, 1) := by decide +kernel
theorem dX12_makes_189 : decode cX12_makes 189 = .ok (.iastore, 1) := by decide +kernel
theorem dX12_makes_190 : decode cX12_makes 190 = .ok (.aload_n 0, 1) := by decide +kernel
theorem dX12_makes_191 : decode cX12_makes 191 = .ok (.getfield 182, 3) := by decide +kernel
theorem dX12_makes_194 : decode cX12_makes 194 = .ok (.iload 7, 2) := by decide +kernel
theorem dX12_makes_196 : decode cX12_makes 196 = .ok (.aload_n 0, 1) := by decide +kernel
theorem dX12_makes_197 : decode cX12_makes 197 = .ok (.getfield 161, 3) := by decide +kernel
theorem dX12_makes_200 : decode cX12_makes 200 = .ok (.iload 7, 2) := by decide +kernel
theorem dX12_makes_202 : decode cX12_makes 202 = .ok (.iaload, 1) := by decide +kernel
theorem dX12_makes_203 : decode cX12_makes 203 = .ok (.iastore, 1) := by decide +kernel
theorem dX12_makes_204 : decode cX12_makes 204 = .ok (.iinc 7 1, 3) := by decide +kernel
theorem dX12_makes_207 : decode cX12_makes 207 = .ok (.goto (-66), 3) := by decide +kernel
theorem dX12_makes_210 : decode cX12_makes 210 = .ok (.return_, 1) := by decide +kernel
theorem dX12_make_0 : decode cX12_make 0 = .ok (.aload_n 0, 1) := by decide +kernel
theorem dX12_make_1 : decode cX12_make 1 = .ok (.iload_n 1, 1) := by decide +kernel
theorem dX12_make_2 : decode cX12_make 2 = .ok (.invokevirtual 344, 3) := by decide +kernel
theorem dX12_make_5 : decode cX12_make 5 = .ok (.ifCond .ne 5, 3) := by decide +kernel
theorem dX12_make_8 : decode cX12_make 8 = .ok (.iconst (-1), 1) := by decide +kernel
theorem dX12_make_9 : decode cX12_make 9 = .ok (.ireturn, 1) := by decide +kernel
theorem dX12_make_10 : decode cX12_make 10 = .ok (.aload_n 0, 1) := by decide +kernel
theorem dX12_make_11 : decode cX12_make 11 = .ok (.iload_n 1, 1) := by decide +kernel
