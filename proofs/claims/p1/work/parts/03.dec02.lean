theorem dX10_valueOf_45 : decode cX10_valueOf 45 = .ok (.invokestatic 51, 3) := by decide +kernel
theorem dX10_valueOf_48 : decode cX10_valueOf 48 = .ok (.ifCond .eq 18, 3) := by decide +kernel
theorem dX10_valueOf_66 : decode cX10_valueOf 66 = .ok (.iinc 5 1, 3) := by decide +kernel
theorem dX10_valueOf_69 : decode cX10_valueOf 69 = .ok (.goto (-64), 3) := by decide +kernel
theorem dX10_valueOf_72 : decode cX10_valueOf 72 = .ok (.lload_n 3, 1) := by decide +kernel
theorem dX10_valueOf_73 : decode cX10_valueOf 73 = .ok (.lreturn, 1) := by decide +kernel
theorem dX11_init_0 : decode cX11_init 0 = .ok (.aload_n 0, 1) := by decide +kernel
theorem dX11_init_1 : decode cX11_init 1 = .ok (.invokespecial 1, 3) := by decide +kernel
theorem dX11_init_4 : decode cX11_init 4 = .ok (.aload_n 0, 1) := by decide +kernel
theorem dX11_init_5 : decode cX11_init 5 = .ok (.new 7, 3) := by decide +kernel
theorem dX11_init_8 : decode cX11_init 8 = .ok (.dup, 1) := by decide +kernel
theorem dX11_init_9 : decode cX11_init 9 = .ok (.invokespecial 9, 3) := by decide +kernel
theorem dX11_init_12 : decode cX11_init 12 = .ok (.putfield 10, 3) := by decide +kernel
theorem dX11_init_15 : decode cX11_init 15 = .ok (.aload_n 0, 1) := by decide +kernel
theorem dX11_init_16 : decode cX11_init 16 = .ok (.new 16, 3) := by decide +kernel
theorem dX11_init_19 : decode cX11_init 19 = .ok (.dup, 1) := by decide +kernel
theorem dX11_init_20 : decode cX11_init 20 = .ok (.invokespecial 18, 3) := by decide +kernel
theorem dX11_init_23 : decode cX11_init 23 = .ok (.putfield 19, 3) := by decide +kernel
theorem dX11_init_26 : decode cX11_init 26 = .ok (.aload_n 0, 1) := by decide +kernel
theorem dX11_init_27 : decode cX11_init 27 = .ok (.new 23, 3) := by decide +kernel
theorem dX11_init_30 : decode cX11_init 30 = .ok (.dup, 1) := by decide +kernel
theorem dX11_init_31 : decode cX11_init 31 = .ok (.aload_n 0, 1) := by decide +kernel
theorem dX11_init_32 : decode cX11_init 32 = .ok (.getfield 19, 3) := by decide +kernel
theorem dX11_init_35 : decode cX11_init 35 = .ok (.invokespecial 25, 3) := by decide +kernel
theorem dX11_init_38 : decode cX11_init 38 = .ok (.putfield 28, 3) := by decide +kernel
theorem dX11_init_41 : decode cX11_init 41 = .ok (.aload_n 0, 1) := by decide +kernel
theorem dX11_init_42 : decode cX11_init 42 = .ok (.new 32, 3) := by decide +kernel
theorem dX11_init_45 : decode cX11_init 45 = .ok (.dup, 1) := by decide +kernel
theorem dX11_init_46 : decode cX11_init 46 = .ok (.invokespecial 34, 3) := by decide +kernel
theorem dX11_init_49 : decode cX11_init 49 = .ok (.putfield 35, 3) := by decide +kernel
theorem dX11_init_52 : decode cX11_init 52 = .ok (.aload_n 0, 1) := by decide +kernel
theorem dX11_init_53 : decode cX11_init 53 = .ok (.new 39, 3) := by decide +kernel
theorem dX11_init_56 : decode cX11_init 56 = .ok (.dup, 1) := by decide +kernel
theorem dX11_init_57 : decode cX11_init 57 = .ok (.invokespecial 41, 3) := by decide +kernel
theorem dX11_init_60 : decode cX11_init 60 = .ok (.putfield 42, 3) := by decide +kernel
theorem dX11_init_63 : decode cX11_init 63 = .ok (.aload_n 0, 1) := by decide +kernel
theorem dX11_init_64 : decode cX11_init 64 = .ok (.new 46, 3) := by decide +kernel
theorem dX11_init_67 : decode cX11_init 67 = .ok (.dup, 1) := by decide +kernel
theorem dX11_init_68 : decode cX11_init 68 = .ok (.invokespecial 48, 3) := by decide +kernel
theorem dX11_init_71 : decode cX11_init 71 = .ok (.putfield 49, 3) := by decide +kernel
theorem dX11_init_74 : decode cX11_init 74 = .ok (.aload_n 0, 1) := by decide +kernel
theorem dX11_init_75 : decode cX11_init 75 = .ok (.new 53, 3) := by decide +kernel
theorem dX11_init_78 : decode cX11_init 78 = .ok (.dup, 1) := by decide +kernel
theorem dX11_init_79 : decode cX11_init 79 = .ok (.new 55, 3) := by decide +kernel
theorem dX11_init_82 : decode cX11_init 82 = .ok (.dup, 1) := by decide +kernel
theorem dX11_init_83 : decode cX11_init 83 = .ok (.invokespecial 57, 3) := by decide +kernel
theorem dX11_init_86 : decode cX11_init 86 = .ok (.invokespecial 58, 3) := by decide +kernel
theorem dX11_init_89 : decode cX11_init 89 = .ok (.putfield 61, 3) := by decide +kernel
theorem dX11_init_92 : decode cX11_init 92 = .ok (.aload_n 0, 1) := by decide +kernel
theorem dX11_init_93 : decode cX11_init 93 = .ok (.new 65, 3) := by decide +kernel
theorem dX11_init_96 : decode cX11_init 96 = .ok (.dup, 1) := by decide +kernel
theorem dX11_init_97 : decode cX11_init 97 = .ok (.aload_n 0, 1) := by decide +kernel
theorem dX11_init_98 : decode cX11_init 98 = .ok (.getfield 61, 3) := by decide +kernel
theorem dX11_init_101 : decode cX11_init 101 = .ok (.aload_n 0, 1) := by decide +kernel
theorem dX11_init_102 : decode cX11_init 102 = .ok (.getfield 42, 3) := by decide +kernel
theorem dX11_init_105 : decode cX11_init 105 = .ok (.aload_n 0, 1) := by decide +kernel
theorem dX11_init_106 : decode cX11_init 106 = .ok (.getfield 49, 3) := by decide +kernel
theorem dX11_init_109 : decode cX11_init 109 = .ok (.aload_n 0, 1) := by decide +kernel
theorem dX11_init_110 : decode cX11_init 110 = .ok (.getfield 35, 3) := by decide +kernel
theorem dX11_init_113 : decode cX11_init 113 = .ok (.invokespecial 67, 3) := by decide +kernel
theorem dX11_init_116 : decode cX11_init 116 = .ok (.putfield 70, 3) := by decide +kernel
theorem dX11_init_119 : decode cX11_init 119 = .ok (.aload_n 0, 1) := by decide +kernel
theorem dX11_init_120 : decode cX11_init 120 = .ok (.new 74, 3) := by decide +kernel
theorem dX11_init_123 : decode cX11_init 123 = .ok (.dup, 1) := by decide +kernel
theorem dX11_init_124 : decode cX11_init 124 = .ok (.invokespecial 76, 3) := by decide +kernel
theorem dX11_init_127 : decode cX11_init 127 = .ok (.putfield 77, 3) := by decide +kernel
theorem dX11_init_130 : decode cX11_init 130 = .ok (.aload_n 0, 1) := by decide +kernel
theorem dX11_init_131 : decode cX11_init 131 = .ok (.new 55, 3) := by decide +kernel
theorem dX11_init_134 : decode cX11_init 134 = .ok (.dup, 1) := by decide +kernel
theorem dX11_init_135 : decode cX11_init 135 = .ok (.invokespecial 57, 3) := by decide +kernel
theorem dX11_init_138 : decode cX11_init 138 = .ok (.putfield 81, 3) := by decide +kernel
theorem dX11_init_141 : decode cX11_init 141 = .ok (.aload_n 0, 1) := by decide +kernel
theorem dX11_init_142 : decode cX11_init 142 = .ok (.new 85, 3) := by decide +kernel
theorem dX11_init_145 : decode cX11_init 145 = .ok (.dup, 1) := by decide +kernel
theorem dX11_init_146 : decode cX11_init 146 = .ok (.invokespecial 87, 3) := by decide +kernel
theorem dX11_init_149 : decode cX11_init 149 = .ok (.putfield 88, 3) := by decide +kernel
theorem dX11_init_152 : decode cX11_init 152 = .ok (.aload_n 0, 1) := by decide +kernel
theorem dX11_init_153 : decode cX11_init 153 = .ok (.new 85, 3) := by decide +kernel
theorem dX11_init_156 : decode cX11_init 156 = .ok (.dup, 1) := by decide +kernel
theorem dX11_init_157 : decode cX11_init 157 = .ok (.invokespecial 87, 3) := by decide +kernel
theorem dX11_init_160 : decode cX11_init 160 = .ok (.putfield 92, 3) := by decide +kernel
theorem dX11_init_163 : decode cX11_init 163 = .ok (.aload_n 0, 1) := by decide +kernel
theorem dX11_init_164 : decode cX11_init 164 = .ok (.iconst 0, 1) := by decide +kernel
theorem dX11_init_165 : decode cX11_init 165 = .ok (.putfield 95, 3) := by decide +kernel
theorem dX11_init_168 : decode cX11_init 168 = .ok (.return_, 1) := by decide +kernel
theorem dX11_feed_0 : decode cX11_feed 0 = .ok (.aload_n 0, 1) := by decide +kernel
theorem dX11_feed_1 : decode cX11_feed 1 = .ok (.getfield 10, 3) := by decide +kernel
theorem dX11_feed_4 : decode cX11_feed 4 = .ok (.getfield 99, 3) := by decide +kernel
theorem dX11_feed_7 : decode cX11_feed 7 = .ok (.sipush 2980, 3) := by decide +kernel
theorem dX11_feed_10 : decode cX11_feed 10 = .ok (.if_icmp .le 5, 3) := by decide +kernel
theorem dX11_feed_15 : decode cX11_feed 15 = .ok (.aload_n 0, 1) := by decide +kernel
theorem dX11_feed_16 : decode cX11_feed 16 = .ok (.getfield 10, 3) := by decide +kernel
theorem dX11_feed_19 : decode cX11_feed 19 = .ok (.iload_n 1, 1) := by decide +kernel
theorem dX11_feed_20 : decode cX11_feed 20 = .ok (.invokevirtual 103, 3) := by decide +kernel
theorem dX11_feed_23 : decode cX11_feed 23 = .ok (.aload_n 0, 1) := by decide +kernel
theorem dX11_feed_24 : decode cX11_feed 24 = .ok (.getfield 10, 3) := by decide +kernel
theorem dX11_feed_27 : decode cX11_feed 27 = .ok (.iload_n 2, 1) := by decide +kernel
theorem dX11_feed_28 : decode cX11_feed 28 = .ok (.invokevirtual 103, 3) := by decide +kernel
theorem dX11_feed_31 : decode cX11_feed 31 = .ok (.aload_n 0, 1) := by decide +kernel
theorem dX11_feed_32 : decode cX11_feed 32 = .ok (.getfield 10, 3) := by decide +kernel
theorem dX11_feed_35 : decode cX11_feed 35 = .ok (.iload_n 3, 1) := by decide +kernel
theorem dX11_feed_36 : decode cX11_feed 36 = .ok (.invokevirtual 103, 3) := by decide +kernel
theorem dX11_feed_39 : decode cX11_feed 39 = .ok (.aload_n 0, 1) := by decide +kernel
theorem dX11_feed_40 : decode cX11_feed 40 = .ok (.getfield 10, 3) := by decide +kernel
theorem dX11_feed_43 : decode cX11_feed 43 = .ok (.iload 4, 2) := by decide +kernel
theorem dX11_feed_45 : decode cX11_feed 45 = .ok (.invokevirtual 103, 3) := by decide +kernel
theorem dX11_feed_48 : decode cX11_feed 48 = .ok (.aload_n 0, 1) := by decide +kernel
theorem dX11_feed_49 : decode cX11_feed 49 = .ok (.getfield 10, 3) := by decide +kernel
theorem dX11_feed_52 : decode cX11_feed 52 = .ok (.iload 5, 2) := by decide +kernel
theorem dX11_feed_54 : decode cX11_feed 54 = .ok (.invokevirtual 103, 3) := by decide +kernel
theorem dX11_feed_57 : decode cX11_feed 57 = .ok (.aload_n 0, 1) := by decide +kernel
theorem dX11_feed_58 : decode cX11_feed 58 = .ok (.getfield 10, 3) := by decide +kernel
theorem dX11_feed_61 : decode cX11_feed 61 = .ok (.getfield 99, 3) := by decide +kernel
theorem dX11_feed_64 : decode cX11_feed 64 = .ok (.ireturn, 1) := by decide +kernel
theorem dX11_back_0 : decode cX11_back 0 = .ok (.iload_n 1, 1) := by decide +kernel
theorem dX11_back_1 : decode cX11_back 1 = .ok (.ifCond .lt 14, 3) := by decide +kernel
theorem dX11_back_4 : decode cX11_back 4 = .ok (.iload_n 1, 1) := by decide +kernel
theorem dX11_back_5 : decode cX11_back 5 = .ok (.aload_n 0, 1) := by decide +kernel
theorem dX11_back_6 : decode cX11_back 6 = .ok (.getfield 10, 3) := by decide +kernel
theorem dX11_back_9 : decode cX11_back 9 = .ok (.getfield 99, 3) := by decide +kernel
theorem dX11_back_12 : decode cX11_back 12 = .ok (.if_icmp .le 5, 3) := by decide +kernel
theorem dX11_back_15 : decode cX11_back 15 = .ok (.iconst (-1), 1) := by decide +kernel
theorem dX11_back_16 : decode cX11_back 16 = .ok (.ireturn, 1) := by decide +kernel
theorem dX11_back_17 : decode cX11_back 17 = .ok (.aload_n 0, 1) := by decide +kernel
theorem dX11_back_18 : decode cX11_back 18 = .ok (.getfield 10, 3) := by decide +kernel
theorem dX11_back_21 : decode cX11_back 21 = .ok (.dup, 1) := by decide +kernel
theorem dX11_back_22 : decode cX11_back 22 = .ok (.getfield 99, 3) := by decide +kernel
theorem dX11_back_25 : decode cX11_back 25 = .ok (.iload_n 1, 1) := by decide +kernel
theorem dX11_back_26 : decode cX11_back 26 = .ok (.isub, 1) := by decide +kernel
theorem dX11_back_27 : decode cX11_back 27 = .ok (.putfield 99, 3) := by decide +kernel
theorem dX11_back_30 : decode cX11_back 30 = .ok (.aload_n 0, 1) := by decide +kernel
theorem dX11_back_31 : decode cX11_back 31 = .ok (.getfield 10, 3) := by decide +kernel
theorem dX11_back_34 : decode cX11_back 34 = .ok (.getfield 99, 3) := by decide +kernel
theorem dX11_back_37 : decode cX11_back 37 = .ok (.ireturn, 1) := by decide +kernel
theorem dX11_read_0 : decode cX11_read 0 = .ok (.aload_n 0, 1) := by decide +kernel
theorem dX11_read_1 : decode cX11_read 1 = .ok (.getfield 19, 3) := by decide +kernel
theorem dX11_read_4 : decode cX11_read 4 = .ok (.aload_n 0, 1) := by decide +kernel
theorem dX11_read_5 : decode cX11_read 5 = .ok (.getfield 10, 3) := by decide +kernel
theorem dX11_read_8 : decode cX11_read 8 = .ok (.invokevirtual 107, 3) := by decide +kernel
theorem dX11_read_11 : decode cX11_read 11 = .ok (.aload_n 0, 1) := by decide +kernel
theorem dX11_read_12 : decode cX11_read 12 = .ok (.getfield 10, 3) := by decide +kernel
theorem dX11_read_15 : decode cX11_read 15 = .ok (.iconst 0, 1) := by decide +kernel
theorem dX11_read_16 : decode cX11_read 16 = .ok (.putfield 99, 3) := by decide +kernel
theorem dX11_read_19 : decode cX11_read 19 = .ok (.aload_n 0, 1) := by decide +kernel
theorem dX11_read_20 : decode cX11_read 20 = .ok (.getfield 28, 3) := by decide +kernel
theorem dX11_read_23 : decode cX11_read 23 = .ok (.aload_n 0, 1) := by decide +kernel
theorem dX11_read_24 : decode cX11_read 24 = .ok (.getfield 81, 3) := by decide +kernel
theorem dX11_read_27 : decode cX11_read 27 = .ok (.invokevirtual 111, 3) := by decide +kernel
theorem dX11_read_30 : decode cX11_read 30 = .ok (.aload_n 0, 1) := by decide +kernel
theorem dX11_read_31 : decode cX11_read 31 = .ok (.getfield 28, 3) := by decide +kernel
theorem dX11_read_34 : decode cX11_read 34 = .ok (.getfield 114, 3) := by decide +kernel
theorem dX11_read_37 : decode cX11_read 37 = .ok (.ifCond .ne 32, 3) := by decide +kernel
theorem dX11_read_40 : decode cX11_read 40 = .ok (.aload_n 0, 1) := by decide +kernel
theorem dX11_read_41 : decode cX11_read 41 = .ok (.getfield 61, 3) := by decide +kernel
theorem dX11_read_44 : decode cX11_read 44 = .ok (.getfield 117, 3) := by decide +kernel
theorem dX11_read_47 : decode cX11_read 47 = .ok (.astore_n 1, 1) := by decide +kernel
theorem dX11_read_48 : decode cX11_read 48 = .ok (.aload_n 0, 1) := by decide +kernel
theorem dX11_read_49 : decode cX11_read 49 = .ok (.getfield 61, 3) := by decide +kernel
theorem dX11_read_52 : decode cX11_read 52 = .ok (.aload_n 0, 1) := by decide +kernel
theorem dX11_read_53 : decode cX11_read 53 = .ok (.getfield 81, 3) := by decide +kernel
theorem dX11_read_56 : decode cX11_read 56 = .ok (.invokevirtual 120, 3) := by decide +kernel
theorem dX11_read_59 : decode cX11_read 59 = .ok (.aload_n 0, 1) := by decide +kernel
theorem dX11_read_60 : decode cX11_read 60 = .ok (.aload_n 1, 1) := by decide +kernel
theorem dX11_read_61 : decode cX11_read 61 = .ok (.putfield 81, 3) := by decide +kernel
theorem dX11_read_64 : decode cX11_read 64 = .ok (.aload_n 0, 1) := by decide +kernel
theorem dX11_read_65 : decode cX11_read 65 = .ok (.iconst 0, 1) := by decide +kernel
theorem dX11_read_66 : decode cX11_read 66 = .ok (.putfield 95, 3) := by decide +kernel
theorem dX11_read_69 : decode cX11_read 69 = .ok (.aload_n 0, 1) := by decide +kernel
theorem dX11_read_70 : decode cX11_read 70 = .ok (.getfield 28, 3) := by decide +kernel
theorem dX11_read_73 : decode cX11_read 73 = .ok (.getfield 114, 3) := by decide +kernel
theorem dX11_read_76 : decode cX11_read 76 = .ok (.ireturn, 1) := by decide +kernel
theorem dX11_place_0 : decode cX11_place 0 = .ok (.aload_n 0, 1) := by decide +kernel
theorem dX11_place_1 : decode cX11_place 1 = .ok (.getfield 28, 3) := by decide +kernel
theorem dX11_place_4 : decode cX11_place 4 = .ok (.getfield 123, 3) := by decide +kernel
theorem dX11_place_7 : decode cX11_place 7 = .ok (.ireturn, 1) := by decide +kernel
theorem dX11_hall_0 : decode cX11_hall 0 = .ok (.aload_n 0, 1) := by decide +kernel
theorem dX11_hall_1 : decode cX11_hall 1 = .ok (.getfield 35, 3) := by decide +kernel
theorem dX11_hall_4 : decode cX11_hall 4 = .ok (.invokevirtual 126, 3) := by decide +kernel
theorem dX11_hall_7 : decode cX11_hall 7 = .ok (.ireturn, 1) := by decide +kernel
theorem dX11_train_0 : decode cX11_train 0 = .ok (.aload_n 0, 1) := by decide +kernel
theorem dX11_train_1 : decode cX11_train 1 = .ok (.getfield 35, 3) := by decide +kernel
theorem dX11_train_4 : decode cX11_train 4 = .ok (.iload_n 1, 1) := by decide +kernel
theorem dX11_train_5 : decode cX11_train 5 = .ok (.iload_n 2, 1) := by decide +kernel
theorem dX11_train_6 : decode cX11_train 6 = .ok (.iload_n 3, 1) := by decide +kernel
theorem dX11_train_7 : decode cX11_train 7 = .ok (.iload 4, 2) := by decide +kernel
theorem dX11_train_9 : decode cX11_train 9 = .ok (.invokevirtual 130, 3) := by decide +kernel
theorem dX11_train_12 : decode cX11_train 12 = .ok (.ireturn, 1) := by decide +kernel
theorem dX11_plate_0 : decode cX11_plate 0 = .ok (.aload_n 0, 1) := by decide +kernel
theorem dX11_plate_1 : decode cX11_plate 1 = .ok (.getfield 42, 3) := by decide +kernel
theorem dX11_plate_4 : decode cX11_plate 4 = .ok (.iload_n 1, 1) := by decide +kernel
theorem dX11_plate_5 : decode cX11_plate 5 = .ok (.invokevirtual 134, 3) := by decide +kernel
theorem dX11_plate_8 : decode cX11_plate 8 = .ok (.ireturn, 1) := by decide +kernel
theorem dX11_cleaning_0 : decode cX11_cleaning 0 = .ok (.iload_n 1, 1) := by decide +kernel
theorem dX11_cleaning_1 : decode cX11_cleaning 1 = .ok (.ifCond .lt 9, 3) := by decide +kernel
theorem dX11_cleaning_4 : decode cX11_cleaning 4 = .ok (.iload_n 1, 1) := by decide +kernel
theorem dX11_cleaning_5 : decode cX11_cleaning 5 = .ok (.bipush 24, 2) := by decide +kernel
theorem dX11_cleaning_7 : decode cX11_cleaning 7 = .ok (.if_icmp .le 5, 3) := by decide +kernel
theorem dX11_cleaning_10 : decode cX11_cleaning 10 = .ok (.iconst 0, 1) := by decide +kernel
theorem dX11_cleaning_11 : decode cX11_cleaning 11 = .ok (.ireturn, 1) := by decide +kernel
theorem dX11_cleaning_12 : decode cX11_cleaning 12 = .ok (.aload_n 0, 1) := by decide +kernel
theorem dX11_cleaning_13 : decode cX11_cleaning 13 = .ok (.getfield 70, 3) := by decide +kernel
theorem dX11_cleaning_16 : decode cX11_cleaning 16 = .ok (.iload_n 1, 1) := by decide +kernel
theorem dX11_cleaning_17 : decode cX11_cleaning 17 = .ok (.putfield 138, 3) := by decide +kernel
theorem dX11_cleaning_20 : decode cX11_cleaning 20 = .ok (.iconst 1, 1) := by decide +kernel
theorem dX11_cleaning_21 : decode cX11_cleaning 21 = .ok (.ireturn, 1) := by decide +kernel
theorem dX11_cancel_0 : decode cX11_cancel 0 = .ok (.iload_n 1, 1) := by decide +kernel
theorem dX11_cancel_1 : decode cX11_cancel 1 = .ok (.ifCond .lt 24, 3) := by decide +kernel
theorem dX11_cancel_4 : decode cX11_cancel 4 = .ok (.iload_n 1, 1) := by decide +kernel
theorem dX11_cancel_5 : decode cX11_cancel 5 = .ok (.aload_n 0, 1) := by decide +kernel
theorem dX11_cancel_6 : decode cX11_cancel 6 = .ok (.getfield 35, 3) := by decide +kernel
theorem dX11_cancel_9 : decode cX11_cancel 9 = .ok (.getfield 141, 3) := by decide +kernel
theorem dX11_cancel_12 : decode cX11_cancel 12 = .ok (.if_icmp .ge 13, 3) := by decide +kernel
theorem dX11_cancel_25 : decode cX11_cancel 25 = .ok (.iconst (-1), 1) := by decide +kernel
theorem dX11_cancel_26 : decode cX11_cancel 26 = .ok (.ireturn, 1) := by decide +kernel
theorem dX11_look_0 : decode cX11_look 0 = .ok (.aload_n 0, 1) := by decide +kernel
theorem dX11_look_1 : decode cX11_look 1 = .ok (.iload_n 1, 1) := by decide +kernel
theorem dX11_look_2 : decode cX11_look 2 = .ok (.invokevirtual 147, 3) := by decide +kernel
theorem dX11_look_5 : decode cX11_look 5 = .ok (.ifCond .eq 11, 3) := by decide +kernel
theorem dX11_look_16 : decode cX11_look 16 = .ok (.iconst (-1), 1) := by decide +kernel
theorem dX11_look_17 : decode cX11_look 17 = .ok (.ireturn, 1) := by decide +kernel
theorem dX11_show_0 : decode cX11_show 0 = .ok (.aload_n 0, 1) := by decide +kernel
theorem dX11_show_1 : decode cX11_show 1 = .ok (.getfield 35, 3) := by decide +kernel
theorem dX11_show_4 : decode cX11_show 4 = .ok (.iload_n 2, 1) := by decide +kernel
theorem dX11_show_5 : decode cX11_show 5 = .ok (.invokevirtual 154, 3) := by decide +kernel
theorem dX11_show_8 : decode cX11_show 8 = .ok (.ifCond .ne 5, 3) := by decide +kernel
theorem dX11_show_11 : decode cX11_show 11 = .ok (.iconst (-1), 1) := by decide +kernel
theorem dX11_show_12 : decode cX11_show 12 = .ok (.ireturn, 1) := by decide +kernel
theorem dX11_show_13 : decode cX11_show 13 = .ok (.aload_n 0, 1) := by decide +kernel
theorem dX11_show_14 : decode cX11_show 14 = .ok (.getfield 61, 3) := by decide +kernel
theorem dX11_show_17 : decode cX11_show 17 = .ok (.iload_n 1, 1) := by decide +kernel
theorem dX11_show_18 : decode cX11_show 18 = .ok (.iload_n 2, 1) := by decide +kernel
theorem dX11_show_19 : decode cX11_show 19 = .ok (.iload_n 3, 1) := by decide +kernel
theorem dX11_show_20 : decode cX11_show 20 = .ok (.iload 4, 2) := by decide +kernel
theorem dX11_show_22 : decode cX11_show 22 = .ok (.iload 5, 2) := by decide +kernel
theorem dX11_show_24 : decode cX11_show 24 = .ok (.invokevirtual 157, 3) := by decide +kernel
theorem dX11_show_27 : decode cX11_show 27 = .ok (.ireturn, 1) := by decide +kernel
theorem dX11_way_0 : decode cX11_way 0 = .ok (.aload_n 0, 1) := by decide +kernel
theorem dX11_way_1 : decode cX11_way 1 = .ok (.getfield 35, 3) := by decide +kernel
theorem dX11_way_4 : decode cX11_way 4 = .ok (.iload_n 1, 1) := by decide +kernel
theorem dX11_way_5 : decode cX11_way 5 = .ok (.invokevirtual 154, 3) := by decide +kernel
theorem dX11_way_8 : decode cX11_way 8 = .ok (.ifCond .eq 34, 3) := by decide +kernel
theorem dX11_way_11 : decode cX11_way 11 = .ok (.aload_n 0, 1) := by decide +kernel
theorem dX11_way_12 : decode cX11_way 12 = .ok (.getfield 35, 3) := by decide +kernel
theorem dX11_way_15 : decode cX11_way 15 = .ok (.iload_n 2, 1) := by decide +kernel
theorem dX11_way_16 : decode cX11_way 16 = .ok (.invokevirtual 154, 3) := by decide +kernel
theorem dX11_way_19 : decode cX11_way 19 = .ok (.ifCond .eq 23, 3) := by decide +kernel
theorem dX11_way_22 : decode cX11_way 22 = .ok (.aload_n 0, 1) := by decide +kernel
theorem dX11_way_23 : decode cX11_way 23 = .ok (.iload_n 3, 1) := by decide +kernel
theorem dX11_way_24 : decode cX11_way 24 = .ok (.invokevirtual 151, 3) := by decide +kernel
theorem dX11_way_27 : decode cX11_way 27 = .ok (.ifCond .eq 15, 3) := by decide +kernel
theorem dX11_way_30 : decode cX11_way 30 = .ok (.aload_n 0, 1) := by decide +kernel
theorem dX11_way_31 : decode cX11_way 31 = .ok (.getfield 49, 3) := by decide +kernel
theorem dX11_way_34 : decode cX11_way 34 = .ok (.iload 4, 2) := by decide +kernel
theorem dX11_way_36 : decode cX11_way 36 = .ok (.invokevirtual 160, 3) := by decide +kernel
theorem dX11_way_39 : decode cX11_way 39 = .ok (.ifCond .ne 5, 3) := by decide +kernel
theorem dX11_way_42 : decode cX11_way 42 = .ok (.iconst (-1), 1) := by decide +kernel
theorem dX11_way_43 : decode cX11_way 43 = .ok (.ireturn, 1) := by decide +kernel
theorem dX11_way_44 : decode cX11_way 44 = .ok (.aload_n 0, 1) := by decide +kernel
theorem dX11_way_45 : decode cX11_way 45 = .ok (.getfield 35, 3) := by decide +kernel
theorem dX11_way_48 : decode cX11_way 48 = .ok (.aload_n 0, 1) := by decide +kernel
theorem dX11_way_49 : decode cX11_way 49 = .ok (.getfield 49, 3) := by decide +kernel
theorem dX11_way_52 : decode cX11_way 52 = .ok (.iload 4, 2) := by decide +kernel
theorem dX11_way_54 : decode cX11_way 54 = .ok (.invokevirtual 163, 3) := by decide +kernel
theorem dX11_way_57 : decode cX11_way 57 = .ok (.aload_n 0, 1) := by decide +kernel
theorem dX11_way_58 : decode cX11_way 58 = .ok (.getfield 35, 3) := by decide +kernel
theorem dX11_way_61 : decode cX11_way 61 = .ok (.iload_n 1, 1) := by decide +kernel
theorem dX11_way_62 : decode cX11_way 62 = .ok (.iload_n 2, 1) := by decide +kernel
theorem dX11_way_63 : decode cX11_way 63 = .ok (.iload_n 3, 1) := by decide +kernel
theorem dX11_way_64 : decode cX11_way 64 = .ok (.invokevirtual 167, 3) := by decide +kernel
theorem dX11_way_67 : decode cX11_way 67 = .ok (.ireturn, 1) := by decide +kernel
theorem dX11_broken_0 : decode cX11_broken 0 = .ok (.aload_n 0, 1) := by decide +kernel
theorem dX11_broken_1 : decode cX11_broken 1 = .ok (.iload_n 1, 1) := by decide +kernel
theorem dX11_broken_2 : decode cX11_broken 2 = .ok (.invokevirtual 147, 3) := by decide +kernel
theorem dX11_broken_5 : decode cX11_broken 5 = .ok (.ifCond .eq 22, 3) := by decide +kernel
theorem dX11_broken_27 : decode cX11_broken 27 = .ok (.iconst (-1), 1) := by decide +kernel
theorem dX11_broken_28 : decode cX11_broken 28 = .ok (.ireturn, 1) := by decide +kernel
theorem dX11_can_0 : decode cX11_can 0 = .ok (.iload_n 1, 1) := by decide +kernel
theorem dX11_can_1 : decode cX11_can 1 = .ok (.ifCond .lt 25, 3) := by decide +kernel
theorem dX11_can_4 : decode cX11_can 4 = .ok (.iload_n 1, 1) := by decide +kernel
theorem dX11_can_5 : decode cX11_can 5 = .ok (.aload_n 0, 1) := by decide +kernel
theorem dX11_can_6 : decode cX11_can 6 = .ok (.getfield 61, 3) := by decide +kernel
theorem dX11_can_9 : decode cX11_can 9 = .ok (.invokevirtual 174, 3) := by decide +kernel
theorem dX11_can_12 : decode cX11_can 12 = .ok (.if_icmp .gt 14, 3) := by decide +kernel
theorem dX11_can_15 : decode cX11_can 15 = .ok (.aload_n 0, 1) := by decide +kernel
theorem dX11_can_16 : decode cX11_can 16 = .ok (.getfield 49, 3) := by decide +kernel
theorem dX11_can_19 : decode cX11_can 19 = .ok (.iload_n 2, 1) := by decide +kernel
theorem dX11_can_20 : decode cX11_can 20 = .ok (.invokevirtual 160, 3) := by decide +kernel
theorem dX11_can_23 : decode cX11_can 23 = .ok (.ifCond .ne 5, 3) := by decide +kernel
theorem dX11_can_26 : decode cX11_can 26 = .ok (.iconst (-1), 1) := by decide +kernel
theorem dX11_can_27 : decode cX11_can 27 = .ok (.ireturn, 1) := by decide +kernel
theorem dX11_can_28 : decode cX11_can 28 = .ok (.aload_n 0, 1) := by decide +kernel
theorem dX11_can_29 : decode cX11_can 29 = .ok (.getfield 70, 3) := by decide +kernel
theorem dX11_can_32 : decode cX11_can 32 = .ok (.iload_n 2, 1) := by decide +kernel
theorem dX11_can_33 : decode cX11_can 33 = .ok (.invokevirtual 177, 3) := by decide +kernel
theorem dX11_can_36 : decode cX11_can 36 = .ok (.aload_n 0, 1) := by decide +kernel
theorem dX11_can_37 : decode cX11_can 37 = .ok (.getfield 70, 3) := by decide +kernel
theorem dX11_can_40 : decode cX11_can 40 = .ok (.iload_n 1, 1) := by decide +kernel
theorem dX11_can_41 : decode cX11_can 41 = .ok (.aload_n 0, 1) := by decide +kernel
theorem dX11_can_42 : decode cX11_can 42 = .ok (.getfield 92, 3) := by decide +kernel
theorem dX11_can_45 : decode cX11_can 45 = .ok (.invokevirtual 180, 3) := by decide +kernel
theorem dX11_can_48 : decode cX11_can 48 = .ok (.ifCond .eq 13, 3) := by decide +kernel
theorem dX11_can_51 : decode cX11_can 51 = .ok (.aload_n 0, 1) := by decide +kernel
theorem dX11_can_52 : decode cX11_can 52 = .ok (.getfield 92, 3) := by decide +kernel
theorem dX11_can_55 : decode cX11_can 55 = .ok (.getfield 184, 3) := by decide +kernel
theorem dX11_can_58 : decode cX11_can 58 = .ok (.goto 5, 3) := by decide +kernel
theorem dX11_can_63 : decode cX11_can 63 = .ok (.ireturn, 1) := by decide +kernel
theorem dX11_make_0 : decode cX11_make 0 = .ok (.aload_n 0, 1) := by decide +kernel
theorem dX11_make_1 : decode cX11_make 1 = .ok (.getfield 49, 3) := by decide +kernel
theorem dX11_make_4 : decode cX11_make 4 = .ok (.iload_n 1, 1) := by decide +kernel
theorem dX11_make_5 : decode cX11_make 5 = .ok (.invokevirtual 160, 3) := by decide +kernel
theorem dX11_make_8 : decode cX11_make 8 = .ok (.ifCond .ne 5, 3) := by decide +kernel
theorem dX11_make_11 : decode cX11_make 11 = .ok (.iconst (-1), 1) := by decide +kernel
theorem dX11_make_12 : decode cX11_make 12 = .ok (.ireturn, 1) := by decide +kernel
theorem dX11_make_13 : decode cX11_make 13 = .ok (.aload_n 0, 1) := by decide +kernel
theorem dX11_make_14 : decode cX11_make 14 = .ok (.iload_n 1, 1) := by decide +kernel
theorem dX11_make_15 : decode cX11_make 15 = .ok (.iconst (-1), 1) := by decide +kernel
theorem dX11_make_16 : decode cX11_make 16 = .ok (.invokevirtual 187, 3) := by decide +kernel
theorem dX11_make_19 : decode cX11_make 19 = .ok (.aload_n 0, 1) := by decide +kernel
theorem dX11_make_20 : decode cX11_make 20 = .ok (.iconst 1, 1) := by decide +kernel
theorem dX11_make_21 : decode cX11_make 21 = .ok (.putfield 95, 3) := by decide +kernel
theorem dX11_make_24 : decode cX11_make 24 = .ok (.aload_n 0, 1) := by decide +kernel
theorem dX11_make_25 : decode cX11_make 25 = .ok (.getfield 88, 3) := by decide +kernel
theorem dX11_make_28 : decode cX11_make 28 = .ok (.getfield 184, 3) := by decide +kernel
theorem dX11_make_31 : decode cX11_make 31 = .ok (.ireturn, 1) := by decide +kernel
theorem dX11_mend_0 : decode cX11_mend 0 = .ok (.aload_n 0, 1) := by decide +kernel
theorem dX11_mend_1 : decode cX11_mend 1 = .ok (.getfield 95, 3) := by decide +kernel
theorem dX11_mend_4 : decode cX11_mend 4 = .ok (.ifCond .eq 14, 3) := by decide +kernel
theorem dX11_mend_18 : decode cX11_mend 18 = .ok (.iconst (-1), 1) := by decide +kernel
theorem dX11_mend_19 : decode cX11_mend 19 = .ok (.ireturn, 1) := by decide +kernel
theorem dX11_told_0 : decode cX11_told 0 = .ok (.aload_n 0, 1) := by decide +kernel
theorem dX11_told_1 : decode cX11_told 1 = .ok (.getfield 61, 3) := by decide +kernel
theorem dX11_told_4 : decode cX11_told 4 = .ok (.iload_n 1, 1) := by decide +kernel
theorem dX11_told_5 : decode cX11_told 5 = .ok (.invokevirtual 197, 3) := by decide +kernel
theorem dX11_told_8 : decode cX11_told 8 = .ok (.ifCond .ne 5, 3) := by decide +kernel
theorem dX11_told_11 : decode cX11_told 11 = .ok (.iconst (-1), 1) := by decide +kernel
theorem dX11_told_12 : decode cX11_told 12 = .ok (.ireturn, 1) := by decide +kernel
theorem dX11_cue_0 : decode cX11_cue 0 = .ok (.aload_n 0, 1) := by decide +kernel
theorem dX11_cue_1 : decode cX11_cue 1 = .ok (.iload_n 1, 1) := by decide +kernel
theorem dX11_cue_2 : decode cX11_cue 2 = .ok (.invokevirtual 216, 3) := by decide +kernel
theorem dX11_cue_5 : decode cX11_cue 5 = .ok (.ifCond .eq 19, 3) := by decide +kernel
theorem dX11_cue_24 : decode cX11_cue 24 = .ok (.iconst (-1), 1) := by decide +kernel
theorem dX11_cue_25 : decode cX11_cue 25 = .ok (.ireturn, 1) := by decide +kernel
theorem dX11_showing_0 : decode cX11_showing 0 = .ok (.aload_n 0, 1) := by decide +kernel
theorem dX11_showing_1 : decode cX11_showing 1 = .ok (.iload_n 1, 1) := by decide +kernel
theorem dX11_showing_2 : decode cX11_showing 2 = .ok (.invokevirtual 216, 3) := by decide +kernel
theorem dX11_showing_5 : decode cX11_showing 5 = .ok (.ifCond .ne 5, 3) := by decide +kernel
theorem dX11_showing_8 : decode cX11_showing 8 = .ok (.iconst (-1), 1) := by decide +kernel
theorem dX11_showing_9 : decode cX11_showing 9 = .ok (.ireturn, 1) := by decide +kernel
theorem dX11_blame_0 : decode cX11_blame 0 = .ok (.aload_n 0, 1) := by decide +kernel
theorem dX11_blame_1 : decode cX11_blame 1 = .ok (.getfield 95, 3) := by decide +kernel
theorem dX11_blame_4 : decode cX11_blame 4 = .ok (.ifCond .eq 22, 3) := by decide +kernel
theorem dX11_blame_26 : decode cX11_blame 26 = .ok (.iconst (-1), 1) := by decide +kernel
theorem dX11_blame_27 : decode cX11_blame 27 = .ok (.ireturn, 1) := by decide +kernel
theorem dX11_where_0 : decode cX11_where 0 = .ok (.aload_n 0, 1) := by decide +kernel
theorem dX11_where_1 : decode cX11_where 1 = .ok (.getfield 95, 3) := by decide +kernel
theorem dX11_where_4 : decode cX11_where 4 = .ok (.ifCond .eq 19, 3) := by decide +kernel
theorem dX11_where_23 : decode cX11_where 23 = .ok (.iconst (-1), 1) := by decide +kernel
theorem dX11_where_24 : decode cX11_where 24 = .ok (.ireturn, 1) := by decide +kernel
theorem dX11_count_0 : decode cX11_count 0 = .ok (.iload_n 1, 1) := by decide +kernel
theorem dX11_count_1 : decode cX11_count 1 = .ok (.tableswitch 174 0 9 #[55, 63, 71, 79, 87, 98, 106, 128, 147, 166], 55) := by decide +kernel
theorem dX11_count_56 : decode cX11_count 56 = .ok (.aload_n 0, 1) := by decide +kernel
theorem dX11_count_57 : decode cX11_count 57 = .ok (.getfield 35, 3) := by decide +kernel
theorem dX11_count_60 : decode cX11_count 60 = .ok (.getfield 285, 3) := by decide +kernel
theorem dX11_count_63 : decode cX11_count 63 = .ok (.ireturn, 1) := by decide +kernel
theorem dX11_count_64 : decode cX11_count 64 = .ok (.aload_n 0, 1) := by decide +kernel
theorem dX11_count_65 : decode cX11_count 65 = .ok (.getfield 35, 3) := by decide +kernel
theorem dX11_count_68 : decode cX11_count 68 = .ok (.getfield 141, 3) := by decide +kernel
theorem dX11_count_71 : decode cX11_count 71 = .ok (.ireturn, 1) := by decide +kernel
theorem dX11_count_72 : decode cX11_count 72 = .ok (.aload_n 0, 1) := by decide +kernel
theorem dX11_count_73 : decode cX11_count 73 = .ok (.getfield 42, 3) := by decide +kernel
theorem dX11_count_76 : decode cX11_count 76 = .ok (.getfield 287, 3) := by decide +kernel
theorem dX11_count_79 : decode cX11_count 79 = .ok (.ireturn, 1) := by decide +kernel
theorem dX11_count_80 : decode cX11_count 80 = .ok (.aload_n 0, 1) := by decide +kernel
theorem dX11_count_81 : decode cX11_count 81 = .ok (.getfield 49, 3) := by decide +kernel
theorem dX11_count_84 : decode cX11_count 84 = .ok (.getfield 290, 3) := by decide +kernel
theorem dX11_count_87 : decode cX11_count 87 = .ok (.ireturn, 1) := by decide +kernel
theorem dX11_count_88 : decode cX11_count 88 = .ok (.aload_n 0, 1) := by decide +kernel
theorem dX11_count_89 : decode cX11_count 89 = .ok (.getfield 61, 3) := by decide +kernel
theorem dX11_count_92 : decode cX11_count 92 = .ok (.getfield 117, 3) := by decide +kernel
theorem dX11_count_95 : decode cX11_count 95 = .ok (.getfield 291, 3) := by decide +kernel
theorem dX11_count_98 : decode cX11_count 98 = .ok (.ireturn, 1) := by decide +kernel
theorem dX11_count_99 : decode cX11_count 99 = .ok (.aload_n 0, 1) := by decide +kernel
theorem dX11_count_100 : decode cX11_count 100 = .ok (.getfield 61, 3) := by decide +kernel
theorem dX11_count_103 : decode cX11_count 103 = .ok (.getfield 292, 3) := by decide +kernel
theorem dX11_count_106 : decode cX11_count 106 = .ok (.ireturn, 1) := by decide +kernel
theorem dX11_count_107 : decode cX11_count 107 = .ok (.aload_n 0, 1) := by decide +kernel
theorem dX11_count_108 : decode cX11_count 108 = .ok (.getfield 95, 3) := by decide +kernel
theorem dX11_count_111 : decode cX11_count 111 = .ok (.ifCond .eq 16, 3) := by decide +kernel
theorem dX11_count_127 : decode cX11_count 127 = .ok (.iconst (-1), 1) := by decide +kernel
theorem dX11_count_128 : decode cX11_count 128 = .ok (.ireturn, 1) := by decide +kernel
theorem dX11_count_129 : decode cX11_count 129 = .ok (.aload_n 0, 1) := by decide +kernel
theorem dX11_count_130 : decode cX11_count 130 = .ok (.getfield 95, 3) := by decide +kernel
theorem dX11_count_133 : decode cX11_count 133 = .ok (.ifCond .eq 13, 3) := by decide +kernel
theorem dX11_count_146 : decode cX11_count 146 = .ok (.iconst (-1), 1) := by decide +kernel
theorem dX11_count_147 : decode cX11_count 147 = .ok (.ireturn, 1) := by decide +kernel
theorem dX11_count_148 : decode cX11_count 148 = .ok (.aload_n 0, 1) := by decide +kernel
theorem dX11_count_149 : decode cX11_count 149 = .ok (.getfield 95, 3) := by decide +kernel
theorem dX11_count_152 : decode cX11_count 152 = .ok (.ifCond .eq 13, 3) := by decide +kernel
theorem dX11_count_165 : decode cX11_count 165 = .ok (.iconst (-1), 1) := by decide +kernel
theorem dX11_count_166 : decode cX11_count 166 = .ok (.ireturn, 1) := by decide +kernel
