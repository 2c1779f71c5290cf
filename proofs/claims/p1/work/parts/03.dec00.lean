theorem dX4_addHall_0 : decode cX4_addHall 0 = .ok (.aload_n 0, 1) := by decide +kernel
theorem dX4_addHall_1 : decode cX4_addHall 1 = .ok (.getfield 31, 3) := by decide +kernel
theorem dX4_addHall_4 : decode cX4_addHall 4 = .ok (.bipush 6, 2) := by decide +kernel
theorem dX4_addHall_6 : decode cX4_addHall 6 = .ok (.if_icmp .lt 5, 3) := by decide +kernel
theorem dX4_addHall_11 : decode cX4_addHall 11 = .ok (.aload_n 0, 1) := by decide +kernel
theorem dX4_addHall_12 : decode cX4_addHall 12 = .ok (.dup, 1) := by decide +kernel
theorem dX4_addHall_13 : decode cX4_addHall 13 = .ok (.getfield 31, 3) := by decide +kernel
theorem dX4_addHall_16 : decode cX4_addHall 16 = .ok (.iconst 1, 1) := by decide +kernel
theorem dX4_addHall_17 : decode cX4_addHall 17 = .ok (.iadd, 1) := by decide +kernel
theorem dX4_addHall_18 : decode cX4_addHall 18 = .ok (.putfield 31, 3) := by decide +kernel
theorem dX4_addHall_21 : decode cX4_addHall 21 = .ok (.aload_n 0, 1) := by decide +kernel
theorem dX4_addHall_22 : decode cX4_addHall 22 = .ok (.getfield 31, 3) := by decide +kernel
theorem dX4_addHall_25 : decode cX4_addHall 25 = .ok (.iconst 1, 1) := by decide +kernel
theorem dX4_addHall_26 : decode cX4_addHall 26 = .ok (.isub, 1) := by decide +kernel
theorem dX4_addHall_27 : decode cX4_addHall 27 = .ok (.ireturn, 1) := by decide +kernel
theorem dX4_isHall_0 : decode cX4_isHall 0 = .ok (.iload_n 1, 1) := by decide +kernel
theorem dX4_isHall_1 : decode cX4_isHall 1 = .ok (.ifCond .lt 15, 3) := by decide +kernel
theorem dX4_isHall_4 : decode cX4_isHall 4 = .ok (.iload_n 1, 1) := by decide +kernel
theorem dX4_isHall_5 : decode cX4_isHall 5 = .ok (.aload_n 0, 1) := by decide +kernel
theorem dX4_isHall_6 : decode cX4_isHall 6 = .ok (.getfield 31, 3) := by decide +kernel
theorem dX4_isHall_9 : decode cX4_isHall 9 = .ok (.if_icmp .ge 7, 3) := by decide +kernel
theorem dX4_isHall_12 : decode cX4_isHall 12 = .ok (.iconst 1, 1) := by decide +kernel
theorem dX4_isHall_13 : decode cX4_isHall 13 = .ok (.goto 4, 3) := by decide +kernel
theorem dX4_isHall_16 : decode cX4_isHall 16 = .ok (.iconst 0, 1) := by decide +kernel
theorem dX4_isHall_17 : decode cX4_isHall 17 = .ok (.ireturn, 1) := by decide +kernel
theorem dX4_addTrain_0 : decode cX4_addTrain 0 = .ok (.aload_n 0, 1) := by decide +kernel
theorem dX4_addTrain_1 : decode cX4_addTrain 1 = .ok (.getfield 35, 3) := by decide +kernel
theorem dX4_addTrain_4 : decode cX4_addTrain 4 = .ok (.bipush 16, 2) := by decide +kernel
theorem dX4_addTrain_6 : decode cX4_addTrain 6 = .ok (.if_icmp .ge 24, 3) := by decide +kernel
theorem dX4_addTrain_9 : decode cX4_addTrain 9 = .ok (.aload_n 0, 1) := by decide +kernel
theorem dX4_addTrain_10 : decode cX4_addTrain 10 = .ok (.iload_n 1, 1) := by decide +kernel
theorem dX4_addTrain_11 : decode cX4_addTrain 11 = .ok (.invokevirtual 38, 3) := by decide +kernel
theorem dX4_addTrain_14 : decode cX4_addTrain 14 = .ok (.ifCond .eq 16, 3) := by decide +kernel
theorem dX4_addTrain_17 : decode cX4_addTrain 17 = .ok (.aload_n 0, 1) := by decide +kernel
theorem dX4_addTrain_18 : decode cX4_addTrain 18 = .ok (.iload_n 2, 1) := by decide +kernel
theorem dX4_addTrain_19 : decode cX4_addTrain 19 = .ok (.invokevirtual 38, 3) := by decide +kernel
theorem dX4_addTrain_22 : decode cX4_addTrain 22 = .ok (.ifCond .eq 8, 3) := by decide +kernel
theorem dX4_addTrain_25 : decode cX4_addTrain 25 = .ok (.iload_n 1, 1) := by decide +kernel
theorem dX4_addTrain_26 : decode cX4_addTrain 26 = .ok (.iload_n 2, 1) := by decide +kernel
theorem dX4_addTrain_27 : decode cX4_addTrain 27 = .ok (.if_icmp .ne 5, 3) := by decide +kernel
theorem dX4_addTrain_30 : decode cX4_addTrain 30 = .ok (.iconst (-1), 1) := by decide +kernel
theorem dX4_addTrain_31 : decode cX4_addTrain 31 = .ok (.ireturn, 1) := by decide +kernel
theorem dX11_hall_0 : decode cX11_hall 0 = .ok (.aload_n 0, 1) := by decide +kernel
theorem dX11_hall_1 : decode cX11_hall 1 = .ok (.getfield 35, 3) := by decide +kernel
theorem dX11_hall_4 : decode cX11_hall 4 = .ok (.invokevirtual 126, 3) := by decide +kernel
theorem dX11_hall_7 : decode cX11_hall 7 = .ok (.ireturn, 1) := by decide +kernel
theorem dX11_train_0 : decode cX11_train 0 = .ok (.aload_n 0, 1) := by decide +kernel
theorem dX11_train_1 : decode cX11_train 1 = .ok (.getfield 35, 3) := by decide +kernel
theorem dX11_train_4 : decode cX11_train 4 = .ok (.iload_n 1, 1) := by decide +kernel
theorem dX11_train_5 : decode cX11_train 5 = .ok (.iload_n 2, 1) := by decide +kernel
theorem dX11_train_6 : decode cX11_train 6 = .ok (.iload_n 3, 1) := by decide +kernel
theorem dX11_train_7 : decode cX11_train 7 = .ok (.iload 4, 2) := by decide +kernel
theorem dX11_train_9 : decode cX11_train 9 = .ok (.invokevirtual 130, 3) := by decide +kernel
theorem dX11_train_12 : decode cX11_train 12 = .ok (.ireturn, 1) := by decide +kernel
theorem dX12_hall_0 : decode cX12_hall 0 = .ok (.aload_n 0, 1) := by decide +kernel
theorem dX12_hall_1 : decode cX12_hall 1 = .ok (.getfield 201, 3) := by decide +kernel
theorem dX12_hall_4 : decode cX12_hall 4 = .ok (.bipush 6, 2) := by decide +kernel
theorem dX12_hall_6 : decode cX12_hall 6 = .ok (.if_icmp .ne 5, 3) := by decide +kernel
theorem dX12_hall_11 : decode cX12_hall 11 = .ok (.aload_n 0, 1) := by decide +kernel
theorem dX12_hall_12 : decode cX12_hall 12 = .ok (.dup, 1) := by decide +kernel
theorem dX12_hall_13 : decode cX12_hall 13 = .ok (.getfield 201, 3) := by decide +kernel
theorem dX12_hall_16 : decode cX12_hall 16 = .ok (.iconst 1, 1) := by decide +kernel
theorem dX12_hall_17 : decode cX12_hall 17 = .ok (.iadd, 1) := by decide +kernel
theorem dX12_hall_18 : decode cX12_hall 18 = .ok (.putfield 201, 3) := by decide +kernel
theorem dX12_hall_21 : decode cX12_hall 21 = .ok (.aload_n 0, 1) := by decide +kernel
theorem dX12_hall_22 : decode cX12_hall 22 = .ok (.getfield 201, 3) := by decide +kernel
theorem dX12_hall_25 : decode cX12_hall 25 = .ok (.iconst 1, 1) := by decide +kernel
theorem dX12_hall_26 : decode cX12_hall 26 = .ok (.isub, 1) := by decide +kernel
theorem dX12_hall_27 : decode cX12_hall 27 = .ok (.ireturn, 1) := by decide +kernel
