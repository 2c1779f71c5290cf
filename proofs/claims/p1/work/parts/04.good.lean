set_option maxRecDepth 20000 in
theorem ggX4_addTrain_X4_isHall : GoodIn wsX4_addTrain wsX4_isHall := goodIn_r _ [10, 11, 12, 13, 14, 15, 16, 17, 18, 19] (by decide +kernel) (by decide +kernel)
set_option maxRecDepth 20000 in
theorem gX4_addTrain_X4_isHall : GoodIn wsX4_addTrain (wsV RX4 38 RX4 yX4_isHall wsX4_isHall) := goodIn_app (goodIn_of _ (by decide +kernel)) ggX4_addTrain_X4_isHall
set_option maxRecDepth 20000 in
theorem ggX11_hall_X4_addHall : GoodIn wsX11_hall wsX4_addHall := goodIn_r _ [6, 7, 21, 22, 23, 24, 25, 26, 27, 28] (by decide +kernel) (by decide +kernel)
set_option maxRecDepth 20000 in
theorem gX11_hall_X4_addHall : GoodIn wsX11_hall (wsV RX11 126 RX4 yX4_addHall wsX4_addHall) := goodIn_app (goodIn_of _ (by decide +kernel)) ggX11_hall_X4_addHall
set_option maxRecDepth 20000 in
theorem ggX11_train_X4_addTrain : GoodIn wsX11_train wsX4_addTrain := goodIn_r _ [6, 7, 8, 9, 10, 11, 12, 13, 14, 5, 15, 16, 30, 31, 32, 33, 34, 35, 36, 37] (by decide +kernel) (by decide +kernel)
set_option maxRecDepth 20000 in
theorem gX11_train_X4_addTrain : GoodIn wsX11_train (wsV RX11 130 RX4 yX4_addTrain wsX4_addTrain) := goodIn_app (goodIn_of _ (by decide +kernel)) ggX11_train_X4_addTrain
