set_option maxRecDepth 20000 in
theorem ggX1_prepare_X4_learn : GoodIn wsX1_prepare wsX4_learn := goodIn_r _ [13, 14, 15, 16, 17, 18, 19, 20, 21, 74, 75, 76, 77, 78, 79, 80, 81, 82, 83, 84, 85, 86] (by decide +kernel) (by decide +kernel)
set_option maxRecDepth 20000 in
theorem gX1_prepare_X4_learn : GoodIn wsX1_prepare (wsV RX1 49 RX4 yX4_learn wsX4_learn) := goodIn_app (goodIn_of _ (by decide +kernel)) ggX1_prepare_X4_learn
set_option maxRecDepth 20000 in
theorem ggX1_prepare_X4_spread : GoodIn wsX1_prepare wsX4_spread := goodIn_r _ [25, 26, 27, 28, 29, 30, 20, 31, 32, 33, 34, 12, 35, 36, 14, 37, 74, 75, 76, 77, 78, 79, 80, 81] (by decide +kernel) (by decide +kernel)
set_option maxRecDepth 20000 in
theorem gX1_prepare_X4_spread : GoodIn wsX1_prepare (wsV RX1 53 RX4 yX4_spread wsX4_spread) := goodIn_app (goodIn_of _ (by decide +kernel)) ggX1_prepare_X4_spread
set_option maxRecDepth 20000 in
theorem ggX1_keep_X7_worthOf : GoodIn wsX1_keep wsX7_worthOf := goodIn_r _ [9, 10, 11, 102, 103, 104, 105, 106, 107, 108, 109] (by decide +kernel) (by decide +kernel)
set_option maxRecDepth 20000 in
theorem gX1_keep_X7_worthOf : GoodIn wsX1_keep (wsV RX1 76 RX7 yX7_worthOf wsX7_worthOf) := goodIn_app (goodIn_of _ (by decide +kernel)) ggX1_keep_X7_worthOf
set_option maxRecDepth 20000 in
theorem ggX1_keep_X3_begin : GoodIn wsX1_keep wsX3_begin := goodIn_r _ [16, 17, 18, 19, 20, 21, 110, 111, 112, 113, 114, 115, 116, 117] (by decide +kernel) (by decide +kernel)
set_option maxRecDepth 20000 in
theorem gX1_keep_X3_begin : GoodIn wsX1_keep (wsV RX1 79 RX3 yX3_begin wsX3_begin) := goodIn_app (goodIn_of _ (by decide +kernel)) ggX1_keep_X3_begin
set_option maxRecDepth 20000 in
theorem ggX1_keep_J7_fill_53178 : GoodIn wsX1_keep wsJ7_fill_53178 := goodIn_r _ [25] (by decide +kernel) (by decide +kernel)
set_option maxRecDepth 20000 in
theorem gX1_keep_J7_fill_53178 : GoodIn wsX1_keep (va_wsS RX1 85 yJ7_fill_53178 wsJ7_fill_53178) := goodIn_app (goodIn_of _ (by decide +kernel)) ggX1_keep_J7_fill_53178
set_option maxRecDepth 20000 in
theorem ggX4_addTrain_X4_isHall : GoodIn wsX4_addTrain wsX4_isHall := goodIn_r _ [10, 11, 12, 13, 14, 15, 16, 17, 18, 19] (by decide +kernel) (by decide +kernel)
set_option maxRecDepth 20000 in
theorem gX4_addTrain_X4_isHall : GoodIn wsX4_addTrain (wsV RX4 38 RX4 yX4_isHall wsX4_isHall) := goodIn_app (goodIn_of _ (by decide +kernel)) ggX4_addTrain_X4_isHall
set_option maxRecDepth 20000 in
theorem ggX4_learn_J7_fill_d0a16 : GoodIn wsX4_learn wsJ7_fill_d0a16 := goodIn_r _ [8] (by decide +kernel) (by decide +kernel)
set_option maxRecDepth 20000 in
theorem gX4_learn_J7_fill_d0a16 : GoodIn wsX4_learn (va_wsS RX4 42 yJ7_fill_d0a16 wsJ7_fill_d0a16) := goodIn_app (goodIn_of _ (by decide +kernel)) ggX4_learn_J7_fill_d0a16
set_option maxRecDepth 20000 in
theorem ggX4_soonest_X4_spread : GoodIn wsX4_soonest wsX4_spread := goodIn_r _ [6, 7, 8, 9, 10, 11, 12, 13, 14, 15, 16, 5, 17, 18, 19, 20, 21, 22, 23, 24, 25, 26, 27, 28] (by decide +kernel) (by decide +kernel)
set_option maxRecDepth 20000 in
theorem gX4_soonest_X4_spread : GoodIn wsX4_soonest (wsV RX4 59 RX4 yX4_spread wsX4_spread) := goodIn_app (goodIn_of _ (by decide +kernel)) ggX4_soonest_X4_spread
set_option maxRecDepth 20000 in
theorem ggX4_spread_J7_fill_53178 : GoodIn wsX4_spread wsJ7_fill_53178 := goodIn_r _ [7] (by decide +kernel) (by decide +kernel)
set_option maxRecDepth 20000 in
theorem gX4_spread_J7_fill_53178 : GoodIn wsX4_spread (va_wsS RX4 63 yJ7_fill_53178 wsJ7_fill_53178) := goodIn_app (goodIn_of _ (by decide +kernel)) ggX4_spread_J7_fill_53178
set_option maxRecDepth 20000 in
theorem ggX5_parse_X5_begin : GoodIn wsX5_parse wsX5_begin := goodIn_r _ [12, 13, 3, 5, 7, 4, 6, 14, 15, 16, 17, 18, 19, 20, 122, 123, 124, 125, 126, 127, 128, 129, 130, 131, 132, 136, 137, 138, 139, 140, 141, 142, 143, 144, 145, 146, 147, 148] (by decide +kernel) (by decide +kernel)
set_option maxRecDepth 20000 in
theorem gX5_parse_X5_begin : GoodIn wsX5_parse (wsV RX5 45 RX5 yX5_begin wsX5_begin) := goodIn_app (goodIn_of _ (by decide +kernel)) ggX5_parse_X5_begin
set_option maxRecDepth 20000 in
theorem ggX5_begin_X2_clear : GoodIn wsX5_begin wsX2_clear := goodIn_r _ [11, 12, 13, 25, 26, 27, 28, 29, 30, 31, 32, 33, 34, 35, 36, 37] (by decide +kernel) (by decide +kernel)
set_option maxRecDepth 20000 in
theorem gX5_begin_X2_clear : GoodIn wsX5_begin (wsV RX5 67 RX2 yX2_clear wsX2_clear) := goodIn_app (goodIn_of _ (by decide +kernel)) ggX5_begin_X2_clear
set_option maxRecDepth 20000 in
theorem ggX7_add_X7_isTaken : GoodIn wsX7_add wsX7_isTaken := goodIn_r _ [13, 1, 4, 5, 19, 20, 21, 22, 23, 24, 25, 26] (by decide +kernel) (by decide +kernel)
set_option maxRecDepth 20000 in
theorem gX7_add_X7_isTaken : GoodIn wsX7_add (wsV RX7 38 RX7 yX7_isTaken wsX7_isTaken) := goodIn_app (goodIn_of _ (by decide +kernel)) ggX7_add_X7_isTaken
set_option maxRecDepth 20000 in
theorem ggX10_scan_X10_pastBlanks : GoodIn wsX10_scan wsX10_pastBlanks := goodIn_r _ [7, 8, 9, 10, 11, 12, 13, 14, 15, 16, 17, 6, 18, 99, 100] (by decide +kernel) (by decide +kernel)
set_option maxRecDepth 20000 in
theorem gX10_scan_X10_pastBlanks : GoodIn wsX10_scan (va_wsS RX10 22 yX10_pastBlanks wsX10_pastBlanks) := goodIn_app (goodIn_of _ (by decide +kernel)) ggX10_scan_X10_pastBlanks
set_option maxRecDepth 20000 in
theorem ggX10_scan_X10_endOf : GoodIn wsX10_scan wsX10_endOf := goodIn_r _ [21, 8, 9, 10, 11, 12, 13, 14, 15, 22, 23, 6, 24, 25, 26, 27, 99, 100] (by decide +kernel) (by decide +kernel)
set_option maxRecDepth 20000 in
theorem gX10_scan_X10_endOf : GoodIn wsX10_scan (va_wsS RX10 26 yX10_endOf wsX10_endOf) := goodIn_app (goodIn_of _ (by decide +kernel)) ggX10_scan_X10_endOf
set_option maxRecDepth 20000 in
theorem ggX10_scan_X10_sortOf : GoodIn wsX10_scan wsX10_sortOf := goodIn_r _ [30, 9, 10, 11, 12, 13, 14, 15, 22, 23, 6, 24, 31, 32, 33, 34, 35, 36, 37, 38, 39, 40, 41, 42, 43, 44, 45, 46, 47, 48, 49, 50, 51, 52, 53, 54, 55, 56, 57, 58, 59, 60, 61, 62, 63, 64, 65, 66, 67, 68, 69, 70, 71, 72, 73, 74, 75, 76, 77, 78, 79, 80, 81, 82, 83, 84, 85, 86, 87, 25, 26, 27, 88, 89, 90, 99, 100] (by decide +kernel) (by decide +kernel)
set_option maxRecDepth 20000 in
theorem gX10_scan_X10_sortOf : GoodIn wsX10_scan (va_wsS RX10 29 yX10_sortOf wsX10_sortOf) := goodIn_app (goodIn_of _ (by decide +kernel)) ggX10_scan_X10_sortOf
set_option maxRecDepth 20000 in
theorem ggX10_scan_X10_valueOf : GoodIn wsX10_scan wsX10_valueOf := goodIn_r _ [93, 94, 95, 9, 10, 11, 12, 13, 14, 15, 25, 26, 6, 27, 22, 23, 24, 99, 100] (by decide +kernel) (by decide +kernel)
set_option maxRecDepth 20000 in
theorem gX10_scan_X10_valueOf : GoodIn wsX10_scan (va_wsS RX10 33 yX10_valueOf wsX10_valueOf) := goodIn_app (goodIn_of _ (by decide +kernel)) ggX10_scan_X10_valueOf
set_option maxRecDepth 20000 in
theorem ggX10_endOf_X9_at : GoodIn wsX10_endOf wsX9_at := goodIn_r _ [6, 7, 8, 16, 17] (by decide +kernel) (by decide +kernel)
set_option maxRecDepth 20000 in
theorem gX10_endOf_X9_at : GoodIn wsX10_endOf (wsV RX10 43 RX9 yX9_at wsX9_at) := goodIn_app (goodIn_of _ (by decide +kernel)) ggX10_endOf_X9_at
set_option maxRecDepth 20000 in
theorem ggX10_endOf_X10_isLetter : GoodIn wsX10_endOf wsX10_isLetter := goodIn_r _ [12] (by decide +kernel) (by decide +kernel)
set_option maxRecDepth 20000 in
theorem gX10_endOf_X10_isLetter : GoodIn wsX10_endOf (va_wsS RX10 51 yX10_isLetter wsX10_isLetter) := goodIn_app (goodIn_of _ (by decide +kernel)) ggX10_endOf_X10_isLetter
set_option maxRecDepth 20000 in
theorem ggX10_endOf_X10_isDigit : GoodIn wsX10_endOf wsX10_isDigit := goodIn_r _ [15] (by decide +kernel) (by decide +kernel)
set_option maxRecDepth 20000 in
theorem gX10_endOf_X10_isDigit : GoodIn wsX10_endOf (va_wsS RX10 54 yX10_isDigit wsX10_isDigit) := goodIn_app (goodIn_of _ (by decide +kernel)) ggX10_endOf_X10_isDigit
set_option maxRecDepth 20000 in
theorem ggX10_sortOf_X9_at : GoodIn wsX10_sortOf wsX9_at := goodIn_r _ [5, 6, 7, 75, 76] (by decide +kernel) (by decide +kernel)
set_option maxRecDepth 20000 in
theorem gX10_sortOf_X9_at : GoodIn wsX10_sortOf (wsV RX10 43 RX9 yX9_at wsX9_at) := goodIn_app (goodIn_of _ (by decide +kernel)) ggX10_sortOf_X9_at
set_option maxRecDepth 20000 in
theorem ggX10_valueOf_X9_at : GoodIn wsX10_valueOf wsX9_at := goodIn_r _ [7, 8, 9, 17, 18] (by decide +kernel) (by decide +kernel)
set_option maxRecDepth 20000 in
theorem gX10_valueOf_X9_at : GoodIn wsX10_valueOf (wsV RX10 43 RX9 yX9_at wsX9_at) := goodIn_app (goodIn_of _ (by decide +kernel)) ggX10_valueOf_X9_at
set_option maxRecDepth 20000 in
theorem ggX10_valueOf_X10_isDigit : GoodIn wsX10_valueOf wsX10_isDigit := goodIn_r _ [13] (by decide +kernel) (by decide +kernel)
set_option maxRecDepth 20000 in
theorem gX10_valueOf_X10_isDigit : GoodIn wsX10_valueOf (va_wsS RX10 54 yX10_isDigit wsX10_isDigit) := goodIn_app (goodIn_of _ (by decide +kernel)) ggX10_valueOf_X10_isDigit
set_option maxRecDepth 20000 in
theorem ggX10_valueOf_X10_isLetter : GoodIn wsX10_valueOf wsX10_isLetter := goodIn_r _ [16] (by decide +kernel) (by decide +kernel)
set_option maxRecDepth 20000 in
theorem gX10_valueOf_X10_isLetter : GoodIn wsX10_valueOf (va_wsS RX10 51 yX10_isLetter wsX10_isLetter) := goodIn_app (goodIn_of _ (by decide +kernel)) ggX10_valueOf_X10_isLetter
set_option maxRecDepth 20000 in
theorem ggX11_init_X9_init : GoodIn wsX11_init wsX9_init := goodIn_r _ [52, 53, 2, 3, 54, 55, 56, 179, 180] (by decide +kernel) (by decide +kernel)
set_option maxRecDepth 20000 in
theorem gX11_init_X9_init : GoodIn wsX11_init (wsX9_init) := ggX11_init_X9_init
set_option maxRecDepth 20000 in
theorem ggX11_init_X10_init : GoodIn wsX11_init wsX10_init := goodIn_r _ [59, 60, 2, 3, 61, 62, 63, 64, 65, 194, 195, 196] (by decide +kernel) (by decide +kernel)
set_option maxRecDepth 20000 in
theorem gX11_init_X10_init : GoodIn wsX11_init (wsX10_init) := ggX11_init_X10_init
set_option maxRecDepth 20000 in
theorem ggX11_init_X5_init : GoodIn wsX11_init wsX5_init := goodIn_r _ [68, 69, 2, 3, 61, 70, 71, 72, 73, 74, 75, 76, 77, 78, 79, 197, 198, 199, 200, 201, 202, 203, 204, 205, 206, 207] (by decide +kernel) (by decide +kernel)
set_option maxRecDepth 20000 in
theorem gX11_init_X5_init : GoodIn wsX11_init (wsX5_init) := ggX11_init_X5_init
set_option maxRecDepth 20000 in
theorem ggX11_init_X4_init : GoodIn wsX11_init wsX4_init := goodIn_r _ [82, 83, 2, 3, 61, 84, 85, 86, 87, 64, 88, 89, 90, 91, 208, 209, 210, 211, 212, 213, 214, 215] (by decide +kernel) (by decide +kernel)
set_option maxRecDepth 20000 in
theorem gX11_init_X4_init : GoodIn wsX11_init (wsX4_init) := ggX11_init_X4_init
set_option maxRecDepth 20000 in
theorem ggX11_init_X8_init : GoodIn wsX11_init wsX8_init := goodIn_r _ [94, 95, 2, 3, 61, 96, 97, 98, 216, 217, 218] (by decide +kernel) (by decide +kernel)
set_option maxRecDepth 20000 in
theorem gX11_init_X8_init : GoodIn wsX11_init (wsX8_init) := ggX11_init_X8_init
set_option maxRecDepth 20000 in
theorem ggX11_init_X0_init : GoodIn wsX11_init wsX0_init := goodIn_r _ [101, 102, 2, 3, 61, 103, 104, 105, 106, 107, 219, 220, 221, 222, 223] (by decide +kernel) (by decide +kernel)
set_option maxRecDepth 20000 in
theorem gX11_init_X0_init : GoodIn wsX11_init (wsX0_init) := ggX11_init_X0_init
set_option maxRecDepth 20000 in
theorem ggX11_init_X2_init : GoodIn wsX11_init wsX2_init := goodIn_r _ [110, 111, 2, 3, 64, 112, 61, 113, 114, 115, 116, 117, 118, 119, 120, 121, 122, 123, 124, 125, 232, 233, 234, 235, 236, 237, 238, 239, 240, 241, 242, 243, 244] (by decide +kernel) (by decide +kernel)
set_option maxRecDepth 20000 in
theorem gX11_init_X2_init : GoodIn wsX11_init (wsX2_init) := ggX11_init_X2_init
set_option maxRecDepth 20000 in
theorem ggX11_init_X7_init : GoodIn wsX11_init wsX7_init := goodIn_r _ [128, 129, 2, 3, 61, 130, 131, 132, 133, 134, 135, 136, 137, 224, 225, 226, 227, 228, 229, 230, 231] (by decide +kernel) (by decide +kernel)
set_option maxRecDepth 20000 in
theorem gX11_init_X7_init : GoodIn wsX11_init (wsX7_init) := ggX11_init_X7_init
set_option maxRecDepth 20000 in
theorem ggX11_init_X1_init : GoodIn wsX11_init wsX1_init := goodIn_r _ [140, 141, 2, 3, 142, 61, 143, 144, 145, 146, 147, 148, 149, 150, 245, 246, 247, 248, 249, 250, 251, 252] (by decide +kernel) (by decide +kernel)
set_option maxRecDepth 20000 in
theorem gX11_init_X1_init : GoodIn wsX11_init (wsX1_init) := ggX11_init_X1_init
set_option maxRecDepth 20000 in
theorem ggX11_init_X6_init : GoodIn wsX11_init wsX6_init := goodIn_r _ [153, 154, 2, 3, 61, 155, 115, 156, 157, 158, 159, 160, 161, 162, 163, 164, 165, 166, 253, 254, 255, 256, 257, 258, 259, 260, 261, 262, 263, 264] (by decide +kernel) (by decide +kernel)
set_option maxRecDepth 20000 in
theorem gX11_init_X6_init : GoodIn wsX11_init (wsX6_init) := ggX11_init_X6_init
set_option maxRecDepth 20000 in
theorem ggX11_init_X3_init : GoodIn wsX11_init wsX3_init := goodIn_r _ [169, 170, 2, 3, 61, 171, 172, 115, 173, 174, 175, 176, 177, 178, 265, 266, 267, 268, 269, 270, 271, 272] (by decide +kernel) (by decide +kernel)
set_option maxRecDepth 20000 in
theorem gX11_init_X3_init : GoodIn wsX11_init (wsX3_init) := ggX11_init_X3_init
set_option maxRecDepth 20000 in
theorem ggX11_feed_X9_put : GoodIn wsX11_feed wsX9_put := goodIn_r _ [7, 8, 9, 23, 24] (by decide +kernel) (by decide +kernel)
set_option maxRecDepth 20000 in
theorem gX11_feed_X9_put : GoodIn wsX11_feed (wsV RX11 103 RX9 yX9_put wsX9_put) := goodIn_app (goodIn_of _ (by decide +kernel)) ggX11_feed_X9_put
set_option maxRecDepth 20000 in
theorem ggX11_read_X10_scan : GoodIn wsX11_read wsX10_scan := goodIn_r _ [14, 15, 16, 17, 18, 19, 13, 20, 21, 22, 23, 24, 25, 26, 27, 28, 29, 30, 31, 32, 33, 34, 35, 36, 37, 38, 39, 40, 41, 42, 43, 44, 45, 46, 47, 48, 49, 50, 51, 52, 53, 54, 55, 56, 57, 58, 59, 60, 61, 62, 63, 64, 65, 66, 67, 68, 69, 70, 71, 72, 73, 74, 75, 76, 77, 78, 79, 80, 81, 82, 83, 84, 85, 86, 87, 88, 89, 90, 91, 92, 93, 94, 95, 96, 97, 98, 99, 100, 101, 102, 103, 104, 105, 106, 107, 108, 274, 275, 276, 253, 254] (by decide +kernel) (by decide +kernel)
set_option maxRecDepth 20000 in
theorem gX11_read_X10_scan : GoodIn wsX11_read (wsV RX11 107 RX10 yX10_scan wsX10_scan) := goodIn_app (goodIn_of _ (by decide +kernel)) ggX11_read_X10_scan
set_option maxRecDepth 20000 in
theorem ggX11_read_X5_parse : GoodIn wsX11_read wsX5_parse := goodIn_r _ [113, 114, 115, 116, 117, 118, 119, 120, 121, 122, 123, 112, 124, 125, 126, 127, 128, 129, 130, 131, 132, 133, 134, 135, 136, 137, 138, 139, 140, 141, 142, 143, 144, 145, 146, 147, 148, 149, 150, 151, 152, 153, 154, 155, 156, 157, 158, 159, 160, 161, 162, 163, 164, 165, 166, 167, 168, 169, 170, 171, 172, 173, 174, 175, 176, 177, 178, 179, 180, 181, 182, 183, 184, 185, 186, 187, 188, 189, 190, 191, 192, 193, 194, 195, 196, 197, 198, 199, 200, 201, 202, 203, 204, 205, 206, 207, 208, 209, 210, 211, 212, 213, 214, 215, 216, 13, 217, 218, 219, 220, 221, 222, 223, 224, 225, 226, 227, 228, 229, 230, 231, 232, 255, 256, 257, 258, 259, 260, 261, 262, 263, 264, 265, 274, 275, 276, 277, 278, 279, 280, 281, 282, 283, 284, 285, 286, 287, 288, 289] (by decide +kernel) (by decide +kernel)
set_option maxRecDepth 20000 in
theorem gX11_read_X5_parse : GoodIn wsX11_read (wsV RX11 111 RX5 yX5_parse wsX5_parse) := goodIn_app (goodIn_of _ (by decide +kernel)) ggX11_read_X5_parse
set_option maxRecDepth 20000 in
theorem ggX11_read_X7_startOver : GoodIn wsX11_read wsX7_startOver := goodIn_r _ [237, 238, 239, 266, 267, 268, 269, 270, 271, 272, 273] (by decide +kernel) (by decide +kernel)
set_option maxRecDepth 20000 in
theorem gX11_read_X7_startOver : GoodIn wsX11_read (wsV RX11 120 RX7 yX7_startOver wsX7_startOver) := goodIn_app (goodIn_of _ (by decide +kernel)) ggX11_read_X7_startOver
set_option maxRecDepth 20000 in
theorem ggX11_hall_X4_addHall : GoodIn wsX11_hall wsX4_addHall := goodIn_r _ [6, 7, 21, 22, 23, 24, 25, 26, 27, 28] (by decide +kernel) (by decide +kernel)
set_option maxRecDepth 20000 in
theorem gX11_hall_X4_addHall : GoodIn wsX11_hall (wsV RX11 126 RX4 yX4_addHall wsX4_addHall) := goodIn_app (goodIn_of _ (by decide +kernel)) ggX11_hall_X4_addHall
set_option maxRecDepth 20000 in
theorem ggX11_train_X4_addTrain : GoodIn wsX11_train wsX4_addTrain := goodIn_r _ [6, 7, 8, 9, 10, 11, 12, 13, 14, 5, 15, 16, 30, 31, 32, 33, 34, 35, 36, 37] (by decide +kernel) (by decide +kernel)
set_option maxRecDepth 20000 in
theorem gX11_train_X4_addTrain : GoodIn wsX11_train (wsV RX11 130 RX4 yX4_addTrain wsX4_addTrain) := goodIn_app (goodIn_of _ (by decide +kernel)) ggX11_train_X4_addTrain
set_option maxRecDepth 20000 in
theorem ggX11_plate_X8_add : GoodIn wsX11_plate wsX8_add := goodIn_r _ [6, 7, 8, 9, 23, 24, 25] (by decide +kernel) (by decide +kernel)
set_option maxRecDepth 20000 in
theorem gX11_plate_X8_add : GoodIn wsX11_plate (wsV RX11 134 RX8 yX8_add wsX8_add) := goodIn_app (goodIn_of _ (by decide +kernel)) ggX11_plate_X8_add
set_option maxRecDepth 20000 in
theorem ggX11_look_X11_isPlate : GoodIn wsX11_look wsX11_isPlate := goodIn_r _ [6, 7, 8, 22, 23, 24, 25, 26, 27, 28, 29, 30, 31, 32, 33, 34, 35, 36, 37] (by decide +kernel) (by decide +kernel)
set_option maxRecDepth 20000 in
theorem gX11_look_X11_isPlate : GoodIn wsX11_look (wsV RX11 147 RX11 yX11_isPlate wsX11_isPlate) := goodIn_app (goodIn_of _ (by decide +kernel)) ggX11_look_X11_isPlate
set_option maxRecDepth 20000 in
theorem ggX11_show_X4_isHall : GoodIn wsX11_show wsX4_isHall := goodIn_r _ [7, 8, 44, 45, 46, 47, 48, 49, 50, 51] (by decide +kernel) (by decide +kernel)
set_option maxRecDepth 20000 in
theorem gX11_show_X4_isHall : GoodIn wsX11_show (wsV RX11 154 RX4 yX4_isHall wsX4_isHall) := goodIn_app (goodIn_of _ (by decide +kernel)) ggX11_show_X4_isHall
set_option maxRecDepth 20000 in
theorem ggX11_show_X7_add : GoodIn wsX11_show wsX7_add := goodIn_r _ [13, 14, 15, 16, 17, 18, 19, 20, 21, 22, 23, 24, 12, 25, 26, 27, 28, 29, 30, 52, 53, 54, 55, 56, 57, 58, 59, 60, 61, 62, 63, 64, 65, 66, 67, 68, 69, 70, 71, 72] (by decide +kernel) (by decide +kernel)
set_option maxRecDepth 20000 in
theorem gX11_show_X7_add : GoodIn wsX11_show (wsV RX11 157 RX7 yX7_add wsX7_add) := goodIn_app (goodIn_of _ (by decide +kernel)) ggX11_show_X7_add
set_option maxRecDepth 20000 in
theorem ggX11_way_X4_isHall : GoodIn wsX11_way wsX4_isHall := goodIn_r _ [7, 8, 66, 67, 68, 69, 70, 71, 72, 73] (by decide +kernel) (by decide +kernel)
set_option maxRecDepth 20000 in
theorem gX11_way_X4_isHall : GoodIn wsX11_way (wsV RX11 154 RX4 yX4_isHall wsX4_isHall) := goodIn_app (goodIn_of _ (by decide +kernel)) ggX11_way_X4_isHall
set_option maxRecDepth 20000 in
theorem ggX11_way_X11_isHour : GoodIn wsX11_way wsX11_isHour := goodIn_r _ [13] (by decide +kernel) (by decide +kernel)
set_option maxRecDepth 20000 in
theorem gX11_way_X11_isHour : GoodIn wsX11_way (wsV RX11 151 RX11 yX11_isHour wsX11_isHour) := goodIn_app (goodIn_of _ (by decide +kernel)) ggX11_way_X11_isHour
set_option maxRecDepth 20000 in
theorem ggX11_way_X0_isKnown : GoodIn wsX11_way wsX0_isKnown := goodIn_r _ [18, 19, 74, 75, 76, 77, 78] (by decide +kernel) (by decide +kernel)
set_option maxRecDepth 20000 in
theorem gX11_way_X0_isKnown : GoodIn wsX11_way (wsV RX11 160 RX0 yX0_isKnown wsX0_isKnown) := goodIn_app (goodIn_of _ (by decide +kernel)) ggX11_way_X0_isKnown
set_option maxRecDepth 20000 in
theorem ggX11_way_X4_learn : GoodIn wsX11_way wsX4_learn := goodIn_r _ [23, 24, 25, 26, 27, 28, 29, 30, 31, 66, 67, 68, 69, 70, 71, 72, 73, 74, 75, 76, 77, 78] (by decide +kernel) (by decide +kernel)
set_option maxRecDepth 20000 in
theorem gX11_way_X4_learn : GoodIn wsX11_way (wsV RX11 163 RX4 yX4_learn wsX4_learn) := goodIn_app (goodIn_of _ (by decide +kernel)) ggX11_way_X4_learn
set_option maxRecDepth 20000 in
theorem ggX11_way_X4_soonest : GoodIn wsX11_way wsX4_soonest := goodIn_r _ [35, 36, 37, 38, 39, 6, 40, 41, 42, 43, 44, 45, 30, 46, 47, 48, 49, 50, 51, 24, 52, 66, 67, 68, 69, 70, 71, 72, 73] (by decide +kernel) (by decide +kernel)
set_option maxRecDepth 20000 in
theorem gX11_way_X4_soonest : GoodIn wsX11_way (wsV RX11 167 RX4 yX4_soonest wsX4_soonest) := goodIn_app (goodIn_of _ (by decide +kernel)) ggX11_way_X4_soonest
set_option maxRecDepth 20000 in
theorem ggX11_broken_X11_isPlate : GoodIn wsX11_broken wsX11_isPlate := goodIn_r _ [6, 7, 8, 31, 32, 33, 34, 35, 36, 37, 38, 39, 40, 41, 42, 43, 44, 45, 46] (by decide +kernel) (by decide +kernel)
set_option maxRecDepth 20000 in
theorem gX11_broken_X11_isPlate : GoodIn wsX11_broken (wsV RX11 147 RX11 yX11_isPlate wsX11_isPlate) := goodIn_app (goodIn_of _ (by decide +kernel)) ggX11_broken_X11_isPlate
set_option maxRecDepth 20000 in
theorem ggX11_can_X7_all : GoodIn wsX11_can wsX7_all := goodIn_r _ [10, 11, 180, 181, 182, 183, 184, 185, 186, 187] (by decide +kernel) (by decide +kernel)
set_option maxRecDepth 20000 in
theorem gX11_can_X7_all : GoodIn wsX11_can (wsV RX11 174 RX7 yX7_all wsX7_all) := goodIn_app (goodIn_of _ (by decide +kernel)) ggX11_can_X7_all
set_option maxRecDepth 20000 in
theorem ggX11_can_X0_isKnown : GoodIn wsX11_can wsX0_isKnown := goodIn_r _ [16, 17, 188, 189, 190, 191, 192] (by decide +kernel) (by decide +kernel)
set_option maxRecDepth 20000 in
theorem gX11_can_X0_isKnown : GoodIn wsX11_can (wsV RX11 160 RX0 yX0_isKnown wsX0_isKnown) := goodIn_app (goodIn_of _ (by decide +kernel)) ggX11_can_X0_isKnown
set_option maxRecDepth 20000 in
theorem ggX11_can_X1_prepare : GoodIn wsX11_can wsX1_prepare := goodIn_r _ [22, 23, 24, 25, 26, 27, 28, 29, 30, 31, 32, 33, 34, 35, 36, 37, 38, 39, 40, 41, 42, 43, 44, 45, 46, 47, 48, 49, 50, 51, 52, 53, 54, 55, 56, 57, 58, 59, 60, 61, 62, 9, 63, 64, 65, 66, 67, 68, 69, 70, 71, 15, 72, 73, 74, 75, 76, 77, 193, 194, 195, 196, 197, 198, 199, 200, 180, 181, 182, 183, 184, 185, 186, 187, 201, 202, 203, 204, 205, 206, 207, 208, 188, 189, 190, 191, 192] (by decide +kernel) (by decide +kernel)
set_option maxRecDepth 20000 in
theorem gX11_can_X1_prepare : GoodIn wsX11_can (wsV RX11 177 RX1 yX1_prepare wsX1_prepare) := goodIn_app (goodIn_of _ (by decide +kernel)) ggX11_can_X1_prepare
set_option maxRecDepth 20000 in
theorem ggX11_can_X1_keep : GoodIn wsX11_can wsX1_keep := goodIn_r _ [81, 26, 82, 27, 83, 84, 85, 86, 9, 87, 11, 88, 89, 90, 91, 92, 93, 94, 95, 96, 97, 98, 99, 52, 42, 53, 100, 101, 102, 103, 104, 105, 106, 21, 107, 108, 109, 110, 111, 112, 113, 114, 115, 116, 117, 118, 25, 28, 30, 65, 66, 67, 68, 64, 119, 120, 121, 122, 123, 124, 125, 126, 127, 128, 129, 130, 131, 132, 133, 134, 135, 136, 137, 138, 139, 140, 141, 142, 143, 144, 145, 146, 147, 148, 149, 150, 151, 152, 153, 154, 155, 156, 157, 158, 193, 194, 195, 196, 197, 198, 199, 200, 180, 181, 182, 183, 184, 185, 186, 187, 172, 173, 174, 175, 176, 177, 178, 179, 209, 210, 211, 212, 213, 214, 215, 216, 217, 218, 219, 220, 221, 222, 223, 224] (by decide +kernel) (by decide +kernel)
set_option maxRecDepth 20000 in
theorem gX11_can_X1_keep : GoodIn wsX11_can (wsV RX11 180 RX1 yX1_keep wsX1_keep) := goodIn_app (goodIn_of _ (by decide +kernel)) ggX11_can_X1_keep
set_option maxRecDepth 20000 in
theorem ggX11_make_X0_isKnown : GoodIn wsX11_make wsX0_isKnown := goodIn_r _ [9, 10, 197, 198, 199, 200, 201] (by decide +kernel) (by decide +kernel)
set_option maxRecDepth 20000 in
theorem gX11_make_X0_isKnown : GoodIn wsX11_make (wsV RX11 160 RX0 yX0_isKnown wsX0_isKnown) := goodIn_app (goodIn_of _ (by decide +kernel)) ggX11_make_X0_isKnown
set_option maxRecDepth 20000 in
theorem ggX11_make_X11_settle : GoodIn wsX11_make wsX11_settle := goodIn_r _ [15, 16, 3, 17, 18, 4, 19, 20, 21, 22, 23, 24, 25, 26, 27, 28, 29, 30, 31, 32, 33, 34, 35, 36, 37, 38, 39, 40, 41, 42, 43, 44, 45, 46, 47, 48, 49, 50, 51, 52, 53, 54, 55, 56, 57, 58, 59, 60, 61, 62, 63, 64, 65, 66, 67, 68, 69, 70, 71, 72, 73, 74, 8, 75, 76, 77, 78, 79, 80, 81, 82, 83, 84, 85, 86, 87, 88, 89, 90, 91, 92, 93, 94, 95, 96, 97, 98, 99, 100, 101, 102, 103, 104, 105, 106, 107, 108, 109, 110, 111, 112, 113, 114, 115, 116, 117, 118, 119, 120, 121, 122, 123, 124, 125, 126, 127, 128, 129, 130, 131, 132, 133, 134, 135, 136, 137, 138, 139, 140, 141, 142, 143, 144, 145, 146, 147, 148, 149, 150, 151, 152, 153, 154, 155, 156, 157, 158, 159, 160, 161, 162, 163, 164, 14, 165, 166, 167, 168, 169, 170, 171, 172, 173, 174, 175, 176, 177, 178, 179, 180, 181, 182, 183, 184, 185, 186, 187, 188, 189, 190, 191, 192, 193, 194, 195, 196, 202, 203, 204, 205, 206, 207, 208, 209, 210, 211, 212, 213, 214, 215, 216, 217, 218, 219, 220, 221, 222, 223, 224, 225, 197, 198, 199, 200, 201, 226, 227, 228, 229, 230, 231, 232, 233, 234, 235, 236, 237, 238, 239, 240, 241] (by decide +kernel) (by decide +kernel)
set_option maxRecDepth 20000 in
theorem gX11_make_X11_settle : GoodIn wsX11_make (wsV RX11 187 RX11 yX11_settle wsX11_settle) := goodIn_app (goodIn_of _ (by decide +kernel)) ggX11_make_X11_settle
set_option maxRecDepth 20000 in
theorem ggX11_told_X7_isShow : GoodIn wsX11_told wsX7_isShow := goodIn_r _ [11, 12, 39, 40, 41, 42, 43, 44, 45, 46] (by decide +kernel) (by decide +kernel)
set_option maxRecDepth 20000 in
theorem gX11_told_X7_isShow : GoodIn wsX11_told (wsV RX11 197 RX7 yX7_isShow wsX7_isShow) := goodIn_app (goodIn_of _ (by decide +kernel)) ggX11_told_X7_isShow
set_option maxRecDepth 20000 in
theorem ggX11_cue_X11_isKept : GoodIn wsX11_cue wsX11_isKept := goodIn_r _ [13, 14, 1, 2, 15, 16, 17, 18, 19, 20, 21, 22, 23, 24, 25, 26, 104, 105, 106, 107, 108, 109, 110, 111, 112, 113, 114, 115, 116, 137, 138, 139, 140, 141, 142, 143, 144, 117, 118, 119, 120, 121, 122, 123, 124] (by decide +kernel) (by decide +kernel)
set_option maxRecDepth 20000 in
theorem gX11_cue_X11_isKept : GoodIn wsX11_cue (wsV RX11 216 RX11 yX11_isKept wsX11_isKept) := goodIn_app (goodIn_of _ (by decide +kernel)) ggX11_cue_X11_isKept
set_option maxRecDepth 20000 in
theorem ggX11_showing_X11_isKept : GoodIn wsX11_showing wsX11_isKept := goodIn_r _ [16, 17, 2, 3, 18, 19, 20, 21, 22, 23, 24, 25, 26, 27, 28, 29, 98, 99, 100, 101, 102, 103, 104, 105, 106, 107, 108, 109, 110, 123, 124, 125, 126, 127, 128, 129, 130, 131, 132, 133, 134, 135, 136, 137, 138] (by decide +kernel) (by decide +kernel)
set_option maxRecDepth 20000 in
theorem gX11_showing_X11_isKept : GoodIn wsX11_showing (wsV RX11 216 RX11 yX11_isKept wsX11_isKept) := goodIn_app (goodIn_of _ (by decide +kernel)) ggX11_showing_X11_isKept
set_option maxRecDepth 20000 in
theorem ggX11_settle_X1_prepare : GoodIn wsX11_settle wsX1_prepare := goodIn_r _ [11, 12, 13, 14, 15, 16, 17, 18, 19, 20, 21, 22, 23, 24, 25, 26, 27, 28, 29, 30, 31, 32, 33, 34, 35, 36, 37, 38, 39, 40, 41, 42, 43, 44, 45, 46, 47, 48, 49, 50, 51, 52, 53, 54, 55, 56, 57, 58, 59, 60, 61, 62, 63, 64, 65, 66, 67, 68, 186, 187, 188, 189, 190, 191, 192, 193, 194, 195, 196, 197, 198, 199, 200, 201, 202, 203, 204, 205, 206, 207, 208, 209, 210, 211, 212, 213, 214] (by decide +kernel) (by decide +kernel)
set_option maxRecDepth 20000 in
theorem gX11_settle_X1_prepare : GoodIn wsX11_settle (wsV RX11 177 RX1 yX1_prepare wsX1_prepare) := goodIn_app (goodIn_of _ (by decide +kernel)) ggX11_settle_X1_prepare
set_option maxRecDepth 20000 in
theorem ggX11_settle_X1_keep : GoodIn wsX11_settle wsX1_keep := goodIn_r _ [72, 15, 73, 16, 74, 75, 76, 77, 52, 78, 79, 80, 81, 82, 83, 84, 85, 86, 87, 88, 89, 90, 91, 41, 31, 42, 92, 93, 94, 95, 96, 97, 98, 10, 99, 100, 101, 102, 103, 104, 105, 106, 107, 108, 109, 110, 14, 17, 19, 55, 56, 57, 58, 54, 111, 112, 113, 114, 115, 116, 117, 118, 119, 120, 121, 122, 123, 124, 125, 126, 127, 128, 129, 130, 131, 132, 133, 134, 135, 136, 137, 138, 139, 140, 141, 142, 143, 144, 145, 146, 147, 148, 149, 150, 186, 187, 188, 189, 190, 191, 192, 193, 194, 195, 196, 197, 198, 199, 200, 201, 178, 179, 180, 181, 182, 183, 184, 185, 215, 216, 217, 218, 219, 220, 221, 222, 223, 224, 225, 226, 227, 228, 229, 230] (by decide +kernel) (by decide +kernel)
set_option maxRecDepth 20000 in
theorem gX11_settle_X1_keep : GoodIn wsX11_settle (wsV RX11 180 RX1 yX1_keep wsX1_keep) := goodIn_app (goodIn_of _ (by decide +kernel)) ggX11_settle_X1_keep
set_option maxRecDepth 20000 in
theorem ggX11_settle_X11_changes : GoodIn wsX11_settle wsX11_changes := goodIn_r _ [154, 155, 137, 138, 139, 140, 141, 142] (by decide +kernel) (by decide +kernel)
set_option maxRecDepth 20000 in
theorem gX11_settle_X11_changes : GoodIn wsX11_settle (va_wsS RX11 303 yX11_changes wsX11_changes) := goodIn_app (goodIn_of _ (by decide +kernel)) ggX11_settle_X11_changes
set_option maxRecDepth 20000 in
theorem ggX11_settle_X7_all : GoodIn wsX11_settle wsX7_all := goodIn_r _ [159, 79, 194, 195, 196, 197, 198, 199, 200, 201] (by decide +kernel) (by decide +kernel)
set_option maxRecDepth 20000 in
theorem gX11_settle_X7_all : GoodIn wsX11_settle (wsV RX11 174 RX7 yX7_all wsX7_all) := goodIn_app (goodIn_of _ (by decide +kernel)) ggX11_settle_X7_all
set_option maxRecDepth 20000 in
theorem ggX12_init_X12_word : GoodIn wsX12_init wsX12_word := goodIn_r _ [72, 73, 74, 71, 75, 76] (by decide +kernel) (by decide +kernel)
set_option maxRecDepth 20000 in
theorem gX12_init_X12_word : GoodIn wsX12_init (va_wsS RX12 197 yX12_word wsX12_word) := goodIn_app (goodIn_of _ (by decide +kernel)) ggX12_init_X12_word
set_option maxRecDepth 20000 in
theorem ggX12_feed_X12_put : GoodIn wsX12_feed wsX12_put := goodIn_r _ [6, 7, 1, 8, 9, 10, 11, 12, 13, 14, 15, 16, 17, 18, 19, 20, 21, 22, 23, 24, 25, 26, 27, 28, 29, 30, 31, 32, 33, 34, 35, 36, 37, 38, 39, 40, 41, 42, 43, 44, 45, 46, 47, 48, 49, 50, 51, 52, 53, 54, 55, 56, 57, 58, 59, 60, 61, 62, 63, 64, 65, 66, 67, 68, 69, 70, 71, 72, 73, 74, 75, 76, 77, 78, 79, 80, 81, 82, 83, 84, 85, 86, 87, 88, 89, 90, 91, 92, 93, 94] (by decide +kernel) (by decide +kernel)
set_option maxRecDepth 20000 in
theorem gX12_feed_X12_put : GoodIn wsX12_feed (wsV RX12 207 RX12 yX12_put wsX12_put) := goodIn_app (goodIn_of _ (by decide +kernel)) ggX12_feed_X12_put
set_option maxRecDepth 20000 in
theorem ggX12_word_X12_more : GoodIn wsX12_word wsX12_more := goodIn_r _ [4, 5] (by decide +kernel) (by decide +kernel)
set_option maxRecDepth 20000 in
theorem gX12_word_X12_more : GoodIn wsX12_word (va_wsS RX12 216 yX12_more wsX12_more) := goodIn_app (goodIn_of _ (by decide +kernel)) ggX12_word_X12_more
set_option maxRecDepth 20000 in
theorem ggX12_cut_X12_at : GoodIn wsX12_cut wsX12_at := goodIn_r _ [8, 2, 9, 32, 33, 34, 35, 36, 37, 38, 39, 40, 41, 42, 43, 44, 45, 46, 47, 48, 49, 50, 51, 52, 53, 54, 55, 56, 57, 58, 59, 60, 61, 62, 63, 64, 65, 66, 67, 68, 69, 70, 71, 72, 73, 74, 75, 76, 77, 78, 79, 80, 81, 82, 83, 84, 85, 86, 87, 88, 89, 90, 91, 92, 93, 94, 95, 96, 97, 98, 99, 100, 101, 102, 103, 104, 105, 106, 107, 108, 109, 110, 111, 112, 113, 114, 115, 116, 117, 118] (by decide +kernel) (by decide +kernel)
set_option maxRecDepth 20000 in
theorem gX12_cut_X12_at : GoodIn wsX12_cut (wsV RX12 223 RX12 yX12_at wsX12_at) := goodIn_app (goodIn_of _ (by decide +kernel)) ggX12_cut_X12_at
set_option maxRecDepth 20000 in
theorem ggX12_cut_X12_token : GoodIn wsX12_cut wsX12_token := goodIn_r _ [13, 14, 1, 15, 16, 17, 32, 33, 34, 35, 36, 37, 38, 39, 40, 41, 42, 43, 44, 45, 46, 47, 48, 49, 50, 51, 52, 53, 54, 55, 56, 57, 58, 59, 60, 61, 62, 63, 64, 65, 66, 67, 68, 69, 70, 71, 72, 73, 74, 75, 76, 77, 78, 79, 80, 81, 82, 83, 84, 85, 86, 87, 88, 89, 90, 91, 92, 93, 94, 95, 96, 97, 98, 99, 100, 101, 102, 103, 104, 105, 106, 107, 108, 109, 110, 111, 112, 113, 114, 115, 116, 117, 118] (by decide +kernel) (by decide +kernel)
set_option maxRecDepth 20000 in
theorem gX12_cut_X12_token : GoodIn wsX12_cut (wsV RX12 227 RX12 yX12_token wsX12_token) := goodIn_app (goodIn_of _ (by decide +kernel)) ggX12_cut_X12_token
set_option maxRecDepth 20000 in
theorem ggX12_read_X12_cut : GoodIn wsX12_read wsX12_cut := goodIn_r _ [23, 24, 2, 25, 26, 27, 28, 22, 29, 3, 30, 31, 32, 33, 34, 35, 36, 37, 38, 39, 40, 41, 42, 43, 44, 45, 46, 47, 48, 49, 50, 51, 120, 121, 122, 123, 124, 125, 126, 127, 128, 129, 130, 131, 132, 133, 134, 135, 136, 137, 138, 139, 140, 141, 142, 143, 144, 145, 146, 147, 148, 149, 150, 151, 152, 153, 154, 155, 156, 157, 158, 159, 160, 161, 162, 163, 164, 165, 166, 167, 168, 169, 170, 171, 172, 173, 174, 175, 176, 177, 178, 179, 180, 181, 182, 183, 184, 185, 186, 187, 188, 189, 190, 191, 192, 193, 194, 195, 196, 197, 198, 199, 200, 201, 202, 203, 204, 205, 206] (by decide +kernel) (by decide +kernel)
set_option maxRecDepth 20000 in
theorem gX12_read_X12_cut : GoodIn wsX12_read (wsV RX12 266 RX12 yX12_cut wsX12_cut) := goodIn_app (goodIn_of _ (by decide +kernel)) ggX12_read_X12_cut
set_option maxRecDepth 20000 in
theorem ggX12_read_X12_is : GoodIn wsX12_read wsX12_is := goodIn_r _ [55, 7, 34, 5, 120, 121, 122, 123, 124, 125, 126, 127, 128, 129, 130, 131, 132, 133, 134, 135, 136, 137, 138, 139, 140, 141, 142, 143, 144, 145, 146, 147, 148, 149, 150, 151, 152, 153, 154, 155, 156, 157, 158, 159, 160, 161, 162, 163, 164, 165, 166, 167, 168, 169, 170, 171, 172, 173, 174, 175, 176, 177, 178, 179, 180, 181, 182, 183, 184, 185, 186, 187, 188, 189, 190, 191, 192, 193, 194, 195, 196, 197, 198, 199, 200, 201, 202, 203, 204, 205, 206] (by decide +kernel) (by decide +kernel)
set_option maxRecDepth 20000 in
theorem gX12_read_X12_is : GoodIn wsX12_read (wsV RX12 260 RX12 yX12_is wsX12_is) := goodIn_app (goodIn_of _ (by decide +kernel)) ggX12_read_X12_is
set_option maxRecDepth 20000 in
theorem ggX12_train_X12_isHall : GoodIn wsX12_train wsX12_isHall := goodIn_r _ [10, 11, 12, 13, 14, 15, 16, 17, 18, 19, 20, 21, 22, 23, 24, 25, 26, 27, 28, 29, 30, 31, 32, 33, 34, 35, 36, 37, 38, 39, 40, 41, 42, 43, 44, 45, 46, 47, 48, 49, 50, 51, 52, 53, 54, 55, 56, 57, 58, 59, 60, 61, 62, 63, 64, 65, 66, 67, 68, 69, 70, 71, 72, 73, 74, 75, 76, 77, 78, 79, 80, 81, 82, 83, 84, 85, 86, 87, 88, 89, 90, 91, 92, 93, 94, 95, 96, 97, 98] (by decide +kernel) (by decide +kernel)
set_option maxRecDepth 20000 in
theorem gX12_train_X12_isHall : GoodIn wsX12_train (wsV RX12 329 RX12 yX12_isHall wsX12_isHall) := goodIn_app (goodIn_of _ (by decide +kernel)) ggX12_train_X12_isHall
set_option maxRecDepth 20000 in
theorem ggX12_look_X12_isPlate : GoodIn wsX12_look wsX12_isPlate := goodIn_r _ [6, 7, 18, 19, 20, 21, 22, 23, 24, 25, 26, 27, 28, 29, 30, 31, 32, 33, 34, 35, 36, 37, 38, 39, 40, 41, 42, 43, 44, 45, 46, 47, 48, 49, 50, 51, 52, 53, 54, 55, 56, 57, 58, 59, 60, 61, 62, 63, 64, 65, 66, 67, 68, 69, 70, 71, 72, 73, 74, 75, 76, 77, 78, 79, 80, 81, 82, 83, 84, 85, 86, 87, 88, 89, 90, 91, 92, 93, 94, 95, 96, 97, 98, 99, 100, 101, 102, 103, 104] (by decide +kernel) (by decide +kernel)
set_option maxRecDepth 20000 in
theorem gX12_look_X12_isPlate : GoodIn wsX12_look (wsV RX12 338 RX12 yX12_isPlate wsX12_isPlate) := goodIn_app (goodIn_of _ (by decide +kernel)) ggX12_look_X12_isPlate
set_option maxRecDepth 20000 in
theorem ggX12_broken_X12_isPlate : GoodIn wsX12_broken wsX12_isPlate := goodIn_r _ [5, 6, 22, 23, 24, 25, 26, 27, 28, 29, 30, 31, 32, 33, 34, 35, 36, 37, 38, 39, 40, 41, 42, 43, 44, 45, 46, 47, 48, 49, 50, 51, 52, 53, 54, 55, 56, 57, 58, 59, 60, 61, 62, 63, 64, 65, 66, 67, 68, 69, 70, 71, 72, 73, 74, 75, 76, 77, 78, 79, 80, 81, 82, 83, 84, 85, 86, 87, 88, 89, 90, 91, 92, 93, 94, 95, 96, 97, 98, 99, 100, 101, 102, 103, 104, 105, 106, 107, 108] (by decide +kernel) (by decide +kernel)
set_option maxRecDepth 20000 in
theorem gX12_broken_X12_isPlate : GoodIn wsX12_broken (wsV RX12 338 RX12 yX12_isPlate wsX12_isPlate) := goodIn_app (goodIn_of _ (by decide +kernel)) ggX12_broken_X12_isPlate
set_option maxRecDepth 20000 in
theorem ggX12_way_X12_isHall : GoodIn wsX12_way wsX12_isHall := goodIn_r _ [6, 7, 39, 40, 41, 42, 43, 44, 45, 46, 47, 48, 49, 50, 51, 52, 53, 54, 55, 56, 57, 58, 59, 60, 61, 62, 63, 64, 65, 66, 67, 68, 69, 70, 71, 72, 73, 74, 75, 76, 77, 78, 79, 80, 81, 82, 83, 84, 85, 86, 87, 88, 89, 90, 91, 92, 93, 94, 95, 96, 97, 98, 99, 100, 101, 102, 103, 104, 105, 106, 107, 108, 109, 110, 111, 112, 113, 114, 115, 116, 117, 118, 119, 120, 121, 122, 123, 124, 125] (by decide +kernel) (by decide +kernel)
set_option maxRecDepth 20000 in
theorem gX12_way_X12_isHall : GoodIn wsX12_way (wsV RX12 329 RX12 yX12_isHall wsX12_isHall) := goodIn_app (goodIn_of _ (by decide +kernel)) ggX12_way_X12_isHall
set_option maxRecDepth 20000 in
theorem ggX12_way_X12_isHour : GoodIn wsX12_way wsX12_isHour := goodIn_r _ [10] (by decide +kernel) (by decide +kernel)
set_option maxRecDepth 20000 in
theorem gX12_way_X12_isHour : GoodIn wsX12_way (va_wsS RX12 341 yX12_isHour wsX12_isHour) := goodIn_app (goodIn_of _ (by decide +kernel)) ggX12_way_X12_isHour
set_option maxRecDepth 20000 in
theorem ggX12_way_X12_isKnown : GoodIn wsX12_way wsX12_isKnown := goodIn_r _ [14, 15, 39, 40, 41, 42, 43, 44, 45, 46, 47, 48, 49, 50, 51, 52, 53, 54, 55, 56, 57, 58, 59, 60, 61, 62, 63, 64, 65, 66, 67, 68, 69, 70, 71, 72, 73, 74, 75, 76, 77, 78, 79, 80, 81, 82, 83, 84, 85, 86, 87, 88, 89, 90, 91, 92, 93, 94, 95, 96, 97, 98, 99, 100, 101, 102, 103, 104, 105, 106, 107, 108, 109, 110, 111, 112, 113, 114, 115, 116, 117, 118, 119, 120, 121, 122, 123, 124, 125] (by decide +kernel) (by decide +kernel)
set_option maxRecDepth 20000 in
theorem gX12_way_X12_isKnown : GoodIn wsX12_way (wsV RX12 344 RX12 yX12_isKnown wsX12_isKnown) := goodIn_app (goodIn_of _ (by decide +kernel)) ggX12_way_X12_isKnown
set_option maxRecDepth 20000 in
theorem ggX12_way_X12_knows : GoodIn wsX12_way wsX12_knows := goodIn_r _ [19, 20, 21, 22, 23, 24, 39, 40, 41, 42, 43, 44, 45, 46, 47, 48, 49, 50, 51, 52, 53, 54, 55, 56, 57, 58, 59, 60, 61, 62, 63, 64, 65, 66, 67, 68, 69, 70, 71, 72, 73, 74, 75, 76, 77, 78, 79, 80, 81, 82, 83, 84, 85, 86, 87, 88, 89, 90, 91, 92, 93, 94, 95, 96, 97, 98, 99, 100, 101, 102, 103, 104, 105, 106, 107, 108, 109, 110, 111, 112, 113, 114, 115, 116, 117, 118, 119, 120, 121, 122, 123, 124, 125] (by decide +kernel) (by decide +kernel)
set_option maxRecDepth 20000 in
theorem gX12_way_X12_knows : GoodIn wsX12_way (wsV RX12 355 RX12 yX12_knows wsX12_knows) := goodIn_app (goodIn_of _ (by decide +kernel)) ggX12_way_X12_knows
set_option maxRecDepth 20000 in
theorem ggX12_way_X12_wayTo : GoodIn wsX12_way wsX12_wayTo := goodIn_r _ [28, 29, 1, 30, 31, 32, 33, 34, 35, 5, 36, 37, 21, 38, 39, 40, 41, 42, 43, 44, 45, 46, 47, 48, 49, 50, 51, 52, 53, 54, 55, 56, 57, 58, 59, 60, 61, 62, 63, 64, 65, 66, 67, 68, 69, 70, 71, 72, 73, 74, 75, 76, 77, 78, 79, 80, 81, 82, 83, 84, 85, 86, 87, 88, 89, 90, 91, 92, 93, 94, 95, 96, 97, 98, 99, 100, 101, 102, 103, 104, 105, 106, 107, 108, 109, 110, 111, 112, 113, 114, 115, 116, 117, 118, 119, 120, 121, 122, 123, 124, 125] (by decide +kernel) (by decide +kernel)
set_option maxRecDepth 20000 in
theorem gX12_way_X12_wayTo : GoodIn wsX12_way (wsV RX12 358 RX12 yX12_wayTo wsX12_wayTo) := goodIn_app (goodIn_of _ (by decide +kernel)) ggX12_way_X12_wayTo
set_option maxRecDepth 20000 in
theorem ggX12_show_X12_isHall : GoodIn wsX12_show wsX12_isHall := goodIn_r _ [13, 14, 15, 16, 17, 18, 19, 20, 21, 22, 23, 24, 25, 26, 27, 28, 29, 30, 31, 32, 33, 34, 35, 36, 37, 38, 39, 40, 41, 42, 43, 44, 45, 46, 47, 48, 49, 50, 51, 52, 53, 54, 55, 56, 57, 58, 59, 60, 61, 62, 63, 64, 65, 66, 67, 68, 69, 70, 71, 72, 73, 74, 75, 76, 77, 78, 79, 80, 81, 82, 83, 84, 85, 86, 87, 88, 89, 90, 91, 92, 93, 94, 95, 96, 97, 98, 99, 100, 101] (by decide +kernel) (by decide +kernel)
set_option maxRecDepth 20000 in
theorem gX12_show_X12_isHall : GoodIn wsX12_show (wsV RX12 329 RX12 yX12_isHall wsX12_isHall) := goodIn_app (goodIn_of _ (by decide +kernel)) ggX12_show_X12_isHall
set_option maxRecDepth 20000 in
theorem ggX12_can_X12_isKnown : GoodIn wsX12_can wsX12_isKnown := goodIn_r _ [6, 7, 73, 74, 75, 76, 77, 78, 79, 80, 81, 82, 83, 84, 85, 86, 87, 88, 89, 90, 91, 92, 93, 94, 95, 96, 97, 98, 99, 100, 101, 102, 103, 104, 105, 106, 107, 108, 109, 110, 111, 112, 113, 114, 115, 116, 117, 118, 119, 120, 121, 122, 123, 124, 125, 126, 127, 128, 129, 130, 131, 132, 133, 134, 135, 136, 137, 138, 139, 140, 141, 142, 143, 144, 145, 146, 147, 148, 149, 150, 151, 152, 153, 154, 155, 156, 157, 158, 159] (by decide +kernel) (by decide +kernel)
set_option maxRecDepth 20000 in
theorem gX12_can_X12_isKnown : GoodIn wsX12_can (wsV RX12 344 RX12 yX12_isKnown wsX12_isKnown) := goodIn_app (goodIn_of _ (by decide +kernel)) ggX12_can_X12_isKnown
set_option maxRecDepth 20000 in
theorem ggX12_can_X12_knows : GoodIn wsX12_can wsX12_knows := goodIn_r _ [11, 12, 13, 14, 15, 16, 73, 74, 75, 76, 77, 78, 79, 80, 81, 82, 83, 84, 85, 86, 87, 88, 89, 90, 91, 92, 93, 94, 95, 96, 97, 98, 99, 100, 101, 102, 103, 104, 105, 106, 107, 108, 109, 110, 111, 112, 113, 114, 115, 116, 117, 118, 119, 120, 121, 122, 123, 124, 125, 126, 127, 128, 129, 130, 131, 132, 133, 134, 135, 136, 137, 138, 139, 140, 141, 142, 143, 144, 145, 146, 147, 148, 149, 150, 151, 152, 153, 154, 155, 156, 157, 158, 159] (by decide +kernel) (by decide +kernel)
set_option maxRecDepth 20000 in
theorem gX12_can_X12_knows : GoodIn wsX12_can (wsV RX12 355 RX12 yX12_knows wsX12_knows) := goodIn_app (goodIn_of _ (by decide +kernel)) ggX12_can_X12_knows
set_option maxRecDepth 20000 in
theorem ggX12_can_X12_keeps : GoodIn wsX12_can wsX12_keeps := goodIn_r _ [20, 21, 22, 23, 24, 25, 1, 26, 27, 28, 29, 5, 30, 31, 32, 33, 34, 35, 36, 37, 38, 39, 40, 41, 42, 43, 44, 45, 46, 47, 48, 49, 50, 51, 52, 14, 15, 16, 53, 54, 55, 56, 57, 58, 59, 60, 61, 62, 63, 64, 65, 66, 13, 67, 73, 74, 75, 76, 77, 78, 79, 80, 81, 82, 83, 84, 85, 86, 87, 88, 89, 90, 91, 92, 93, 94, 95, 96, 97, 98, 99, 100, 101, 102, 103, 104, 105, 106, 107, 108, 109, 110, 111, 112, 113, 114, 115, 116, 117, 118, 119, 120, 121, 122, 123, 124, 125, 126, 127, 128, 129, 130, 131, 132, 133, 134, 135, 136, 137, 138, 139, 140, 141, 142, 143, 144, 145, 146, 147, 148, 149, 150, 151, 152, 153, 154, 155, 156, 157, 158, 159] (by decide +kernel) (by decide +kernel)
set_option maxRecDepth 20000 in
theorem gX12_can_X12_keeps : GoodIn wsX12_can (wsV RX12 375 RX12 yX12_keeps wsX12_keeps) := goodIn_app (goodIn_of _ (by decide +kernel)) ggX12_can_X12_keeps
set_option maxRecDepth 20000 in
theorem ggX12_can_X12_worthOf : GoodIn wsX12_can wsX12_worthOf := goodIn_r _ [71, 1, 72, 73, 74, 75, 76, 77, 78, 79, 80, 81, 82, 83, 84, 85, 86, 87, 88, 89, 90, 91, 92, 93, 94, 95, 96, 97, 98, 99, 100, 101, 102, 103, 104, 105, 106, 107, 108, 109, 110, 111, 112, 113, 114, 115, 116, 117, 118, 119, 120, 121, 122, 123, 124, 125, 126, 127, 128, 129, 130, 131, 132, 133, 134, 135, 136, 137, 138, 139, 140, 141, 142, 143, 144, 145, 146, 147, 148, 149, 150, 151, 152, 153, 154, 155, 156, 157, 158, 159] (by decide +kernel) (by decide +kernel)
set_option maxRecDepth 20000 in
theorem gX12_can_X12_worthOf : GoodIn wsX12_can (wsV RX12 378 RX12 yX12_worthOf wsX12_worthOf) := goodIn_app (goodIn_of _ (by decide +kernel)) ggX12_can_X12_worthOf
set_option maxRecDepth 20000 in
theorem ggX12_makes_X12_knows : GoodIn wsX12_makes wsX12_knows := goodIn_r _ [20, 21, 22, 23, 24, 25, 83, 84, 85, 86, 87, 88, 89, 90, 91, 92, 93, 94, 95, 96, 97, 98, 99, 100, 101, 102, 103, 104, 105, 106, 107, 108, 109, 110, 111, 112, 113, 114, 115, 116, 117, 118, 119, 120, 121, 122, 123, 124, 125, 126, 127, 128, 129, 130, 131, 132, 133, 134, 135, 136, 137, 138, 139, 140, 141, 142, 143, 144, 145, 146, 147, 148, 149, 150, 151, 152, 153, 154, 155, 156, 157, 158, 159, 160, 161, 162, 163, 164, 165, 166, 167, 168, 169] (by decide +kernel) (by decide +kernel)
set_option maxRecDepth 20000 in
theorem gX12_makes_X12_knows : GoodIn wsX12_makes (wsV RX12 355 RX12 yX12_knows wsX12_knows) := goodIn_app (goodIn_of _ (by decide +kernel)) ggX12_makes_X12_knows
set_option maxRecDepth 20000 in
theorem ggX12_makes_X12_keeps : GoodIn wsX12_makes wsX12_keeps := goodIn_r _ [34, 2, 3, 35, 36, 37, 1, 38, 39, 40, 41, 19, 42, 43, 44, 45, 46, 9, 47, 48, 49, 11, 50, 51, 52, 53, 54, 55, 56, 13, 15, 57, 58, 59, 60, 23, 24, 25, 61, 62, 63, 64, 65, 66, 67, 68, 69, 70, 71, 72, 73, 74, 22, 75, 83, 84, 85, 86, 87, 88, 89, 90, 91, 92, 93, 94, 95, 96, 97, 98, 99, 100, 101, 102, 103, 104, 105, 106, 107, 108, 109, 110, 111, 112, 113, 114, 115, 116, 117, 118, 119, 120, 121, 122, 123, 124, 125, 126, 127, 128, 129, 130, 131, 132, 133, 134, 135, 136, 137, 138, 139, 140, 141, 142, 143, 144, 145, 146, 147, 148, 149, 150, 151, 152, 153, 154, 155, 156, 157, 158, 159, 160, 161, 162, 163, 164, 165, 166, 167, 168, 169] (by decide +kernel) (by decide +kernel)
set_option maxRecDepth 20000 in
theorem gX12_makes_X12_keeps : GoodIn wsX12_makes (wsV RX12 375 RX12 yX12_keeps wsX12_keeps) := goodIn_app (goodIn_of _ (by decide +kernel)) ggX12_makes_X12_keeps
set_option maxRecDepth 20000 in
theorem ggX12_make_X12_isKnown : GoodIn wsX12_make wsX12_isKnown := goodIn_r _ [6, 7, 92, 93, 94, 95, 96, 97, 98, 99, 100, 101, 102, 103, 104, 105, 106, 107, 108, 109, 110, 111, 112, 113, 114, 115, 116, 117, 118, 119, 120, 121, 122, 123, 124, 125, 126, 127, 128, 129, 130, 131, 132, 133, 134, 135, 136, 137, 138, 139, 140, 141, 142, 143, 144, 145, 146, 147, 148, 149, 150, 151, 152, 153, 154, 155, 156, 157, 158, 159, 160, 161, 162, 163, 164, 165, 166, 167, 168, 169, 170, 171, 172, 173, 174, 175, 176, 177, 178] (by decide +kernel) (by decide +kernel)
set_option maxRecDepth 20000 in
theorem gX12_make_X12_isKnown : GoodIn wsX12_make (wsV RX12 344 RX12 yX12_isKnown wsX12_isKnown) := goodIn_app (goodIn_of _ (by decide +kernel)) ggX12_make_X12_isKnown
set_option maxRecDepth 20000 in
theorem ggX12_make_X12_makes : GoodIn wsX12_make wsX12_makes := goodIn_r _ [11, 12, 13, 14, 1, 15, 16, 17, 18, 19, 20, 21, 22, 23, 24, 25, 26, 27, 28, 5, 29, 30, 31, 32, 33, 34, 35, 36, 37, 38, 39, 40, 41, 42, 43, 44, 45, 46, 47, 48, 49, 50, 51, 52, 53, 54, 55, 56, 57, 58, 59, 60, 61, 62, 63, 64, 65, 66, 67, 68, 69, 70, 71, 72, 73, 74, 75, 76, 77, 78, 79, 80, 81, 82, 83, 84, 85, 86, 87, 88, 89, 90, 91, 92, 93, 94, 95, 96, 97, 98, 99, 100, 101, 102, 103, 104, 105, 106, 107, 108, 109, 110, 111, 112, 113, 114, 115, 116, 117, 118, 119, 120, 121, 122, 123, 124, 125, 126, 127, 128, 129, 130, 131, 132, 133, 134, 135, 136, 137, 138, 139, 140, 141, 142, 143, 144, 145, 146, 147, 148, 149, 150, 151, 152, 153, 154, 155, 156, 157, 158, 159, 160, 161, 162, 163, 164, 165, 166, 167, 168, 169, 170, 171, 172, 173, 174, 175, 176, 177, 178] (by decide +kernel) (by decide +kernel)
set_option maxRecDepth 20000 in
theorem gX12_make_X12_makes : GoodIn wsX12_make (wsV RX12 397 RX12 yX12_makes wsX12_makes) := goodIn_app (goodIn_of _ (by decide +kernel)) ggX12_make_X12_makes
set_option maxRecDepth 20000 in
theorem ggX12_make_X12_worthOf : GoodIn wsX12_make wsX12_worthOf := goodIn_r _ [38, 12, 39, 92, 93, 94, 95, 96, 97, 98, 99, 100, 101, 102, 103, 104, 105, 106, 107, 108, 109, 110, 111, 112, 113, 114, 115, 116, 117, 118, 119, 120, 121, 122, 123, 124, 125, 126, 127, 128, 129, 130, 131, 132, 133, 134, 135, 136, 137, 138, 139, 140, 141, 142, 143, 144, 145, 146, 147, 148, 149, 150, 151, 152, 153, 154, 155, 156, 157, 158, 159, 160, 161, 162, 163, 164, 165, 166, 167, 168, 169, 170, 171, 172, 173, 174, 175, 176, 177, 178] (by decide +kernel) (by decide +kernel)
set_option maxRecDepth 20000 in
theorem gX12_make_X12_worthOf : GoodIn wsX12_make (wsV RX12 378 RX12 yX12_worthOf wsX12_worthOf) := goodIn_app (goodIn_of _ (by decide +kernel)) ggX12_make_X12_worthOf
set_option maxRecDepth 20000 in
theorem ggX12_cue_X12_isKept : GoodIn wsX12_cue wsX12_isKept := goodIn_r _ [13, 14, 15, 16, 27, 28, 29, 30, 31, 32, 33, 34, 35, 36, 37, 38, 39, 40, 41, 42, 43, 44, 45, 46, 47, 48, 49, 50, 51, 52, 53, 54, 55, 56, 57, 58, 59, 60, 61, 62, 63, 64, 65, 66, 67, 68, 69, 70, 71, 72, 73, 74, 75, 76, 77, 78, 79, 80, 81, 82, 83, 84, 85, 86, 87, 88, 89, 90, 91, 92, 93, 94, 95, 96, 97, 98, 99, 100, 101, 102, 103, 104, 105, 106, 107, 108, 109, 110, 111, 112, 113] (by decide +kernel) (by decide +kernel)
set_option maxRecDepth 20000 in
theorem gX12_cue_X12_isKept : GoodIn wsX12_cue (wsV RX12 401 RX12 yX12_isKept wsX12_isKept) := goodIn_app (goodIn_of _ (by decide +kernel)) ggX12_cue_X12_isKept
set_option maxRecDepth 20000 in
theorem ggX12_showing_X12_isKept : GoodIn wsX12_showing wsX12_isKept := goodIn_r _ [11, 12, 13, 14, 50, 51, 52, 53, 54, 55, 56, 57, 58, 59, 60, 61, 62, 63, 64, 65, 66, 67, 68, 69, 70, 71, 72, 73, 74, 75, 76, 77, 78, 79, 80, 81, 82, 83, 84, 85, 86, 87, 88, 89, 90, 91, 92, 93, 94, 95, 96, 97, 98, 99, 100, 101, 102, 103, 104, 105, 106, 107, 108, 109, 110, 111, 112, 113, 114, 115, 116, 117, 118, 119, 120, 121, 122, 123, 124, 125, 126, 127, 128, 129, 130, 131, 132, 133, 134, 135, 136] (by decide +kernel) (by decide +kernel)
set_option maxRecDepth 20000 in
theorem gX12_showing_X12_isKept : GoodIn wsX12_showing (wsV RX12 401 RX12 yX12_isKept wsX12_isKept) := goodIn_app (goodIn_of _ (by decide +kernel)) ggX12_showing_X12_isKept
set_option maxRecDepth 20000 in
theorem ggX12_blame_X12_isPlate : GoodIn wsX12_blame wsX12_isPlate := goodIn_r _ [14, 15, 34, 35, 36, 37, 38, 39, 40, 41, 42, 43, 44, 45, 46, 47, 48, 49, 50, 51, 52, 53, 54, 55, 56, 57, 58, 59, 60, 61, 62, 63, 64, 65, 66, 67, 68, 69, 70, 71, 72, 73, 74, 75, 76, 77, 78, 79, 80, 81, 82, 83, 84, 85, 86, 87, 88, 89, 90, 91, 92, 93, 94, 95, 96, 97, 98, 99, 100, 101, 102, 103, 104, 105, 106, 107, 108, 109, 110, 111, 112, 113, 114, 115, 116, 117, 118, 119, 120] (by decide +kernel) (by decide +kernel)
set_option maxRecDepth 20000 in
theorem gX12_blame_X12_isPlate : GoodIn wsX12_blame (wsV RX12 338 RX12 yX12_isPlate wsX12_isPlate) := goodIn_app (goodIn_of _ (by decide +kernel)) ggX12_blame_X12_isPlate
set_option maxRecDepth 20000 in
theorem ggX12_where_X12_isPlate : GoodIn wsX12_where wsX12_isPlate := goodIn_r _ [9, 10, 27, 28, 29, 30, 31, 32, 33, 34, 35, 36, 37, 38, 39, 40, 41, 42, 43, 44, 45, 46, 47, 48, 49, 50, 51, 52, 53, 54, 55, 56, 57, 58, 59, 60, 61, 62, 63, 64, 65, 66, 67, 68, 69, 70, 71, 72, 73, 74, 75, 76, 77, 78, 79, 80, 81, 82, 83, 84, 85, 86, 87, 88, 89, 90, 91, 92, 93, 94, 95, 96, 97, 98, 99, 100, 101, 102, 103, 104, 105, 106, 107, 108, 109, 110, 111, 112, 113] (by decide +kernel) (by decide +kernel)
set_option maxRecDepth 20000 in
theorem gX12_where_X12_isPlate : GoodIn wsX12_where (wsV RX12 338 RX12 yX12_isPlate wsX12_isPlate) := goodIn_app (goodIn_of _ (by decide +kernel)) ggX12_where_X12_isPlate
