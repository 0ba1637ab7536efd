set_option maxRecDepth 20000 in
theorem ggX7_init_J7_fill_53178 : GoodIn wsX7_init wsJ7_fill_53178 := goodIn_r _ [9] (by decide +kernel) (by decide +kernel)
set_option maxRecDepth 20000 in
theorem gX7_init_J7_fill_53178 : GoodIn wsX7_init (va_wsS RX7 15 yJ7_fill_53178 wsJ7_fill_53178) := goodIn_app (goodIn_of _ (by decide +kernel)) ggX7_init_J7_fill_53178
set_option maxRecDepth 20000 in
theorem ggX7_truthsOf_X10_isLiteralTrue : GoodIn wsX7_truthsOf wsX10_isLiteralTrue := goodIn_r _ [4] (by decide +kernel) (by decide +kernel)
set_option maxRecDepth 20000 in
theorem gX7_truthsOf_X10_isLiteralTrue_n21 : GoodIn wsX7_truthsOf (wsX10_isLiteralTrue) := ggX7_truthsOf_X10_isLiteralTrue
set_option maxRecDepth 20000 in
theorem ggX9_isTrueOf_X10_isLiteralTrue : GoodIn wsX9_isTrueOf wsX10_isLiteralTrue := goodIn_r _ [8] (by decide +kernel) (by decide +kernel)
set_option maxRecDepth 20000 in
theorem gX9_isTrueOf_X10_isLiteralTrue_n29 : GoodIn wsX9_isTrueOf (wsX10_isLiteralTrue) := ggX9_isTrueOf_X10_isLiteralTrue
set_option maxRecDepth 20000 in
theorem ggX9_isTrueOf_X10_isEnough : GoodIn wsX9_isTrueOf wsX10_isEnough := goodIn_r _ [10] (by decide +kernel) (by decide +kernel)
set_option maxRecDepth 20000 in
theorem gX9_isTrueOf_X10_isEnough_n33 : GoodIn wsX9_isTrueOf (wsX10_isEnough) := ggX9_isTrueOf_X10_isEnough
set_option maxRecDepth 20000 in
theorem ggX5_init_X9_init : GoodIn wsX5_init wsX9_init := goodIn_r _ [11, 12, 2, 3, 13, 14, 19, 20, 21, 22, 23] (by decide +kernel) (by decide +kernel)
set_option maxRecDepth 20000 in
theorem gX5_init_X9_init : GoodIn wsX5_init (wsX9_init) := ggX5_init_X9_init
set_option maxRecDepth 20000 in
theorem ggX5_append_X9_restart : GoodIn wsX5_append wsX9_restart := goodIn_r _ [7, 8, 9, 10, 11, 16, 17, 18, 19, 20] (by decide +kernel) (by decide +kernel)
set_option maxRecDepth 20000 in
theorem gX5_append_X9_restart : GoodIn wsX5_append (wsV RX5 28 RX9 yX9_restart wsX9_restart) := goodIn_app (goodIn_of _ (by decide +kernel)) ggX5_append_X9_restart
set_option maxRecDepth 20000 in
theorem ggX5_isTrueOf_X5_toldAt : GoodIn wsX5_isTrueOf wsX5_toldAt := goodIn_r _ [8, 1, 9, 25, 26, 27, 28] (by decide +kernel) (by decide +kernel)
set_option maxRecDepth 20000 in
theorem gX5_isTrueOf_X5_toldAt : GoodIn wsX5_isTrueOf (wsV RX5 32 RX5 yX5_toldAt wsX5_toldAt) := goodIn_app (goodIn_of _ (by decide +kernel)) ggX5_isTrueOf_X5_toldAt
set_option maxRecDepth 20000 in
theorem ggX5_isTrueOf_X9_isTrueOf : GoodIn wsX5_isTrueOf wsX9_isTrueOf := goodIn_r _ [14, 15, 16, 17, 18, 19, 20, 21, 22, 23, 24, 29, 30, 31, 32, 33] (by decide +kernel) (by decide +kernel)
set_option maxRecDepth 20000 in
theorem gX5_isTrueOf_X9_isTrueOf : GoodIn wsX5_isTrueOf (wsV RX5 36 RX9 yX9_isTrueOf wsX9_isTrueOf) := goodIn_app (goodIn_of _ (by decide +kernel)) ggX5_isTrueOf_X9_isTrueOf
set_option maxRecDepth 20000 in
theorem ggX5_isTrueOf_X10_isEnough : GoodIn wsX5_isTrueOf wsX10_isEnough := goodIn_r _ [24] (by decide +kernel) (by decide +kernel)
set_option maxRecDepth 20000 in
theorem gX5_isTrueOf_X10_isEnough_n40 : GoodIn wsX5_isTrueOf (wsX10_isEnough) := ggX5_isTrueOf_X10_isEnough
set_option maxRecDepth 20000 in
theorem ggX4_init_X1_init : GoodIn wsX4_init wsX1_init := goodIn_r _ [4, 5, 6, 7] (by decide +kernel) (by decide +kernel)
set_option maxRecDepth 20000 in
theorem gX4_init_X1_init_n3 : GoodIn wsX4_init (wsX1_init) := ggX4_init_X1_init
set_option maxRecDepth 20000 in
theorem ggX4_make_J13_bitCount_95d88 : GoodIn wsX4_make wsJ13_bitCount_95d88 := goodIn_r _ [12, 13, 14, 15] (by decide +kernel) (by decide +kernel)
set_option maxRecDepth 20000 in
theorem gX4_make_J13_bitCount_95d88 : GoodIn wsX4_make (va_wsS RX4 26 yJ13_bitCount_95d88 wsJ13_bitCount_95d88) := goodIn_app (goodIn_of _ (by decide +kernel)) ggX4_make_J13_bitCount_95d88
set_option maxRecDepth 20000 in
theorem ggX4_seek_X10_firstOf : GoodIn wsX4_seek wsX10_firstOf := goodIn_r _ [8] (by decide +kernel) (by decide +kernel)
set_option maxRecDepth 20000 in
theorem gX4_seek_X10_firstOf_n38 : GoodIn wsX4_seek (wsX10_firstOf) := ggX4_seek_X10_firstOf
set_option maxRecDepth 20000 in
theorem ggX4_seek_X4_cost : GoodIn wsX4_seek wsX4_cost := goodIn_r _ [13, 14, 15, 16, 1, 2, 17, 18, 19, 20, 21, 22, 23, 24, 25, 26, 27, 28, 29, 30, 31, 32, 33, 34, 35, 36, 37, 38, 39, 40, 41, 42, 43, 44, 45, 46, 47] (by decide +kernel) (by decide +kernel)
set_option maxRecDepth 20000 in
theorem gX4_seek_X4_cost : GoodIn wsX4_seek (wsV RX4 47 RX4 yX4_cost wsX4_cost) := goodIn_app (goodIn_of _ (by decide +kernel)) ggX4_seek_X4_cost
set_option maxRecDepth 20000 in
theorem ggX4_cost_J13_bitCount_95d88 : GoodIn wsX4_cost wsJ13_bitCount_95d88 := goodIn_r _ [9, 10, 11, 12] (by decide +kernel) (by decide +kernel)
set_option maxRecDepth 20000 in
theorem gX4_cost_J13_bitCount_95d88 : GoodIn wsX4_cost (va_wsS RX4 26 yJ13_bitCount_95d88 wsJ13_bitCount_95d88) := goodIn_app (goodIn_of _ (by decide +kernel)) ggX4_cost_J13_bitCount_95d88
