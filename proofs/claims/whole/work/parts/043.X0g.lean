set_option maxRecDepth 20000 in
theorem ggX0_init_Jx4a65c_init_da8c8 : GoodIn wsX0_init wsJx4a65c_init_da8c8 := goodIn_r _ [10, 11, 12, 13, 14, 15, 16, 17, 18, 19, 20, 21, 22, 2, 3, 23, 24, 25] (by decide +kernel) (by decide +kernel)
set_option maxRecDepth 20000 in
theorem gX0_init_Jx4a65c_init_da8c8 : GoodIn wsX0_init (wsJx4a65c_init_da8c8) := ggX0_init_Jx4a65c_init_da8c8
set_option maxRecDepth 20000 in
theorem ggX0_size_Jx4a65c_size_8abf5 : GoodIn wsX0_size wsJx4a65c_size_8abf5 := goodIn_r _ [6, 7, 9, 10, 11] (by decide +kernel) (by decide +kernel)
set_option maxRecDepth 20000 in
theorem gX0_size_Jx4a65c_size_8abf5 : GoodIn wsX0_size (wsV RX0 16 RJx4a65c yJx4a65c_size_8abf5 wsJx4a65c_size_8abf5) := goodIn_app (goodIn_of _ (by decide +kernel)) ggX0_size_Jx4a65c_size_8abf5
set_option maxRecDepth 20000 in
theorem ggX0_hadAmong_Jx4a65c_size_8abf5 : GoodIn wsX0_hadAmong wsJx4a65c_size_8abf5 := goodIn_r _ [9, 10, 42, 43, 44] (by decide +kernel) (by decide +kernel)
set_option maxRecDepth 20000 in
theorem gX0_hadAmong_Jx4a65c_size_8abf5 : GoodIn wsX0_hadAmong (wsV RX0 16 RJx4a65c yJx4a65c_size_8abf5 wsJx4a65c_size_8abf5) := goodIn_app (goodIn_of _ (by decide +kernel)) ggX0_hadAmong_Jx4a65c_size_8abf5
set_option maxRecDepth 20000 in
theorem ggX0_hadAmong_Jx4a65c_get_915e3 : GoodIn wsX0_hadAmong wsJx4a65c_get_915e3 := goodIn_r _ [14, 10, 15, 16, 17, 18, 19, 20, 21, 22, 23, 24, 25, 8, 26, 27, 42, 43, 44] (by decide +kernel) (by decide +kernel)
set_option maxRecDepth 20000 in
theorem gX0_hadAmong_Jx4a65c_get_915e3 : GoodIn wsX0_hadAmong (wsV RX0 20 RJx4a65c yJx4a65c_get_915e3 wsJx4a65c_get_915e3) := goodIn_app (goodIn_of _ (by decide +kernel)) ggX0_hadAmong_Jx4a65c_get_915e3
set_option maxRecDepth 20000 in
theorem ggX0_hadAmong_X4_same : GoodIn wsX0_hadAmong wsX4_same := goodIn_r _ [32, 33, 34, 35, 36, 37, 45, 46, 47, 48, 49] (by decide +kernel) (by decide +kernel)
set_option maxRecDepth 20000 in
theorem gX0_hadAmong_X4_same : GoodIn wsX0_hadAmong (wsV RX0 34 RX4 yX4_same wsX4_same) := goodIn_app (goodIn_of _ (by decide +kernel)) ggX0_hadAmong_X4_same
set_option maxRecDepth 20000 in
theorem ggX0_has_Jx4a65c_size_8abf5 : GoodIn wsX0_has wsJx4a65c_size_8abf5 := goodIn_r _ [6, 7, 44, 45, 46] (by decide +kernel) (by decide +kernel)
set_option maxRecDepth 20000 in
theorem gX0_has_Jx4a65c_size_8abf5 : GoodIn wsX0_has (wsV RX0 16 RJx4a65c yJx4a65c_size_8abf5 wsJx4a65c_size_8abf5) := goodIn_app (goodIn_of _ (by decide +kernel)) ggX0_has_Jx4a65c_size_8abf5
set_option maxRecDepth 20000 in
theorem ggX0_has_X0_hadAmong : GoodIn wsX0_has wsX0_hadAmong := goodIn_r _ [12, 1, 13, 14, 15, 2, 3, 4, 5, 6, 7, 16, 17, 18, 19, 20, 21, 22, 23, 24, 25, 26, 27, 28, 29, 30, 31, 32, 33, 34, 35, 36, 37, 38, 39, 40, 41, 42, 43, 47, 48, 49, 44, 45, 46, 50, 51, 52, 53, 54] (by decide +kernel) (by decide +kernel)
set_option maxRecDepth 20000 in
theorem gX0_has_X0_hadAmong : GoodIn wsX0_has (wsV RX0 40 RX0 yX0_hadAmong wsX0_hadAmong) := goodIn_app (goodIn_of _ (by decide +kernel)) ggX0_has_X0_hadAmong
set_option maxRecDepth 20000 in
theorem ggX0_hasAnyOf_Jx4a65c_size_8abf5 : GoodIn wsX0_hasAnyOf wsJx4a65c_size_8abf5 := goodIn_r _ [8, 9, 31, 32, 33] (by decide +kernel) (by decide +kernel)
set_option maxRecDepth 20000 in
theorem gX0_hasAnyOf_Jx4a65c_size_8abf5 : GoodIn wsX0_hasAnyOf (wsV RX0 16 RJx4a65c yJx4a65c_size_8abf5 wsJx4a65c_size_8abf5) := goodIn_app (goodIn_of _ (by decide +kernel)) ggX0_hasAnyOf_Jx4a65c_size_8abf5
set_option maxRecDepth 20000 in
theorem ggX0_hasAnyOf_Jx4a65c_get_915e3 : GoodIn wsX0_hasAnyOf wsJx4a65c_get_915e3 := goodIn_r _ [13, 9, 14, 15, 16, 17, 18, 19, 20, 21, 22, 23, 24, 7, 25, 26, 31, 32, 33] (by decide +kernel) (by decide +kernel)
set_option maxRecDepth 20000 in
theorem gX0_hasAnyOf_Jx4a65c_get_915e3 : GoodIn wsX0_hasAnyOf (wsV RX0 20 RJx4a65c yJx4a65c_get_915e3 wsJx4a65c_get_915e3) := goodIn_app (goodIn_of _ (by decide +kernel)) ggX0_hasAnyOf_Jx4a65c_get_915e3
set_option maxRecDepth 20000 in
theorem ggX0_hasRefunded_Jx4a65c_size_8abf5 : GoodIn wsX0_hasRefunded wsJx4a65c_size_8abf5 := goodIn_r _ [9, 10, 42, 43, 44] (by decide +kernel) (by decide +kernel)
set_option maxRecDepth 20000 in
theorem gX0_hasRefunded_Jx4a65c_size_8abf5 : GoodIn wsX0_hasRefunded (wsV RX0 16 RJx4a65c yJx4a65c_size_8abf5 wsJx4a65c_size_8abf5) := goodIn_app (goodIn_of _ (by decide +kernel)) ggX0_hasRefunded_Jx4a65c_size_8abf5
set_option maxRecDepth 20000 in
theorem ggX0_hasRefunded_Jx4a65c_get_915e3 : GoodIn wsX0_hasRefunded wsJx4a65c_get_915e3 := goodIn_r _ [14, 10, 15, 16, 17, 18, 19, 20, 21, 22, 23, 24, 25, 8, 26, 27, 42, 43, 44] (by decide +kernel) (by decide +kernel)
set_option maxRecDepth 20000 in
theorem gX0_hasRefunded_Jx4a65c_get_915e3 : GoodIn wsX0_hasRefunded (wsV RX0 20 RJx4a65c yJx4a65c_get_915e3 wsJx4a65c_get_915e3) := goodIn_app (goodIn_of _ (by decide +kernel)) ggX0_hasRefunded_Jx4a65c_get_915e3
set_option maxRecDepth 20000 in
theorem ggX0_hasRefunded_X4_same : GoodIn wsX0_hasRefunded wsX4_same := goodIn_r _ [32, 33, 34, 35, 36, 37, 45, 46, 47, 48, 49] (by decide +kernel) (by decide +kernel)
set_option maxRecDepth 20000 in
theorem gX0_hasRefunded_X4_same : GoodIn wsX0_hasRefunded (wsV RX0 34 RX4 yX4_same wsX4_same) := goodIn_app (goodIn_of _ (by decide +kernel)) ggX0_hasRefunded_X4_same
set_option maxRecDepth 20000 in
theorem ggX0_markRefunded_Jx4a65c_size_8abf5 : GoodIn wsX0_markRefunded wsJx4a65c_size_8abf5 := goodIn_r _ [9, 10, 42, 43, 44] (by decide +kernel) (by decide +kernel)
set_option maxRecDepth 20000 in
theorem gX0_markRefunded_Jx4a65c_size_8abf5 : GoodIn wsX0_markRefunded (wsV RX0 16 RJx4a65c yJx4a65c_size_8abf5 wsJx4a65c_size_8abf5) := goodIn_app (goodIn_of _ (by decide +kernel)) ggX0_markRefunded_Jx4a65c_size_8abf5
set_option maxRecDepth 20000 in
theorem ggX0_markRefunded_Jx4a65c_get_915e3 : GoodIn wsX0_markRefunded wsJx4a65c_get_915e3 := goodIn_r _ [14, 10, 15, 16, 17, 18, 19, 20, 21, 22, 23, 24, 25, 8, 26, 27, 42, 43, 44] (by decide +kernel) (by decide +kernel)
set_option maxRecDepth 20000 in
theorem gX0_markRefunded_Jx4a65c_get_915e3 : GoodIn wsX0_markRefunded (wsV RX0 20 RJx4a65c yJx4a65c_get_915e3 wsJx4a65c_get_915e3) := goodIn_app (goodIn_of _ (by decide +kernel)) ggX0_markRefunded_Jx4a65c_get_915e3
set_option maxRecDepth 20000 in
theorem ggX0_markRefunded_X4_same : GoodIn wsX0_markRefunded wsX4_same := goodIn_r _ [32, 33, 34, 35, 36, 37, 45, 46, 47, 48, 49] (by decide +kernel) (by decide +kernel)
set_option maxRecDepth 20000 in
theorem gX0_markRefunded_X4_same : GoodIn wsX0_markRefunded (wsV RX0 34 RX4 yX4_same wsX4_same) := goodIn_app (goodIn_of _ (by decide +kernel)) ggX0_markRefunded_X4_same
set_option maxRecDepth 20000 in
theorem ggX0_takeRecord_X0_has : GoodIn wsX0_takeRecord wsX0_has := goodIn_r _ [9, 1, 10, 11, 12, 13, 14, 15, 16, 17, 18, 8, 19, 20, 21, 22, 23, 24, 25, 26, 27, 28, 29, 30, 31, 32, 33, 34, 35, 36, 37, 38, 39, 40, 41, 42, 43, 44, 45, 46, 47, 48, 49, 111, 115, 116, 117, 112, 113, 114, 118, 119, 120, 121, 122] (by decide +kernel) (by decide +kernel)
set_option maxRecDepth 20000 in
theorem gX0_takeRecord_X0_has : GoodIn wsX0_takeRecord (wsV RX0 48 RX0 yX0_has wsX0_has) := goodIn_app (goodIn_of _ (by decide +kernel)) ggX0_takeRecord_X0_has
set_option maxRecDepth 20000 in
theorem ggX0_takeRecord_X1_init : GoodIn wsX0_takeRecord wsX1_init := goodIn_r _ [52, 53, 54, 55, 56, 57, 112, 113, 114] (by decide +kernel) (by decide +kernel)
set_option maxRecDepth 20000 in
theorem gX0_takeRecord_X1_init : GoodIn wsX0_takeRecord (wsX1_init) := ggX0_takeRecord_X1_init
set_option maxRecDepth 20000 in
theorem ggX0_takeRecord_Jx4a65c_add_9ea2d : GoodIn wsX0_takeRecord wsJx4a65c_add_9ea2d := goodIn_r _ [61, 62, 63, 39, 15, 64, 65, 66, 13, 67, 68, 69, 70, 71, 72, 73, 74, 75, 76, 77, 78, 79, 80, 81, 82, 83, 84, 85, 86, 87, 88, 89, 90, 91, 92, 93, 94, 95, 96, 97, 98, 99, 100, 101, 102, 103, 104, 105, 106, 107, 108, 109, 110, 115, 116, 117] (by decide +kernel) (by decide +kernel)
set_option maxRecDepth 20000 in
theorem gX0_takeRecord_Jx4a65c_add_9ea2d : GoodIn wsX0_takeRecord (wsV RX0 55 RJx4a65c yJx4a65c_add_9ea2d wsJx4a65c_add_9ea2d) := goodIn_app (goodIn_of _ (by decide +kernel)) ggX0_takeRecord_Jx4a65c_add_9ea2d
set_option maxRecDepth 20000 in
theorem ggX3_init_Jx4a65c_init_da8c8 : GoodIn wsX3_init wsJx4a65c_init_da8c8 := goodIn_r _ [16, 17, 18, 19, 20, 21, 22, 23, 24, 25, 26, 27, 28, 2, 3, 36, 37, 38] (by decide +kernel) (by decide +kernel)
set_option maxRecDepth 20000 in
theorem gX3_init_Jx4a65c_init_da8c8 : GoodIn wsX3_init (wsJx4a65c_init_da8c8) := ggX3_init_Jx4a65c_init_da8c8
set_option maxRecDepth 20000 in
theorem ggX3_logIsFull_Jx4a65c_size_8abf5 : GoodIn wsX3_logIsFull wsJx4a65c_size_8abf5 := goodIn_r _ [6, 7, 15, 16, 17] (by decide +kernel) (by decide +kernel)
set_option maxRecDepth 20000 in
theorem gX3_logIsFull_Jx4a65c_size_8abf5 : GoodIn wsX3_logIsFull (wsV RX3 38 RJx4a65c yJx4a65c_size_8abf5 wsJx4a65c_size_8abf5) := goodIn_app (goodIn_of _ (by decide +kernel)) ggX3_logIsFull_Jx4a65c_size_8abf5
set_option maxRecDepth 20000 in
theorem ggX3_does_X4_same : GoodIn wsX3_does wsX4_same := goodIn_r _ [7, 8, 9, 10, 11, 12, 20, 21, 22, 23, 24] (by decide +kernel) (by decide +kernel)
set_option maxRecDepth 20000 in
theorem gX3_does_X4_same : GoodIn wsX3_does (wsV RX3 42 RX4 yX4_same wsX4_same) := goodIn_app (goodIn_of _ (by decide +kernel)) ggX3_does_X4_same
set_option maxRecDepth 20000 in
theorem ggX3_hasKept_Jx4a65c_size_8abf5 : GoodIn wsX3_hasKept wsJx4a65c_size_8abf5 := goodIn_r _ [7, 8, 43, 44, 45] (by decide +kernel) (by decide +kernel)
set_option maxRecDepth 20000 in
theorem gX3_hasKept_Jx4a65c_size_8abf5 : GoodIn wsX3_hasKept (wsV RX3 38 RJx4a65c yJx4a65c_size_8abf5 wsJx4a65c_size_8abf5) := goodIn_app (goodIn_of _ (by decide +kernel)) ggX3_hasKept_Jx4a65c_size_8abf5
set_option maxRecDepth 20000 in
theorem ggX3_hasKept_Jx4a65c_get_915e3 : GoodIn wsX3_hasKept wsJx4a65c_get_915e3 := goodIn_r _ [12, 8, 13, 14, 15, 16, 17, 18, 19, 20, 21, 22, 23, 6, 24, 25, 43, 44, 45] (by decide +kernel) (by decide +kernel)
set_option maxRecDepth 20000 in
theorem gX3_hasKept_Jx4a65c_get_915e3 : GoodIn wsX3_hasKept (wsV RX3 48 RJx4a65c yJx4a65c_get_915e3 wsJx4a65c_get_915e3) := goodIn_app (goodIn_of _ (by decide +kernel)) ggX3_hasKept_Jx4a65c_get_915e3
set_option maxRecDepth 20000 in
theorem ggX3_hasKept_X4_same : GoodIn wsX3_hasKept wsX4_same := goodIn_r _ [30, 31, 32, 33, 34, 35, 46, 47, 48, 49, 50] (by decide +kernel) (by decide +kernel)
set_option maxRecDepth 20000 in
theorem gX3_hasKept_X4_same : GoodIn wsX3_hasKept (wsV RX3 42 RX4 yX4_same wsX4_same) := goodIn_app (goodIn_of _ (by decide +kernel)) ggX3_hasKept_X4_same
set_option maxRecDepth 20000 in
theorem ggX3_end_Jx4a65c_add_9ea2d : GoodIn wsX3_end wsJx4a65c_add_9ea2d := goodIn_r _ [9, 10, 11, 12, 13, 14, 15, 16, 8, 17, 18, 19, 20, 21, 22, 23, 24, 25, 26, 27, 28, 29, 30, 31, 32, 33, 34, 35, 36, 37, 38, 39, 40, 41, 42, 43, 44, 45, 46, 47, 48, 49, 50, 51, 52, 53, 54, 55, 56, 57, 58, 59, 60, 74, 75, 76] (by decide +kernel) (by decide +kernel)
set_option maxRecDepth 20000 in
theorem gX3_end_Jx4a65c_add_9ea2d : GoodIn wsX3_end (wsV RX3 52 RJx4a65c yJx4a65c_add_9ea2d wsJx4a65c_add_9ea2d) := goodIn_app (goodIn_of _ (by decide +kernel)) ggX3_end_Jx4a65c_add_9ea2d
set_option maxRecDepth 20000 in
theorem ggX3_end_X3_rest : GoodIn wsX3_end wsX3_rest := goodIn_r _ [65, 1, 66, 3, 67, 68, 69, 70, 71, 72, 73] (by decide +kernel) (by decide +kernel)
set_option maxRecDepth 20000 in
theorem gX3_end_X3_rest : GoodIn wsX3_end (wsV RX3 56 RX3 yX3_rest wsX3_rest) := goodIn_app (goodIn_of _ (by decide +kernel)) ggX3_end_X3_rest
