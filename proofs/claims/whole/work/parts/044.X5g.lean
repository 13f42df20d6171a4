set_option maxRecDepth 20000 in
theorem ggX5_init_X4_init : GoodIn wsX5_init wsX4_init := goodIn_r _ [19, 20, 2, 3, 21, 22, 23, 24, 25, 48, 49, 50, 51, 52] (by decide +kernel) (by decide +kernel)
set_option maxRecDepth 20000 in
theorem gX5_init_X4_init : GoodIn wsX5_init (wsX4_init) := ggX5_init_X4_init
set_option maxRecDepth 20000 in
theorem ggX5_init_Jx4a65c_init_da8c8 : GoodIn wsX5_init wsJx4a65c_init_da8c8 := goodIn_r _ [28, 29, 30, 31, 32, 33, 34, 35, 36, 37, 38, 39, 40, 2, 3, 57, 58, 59] (by decide +kernel) (by decide +kernel)
set_option maxRecDepth 20000 in
theorem gX5_init_Jx4a65c_init_da8c8 : GoodIn wsX5_init (wsJx4a65c_init_da8c8) := ggX5_init_Jx4a65c_init_da8c8
set_option maxRecDepth 20000 in
theorem ggX5_init_X0_init : GoodIn wsX5_init wsX0_init := goodIn_r _ [43, 44, 2, 3, 45, 9, 10, 46, 47, 27, 28, 29, 30, 31, 32, 33, 34, 35, 36, 37, 38, 39, 40, 57, 58, 59, 60] (by decide +kernel) (by decide +kernel)
set_option maxRecDepth 20000 in
theorem gX5_init_X0_init : GoodIn wsX5_init (wsX0_init) := ggX5_init_X0_init
set_option maxRecDepth 20000 in
theorem ggX5_purse_Jx4a65c_size_8abf5 : GoodIn wsX5_purse wsJx4a65c_size_8abf5 := goodIn_r _ [15, 16, 110, 111, 112] (by decide +kernel) (by decide +kernel)
set_option maxRecDepth 20000 in
theorem gX5_purse_Jx4a65c_size_8abf5 : GoodIn wsX5_purse (wsV RX5 43 RJx4a65c yJx4a65c_size_8abf5 wsJx4a65c_size_8abf5) := goodIn_app (goodIn_of _ (by decide +kernel)) ggX5_purse_Jx4a65c_size_8abf5
set_option maxRecDepth 20000 in
theorem ggX5_purse_X3_init : GoodIn wsX5_purse wsX3_init := goodIn_r _ [19, 20, 21, 22, 23, 24, 25, 26, 27, 14, 28, 29, 30, 31, 32, 33, 34, 35, 36, 37, 38, 39, 40, 41, 42, 43, 44, 45, 46, 103, 104, 105, 106, 107, 108, 109, 110, 111, 112] (by decide +kernel) (by decide +kernel)
set_option maxRecDepth 20000 in
theorem gX5_purse_X3_init : GoodIn wsX5_purse (wsX3_init) := ggX5_purse_X3_init
set_option maxRecDepth 20000 in
theorem ggX5_purse_Jx4a65c_add_9ea2d : GoodIn wsX5_purse wsJx4a65c_add_9ea2d := goodIn_r _ [50, 51, 52, 36, 16, 53, 54, 55, 14, 56, 57, 58, 59, 60, 61, 62, 63, 64, 35, 65, 66, 67, 68, 69, 70, 71, 72, 73, 74, 75, 76, 77, 78, 79, 80, 81, 82, 83, 84, 85, 86, 87, 88, 89, 90, 91, 92, 93, 94, 95, 96, 97, 98, 110, 111, 112] (by decide +kernel) (by decide +kernel)
set_option maxRecDepth 20000 in
theorem gX5_purse_Jx4a65c_add_9ea2d : GoodIn wsX5_purse (wsV RX5 57 RJx4a65c yJx4a65c_add_9ea2d wsJx4a65c_add_9ea2d) := goodIn_app (goodIn_of _ (by decide +kernel)) ggX5_purse_Jx4a65c_add_9ea2d
set_option maxRecDepth 20000 in
theorem ggX5_begin_X5_purseAt : GoodIn wsX5_begin wsX5_purseAt := goodIn_ca (goodIn_r _ [12, 13, 14, 15, 16, 17, 18, 19, 20, 21, 22, 23, 24, 25, 26, 27, 28, 29, 30, 31, 32, 33, 34, 35, 36, 37, 38, 39, 139, 140, 141, 142, 143, 144, 145] (by decide +kernel) (by decide +kernel)) (goodIn_sub (fun _ h => List.mem_cons_of_mem _ (List.mem_append_left _ (List.mem_append_right _ h))) (by decide +kernel))
set_option maxRecDepth 20000 in
theorem gX5_begin_X5_purseAt : GoodIn wsX5_begin (wsV RX5 61 RX5 yX5_purseAt wsX5_purseAt) := goodIn_app (goodIn_of _ (by decide +kernel)) ggX5_begin_X5_purseAt
set_option maxRecDepth 20000 in
theorem ggX5_begin_X5_needRoomFor : GoodIn wsX5_begin wsX5_needRoomFor := goodIn_ca (goodIn_r _ [43, 44, 45, 46, 17, 18, 19, 20, 21, 22, 139, 140, 141, 142, 143, 144, 145] (by decide +kernel) (by decide +kernel)) (goodIn_sub (fun _ h => List.mem_cons_of_mem _ (List.mem_append_right _ h)) (by decide +kernel))
set_option maxRecDepth 20000 in
theorem gX5_begin_X5_needRoomFor : GoodIn wsX5_begin (wsV RX5 70 RX5 yX5_needRoomFor wsX5_needRoomFor) := goodIn_app (goodIn_of _ (by decide +kernel)) ggX5_begin_X5_needRoomFor
set_option maxRecDepth 20000 in
theorem ggX5_begin_X4_init : GoodIn wsX5_begin wsX4_init := goodIn_r _ [49, 50, 51, 52, 53, 54, 55, 56, 57, 127, 128, 129, 130, 131] (by decide +kernel) (by decide +kernel)
set_option maxRecDepth 20000 in
theorem gX5_begin_X4_init : GoodIn wsX5_begin (wsX4_init) := ggX5_begin_X4_init
set_option maxRecDepth 20000 in
theorem ggX5_begin_X5_send : GoodIn wsX5_begin wsX5_send := goodIn_r _ [61, 46, 62, 63, 64, 17, 18, 19, 20, 21, 22, 65, 66, 67, 68, 51, 52, 69, 70, 71, 72, 73, 74, 75, 76, 77, 78, 79, 39, 80, 81, 82, 83, 84, 85, 86, 87, 88, 89, 90, 91, 92, 93, 94, 95, 96, 97, 98, 99, 100, 101, 102, 103, 104, 105, 106, 107, 108, 109, 110, 111, 112, 113, 114, 115, 116, 117, 118, 119, 120, 121, 122, 123, 124, 125, 126, 139, 140, 141, 142, 146, 147, 148, 149, 150, 143, 144, 145] (by decide +kernel) (by decide +kernel)
set_option maxRecDepth 20000 in
theorem gX5_begin_X5_send : GoodIn wsX5_begin (wsV RX5 78 RX5 yX5_send wsX5_send) := goodIn_app (goodIn_of _ (by decide +kernel)) ggX5_begin_X5_send
set_option maxRecDepth 20000 in
theorem ggX5_deliver_X5_messageAt : GoodIn wsX5_deliver wsX5_messageAt := goodIn_ca (goodIn_r _ [9, 10, 11, 12, 13, 14, 15, 16, 17, 18, 19, 20, 21, 22, 23, 24, 25, 26, 27, 28, 29, 30, 31, 32, 33, 34, 35, 36, 251, 252, 253, 254, 255, 256, 257] (by decide +kernel) (by decide +kernel)) (goodIn_sub (fun _ h => List.mem_cons_of_mem _ (List.mem_append_left _ (List.mem_append_right _ h))) (by decide +kernel))
set_option maxRecDepth 20000 in
theorem gX5_deliver_X5_messageAt : GoodIn wsX5_deliver (wsV RX5 82 RX5 yX5_messageAt wsX5_messageAt) := goodIn_app (goodIn_of _ (by decide +kernel)) ggX5_deliver_X5_messageAt
set_option maxRecDepth 20000 in
theorem ggX5_deliver_X5_mayBeAnswered : GoodIn wsX5_deliver wsX5_mayBeAnswered := goodIn_ca (goodIn_r _ [40, 1, 41, 4, 42, 43, 44, 8, 45, 10, 11, 46, 47, 14, 15, 16, 17, 18, 19, 20, 21, 22, 23, 24, 25, 26, 27, 28, 29, 30, 31, 32, 33, 34, 35, 36, 48, 49, 50, 51, 52, 53, 54, 55, 56, 57, 58, 59, 60, 61, 62, 63, 64, 246, 247, 248, 249, 250, 251, 252, 253, 254, 255, 256, 257, 258, 259, 260, 261, 262, 263, 264, 265, 266, 267, 268, 269] (by decide +kernel) (by decide +kernel)) (goodIn_sub (fun _ h => List.mem_cons_of_mem _ (List.mem_append_left _ (List.mem_append_right _ h))) (by decide +kernel))
set_option maxRecDepth 20000 in
theorem gX5_deliver_X5_mayBeAnswered : GoodIn wsX5_deliver (wsV RX5 86 RX5 yX5_mayBeAnswered wsX5_mayBeAnswered) := goodIn_app (goodIn_of _ (by decide +kernel)) ggX5_deliver_X5_mayBeAnswered
set_option maxRecDepth 20000 in
theorem ggX5_deliver_X5_needRoomFor : GoodIn wsX5_deliver wsX5_needRoomFor := goodIn_ca (goodIn_r _ [68, 69, 70, 12, 14, 15, 16, 17, 18, 19, 251, 252, 253, 254, 255, 256, 257] (by decide +kernel) (by decide +kernel)) (goodIn_sub (fun _ h => List.mem_cons_of_mem _ (List.mem_append_right _ h)) (by decide +kernel))
set_option maxRecDepth 20000 in
theorem gX5_deliver_X5_needRoomFor : GoodIn wsX5_deliver (wsV RX5 70 RX5 yX5_needRoomFor wsX5_needRoomFor) := goodIn_app (goodIn_of _ (by decide +kernel)) ggX5_deliver_X5_needRoomFor
set_option maxRecDepth 20000 in
theorem ggX5_deliver_X5_takePay : GoodIn wsX5_deliver wsX5_takePay := goodIn_ca (goodIn_r _ [74, 41, 4, 75, 76, 77, 78, 58, 79, 80, 81, 82, 42, 43, 44, 8, 45, 10, 11, 46, 47, 14, 15, 16, 17, 18, 19, 20, 21, 22, 23, 24, 25, 26, 27, 28, 29, 30, 31, 32, 33, 34, 35, 36, 83, 84, 85, 51, 86, 53, 87, 54, 88, 89, 90, 91, 92, 93, 94, 95, 96, 97, 98, 99, 100, 101, 102, 103, 104, 105, 106, 107, 108, 109, 110, 111, 112, 113, 114, 115, 116, 117, 118, 119, 120, 121, 122, 123, 124, 125, 126, 127, 128, 129, 130, 131, 132, 133, 134, 135, 136, 137, 138, 139, 140, 141, 142, 143, 144, 145, 146, 147, 148, 149, 150, 151, 152, 153, 154, 155, 156, 157, 60, 61, 62, 63, 64, 158, 159, 160, 161, 246, 247, 248, 249, 250, 258, 259, 260, 261, 262, 263, 264, 265, 266, 267, 268, 269, 251, 252, 253, 254, 255, 256, 257] (by decide +kernel) (by decide +kernel)) (goodIn_sub (fun _ h => List.mem_cons_of_mem _ (List.mem_append_left _ (List.mem_append_right _ h))) (by decide +kernel))
set_option maxRecDepth 20000 in
theorem gX5_deliver_X5_takePay : GoodIn wsX5_deliver (wsV RX5 95 RX5 yX5_takePay wsX5_takePay) := goodIn_app (goodIn_of _ (by decide +kernel)) ggX5_deliver_X5_takePay
set_option maxRecDepth 20000 in
theorem ggX5_deliver_X5_takeEarn : GoodIn wsX5_deliver wsX5_takeEarn := goodIn_ca (goodIn_r _ [165, 41, 4, 77, 78, 58, 166, 167, 79, 80, 76, 168, 42, 43, 44, 8, 45, 10, 11, 46, 47, 14, 15, 16, 17, 18, 19, 20, 21, 22, 23, 24, 25, 26, 27, 28, 29, 30, 31, 32, 33, 34, 35, 36, 83, 84, 85, 51, 86, 53, 87, 54, 88, 89, 90, 91, 92, 93, 94, 95, 96, 97, 98, 99, 100, 101, 102, 103, 104, 105, 106, 107, 108, 109, 110, 111, 112, 113, 114, 115, 116, 117, 118, 119, 120, 121, 122, 123, 124, 125, 126, 127, 128, 129, 130, 131, 132, 133, 134, 135, 136, 137, 138, 139, 140, 141, 142, 143, 144, 145, 146, 147, 148, 149, 150, 151, 152, 153, 154, 155, 156, 157, 60, 61, 62, 63, 64, 158, 159, 160, 161, 169, 170, 171, 172, 12, 173, 174, 175, 176, 177, 178, 179, 180, 181, 182, 183, 184, 185, 246, 247, 248, 249, 250, 265, 266, 267, 268, 269, 258, 259, 260, 261, 262, 263, 264, 251, 252, 253, 254, 255, 256, 257] (by decide +kernel) (by decide +kernel)) (goodIn_sub (fun _ h => List.mem_cons_of_mem _ (List.mem_append_left _ (List.mem_append_right _ h))) (by decide +kernel))
set_option maxRecDepth 20000 in
theorem gX5_deliver_X5_takeEarn : GoodIn wsX5_deliver (wsV RX5 98 RX5 yX5_takeEarn wsX5_takeEarn) := goodIn_app (goodIn_of _ (by decide +kernel)) ggX5_deliver_X5_takeEarn
set_option maxRecDepth 20000 in
theorem ggX5_deliver_X5_takeAsk : GoodIn wsX5_deliver wsX5_takeAsk := goodIn_ca (goodIn_r _ [189, 41, 4, 75, 76, 190, 81, 42, 43, 44, 8, 45, 10, 11, 46, 47, 14, 15, 16, 17, 18, 19, 20, 21, 22, 23, 24, 25, 26, 27, 28, 29, 30, 31, 32, 33, 34, 35, 36, 48, 49, 50, 51, 52, 53, 54, 55, 56, 57, 58, 59, 60, 61, 62, 63, 64, 169, 170, 171, 172, 12, 173, 174, 175, 176, 177, 178, 179, 156, 157, 180, 181, 182, 183, 184, 185, 90, 91, 92, 93, 94, 95, 96, 97, 98, 99, 100, 101, 102, 103, 104, 105, 106, 107, 108, 109, 110, 111, 112, 113, 114, 115, 116, 117, 118, 119, 120, 121, 122, 123, 124, 125, 126, 127, 128, 129, 130, 131, 132, 133, 134, 135, 136, 137, 138, 139, 140, 141, 246, 247, 248, 249, 250, 258, 259, 260, 261, 262, 263, 264, 265, 266, 267, 268, 269, 251, 252, 253, 254, 255, 256, 257] (by decide +kernel) (by decide +kernel)) (goodIn_sub (fun _ h => List.mem_cons_of_mem _ (List.mem_append_left _ (List.mem_append_right _ h))) (by decide +kernel))
set_option maxRecDepth 20000 in
theorem gX5_deliver_X5_takeAsk : GoodIn wsX5_deliver (wsV RX5 101 RX5 yX5_takeAsk wsX5_takeAsk) := goodIn_app (goodIn_of _ (by decide +kernel)) ggX5_deliver_X5_takeAsk
set_option maxRecDepth 20000 in
theorem ggX5_deliver_X5_takeValue : GoodIn wsX5_deliver wsX5_takeValue := goodIn_ca (goodIn_r _ [194, 41, 4, 75, 76, 166, 42, 43, 44, 8, 45, 10, 11, 46, 47, 14, 15, 16, 17, 18, 19, 20, 21, 22, 23, 24, 25, 26, 27, 28, 29, 30, 31, 32, 33, 34, 35, 36, 48, 49, 50, 51, 52, 53, 54, 55, 56, 57, 58, 59, 60, 61, 62, 63, 64, 195, 143, 144, 145, 146, 169, 170, 171, 172, 12, 173, 174, 175, 176, 177, 178, 179, 156, 157, 180, 181, 182, 183, 184, 185, 90, 91, 92, 93, 94, 95, 96, 97, 98, 99, 100, 101, 102, 103, 104, 105, 106, 107, 108, 109, 110, 111, 112, 113, 114, 115, 116, 117, 118, 119, 120, 121, 122, 123, 124, 125, 126, 127, 128, 129, 130, 131, 132, 133, 134, 135, 136, 137, 138, 139, 140, 141, 246, 247, 248, 249, 250, 258, 259, 260, 261, 262, 263, 264, 265, 266, 267, 268, 269, 251, 252, 253, 254, 255, 256, 257] (by decide +kernel) (by decide +kernel)) (goodIn_sub (fun _ h => List.mem_cons_of_mem _ (List.mem_append_left _ (List.mem_append_right _ h))) (by decide +kernel))
set_option maxRecDepth 20000 in
theorem gX5_deliver_X5_takeValue : GoodIn wsX5_deliver (wsV RX5 104 RX5 yX5_takeValue wsX5_takeValue) := goodIn_app (goodIn_of _ (by decide +kernel)) ggX5_deliver_X5_takeValue
set_option maxRecDepth 20000 in
theorem ggX5_deliver_X5_takeThanks : GoodIn wsX5_deliver wsX5_takeThanks := goodIn_ca (goodIn_r _ [199, 41, 4, 42, 43, 44, 8, 45, 10, 11, 46, 47, 14, 15, 16, 17, 18, 19, 20, 21, 22, 23, 24, 25, 26, 27, 28, 29, 30, 31, 32, 33, 34, 35, 36, 48, 49, 50, 51, 52, 53, 54, 55, 56, 57, 58, 59, 60, 61, 62, 63, 64, 195, 143, 144, 145, 146, 246, 247, 248, 249, 250, 251, 252, 253, 254, 255, 256, 257, 258, 259, 260, 261, 262, 263, 264, 265, 266, 267, 268, 269] (by decide +kernel) (by decide +kernel)) (goodIn_sub (fun _ h => List.mem_cons_of_mem _ (List.mem_append_left _ (List.mem_append_right _ h))) (by decide +kernel))
set_option maxRecDepth 20000 in
theorem gX5_deliver_X5_takeThanks : GoodIn wsX5_deliver (wsV RX5 107 RX5 yX5_takeThanks wsX5_takeThanks) := goodIn_app (goodIn_of _ (by decide +kernel)) ggX5_deliver_X5_takeThanks
set_option maxRecDepth 20000 in
theorem ggX5_deliver_X0_takeRecord : GoodIn wsX5_deliver wsX0_takeRecord := goodIn_r _ [204, 205, 206, 207, 208, 209, 210, 211, 203, 212, 213, 15, 16, 17, 18, 19, 214, 215, 216, 217, 218, 219, 220, 221, 21, 22, 23, 24, 25, 26, 27, 28, 29, 30, 31, 32, 33, 34, 35, 36, 222, 56, 57, 58, 59, 60, 61, 62, 63, 64, 223, 224, 225, 226, 156, 157, 227, 228, 229, 90, 91, 92, 93, 94, 95, 96, 97, 98, 99, 100, 101, 102, 103, 104, 105, 106, 107, 108, 109, 110, 111, 112, 113, 114, 115, 116, 117, 118, 119, 120, 121, 122, 123, 124, 125, 126, 127, 128, 129, 130, 131, 132, 133, 134, 135, 136, 137, 138, 139, 140, 141, 270, 271, 272, 273, 255, 256, 257, 265, 266, 267, 268, 269] (by decide +kernel) (by decide +kernel)
set_option maxRecDepth 20000 in
theorem gX5_deliver_X0_takeRecord : GoodIn wsX5_deliver (wsV RX5 116 RX0 yX0_takeRecord wsX0_takeRecord) := goodIn_app (goodIn_of _ (by decide +kernel)) ggX5_deliver_X0_takeRecord
set_option maxRecDepth 20000 in
theorem ggX5_deliver_X5_takeClear : GoodIn wsX5_deliver wsX5_takeClear := goodIn_ca (goodIn_r _ [233, 41, 190, 234, 2, 235, 79, 236, 42, 43, 44, 8, 45, 10, 11, 46, 47, 14, 15, 16, 17, 18, 19, 20, 21, 22, 23, 24, 25, 26, 27, 28, 29, 30, 31, 32, 33, 34, 35, 36, 237, 238, 239, 240, 241, 215, 216, 203, 217, 205, 218, 219, 220, 213, 221, 222, 56, 57, 58, 59, 60, 61, 62, 63, 64, 242, 243, 244, 245, 93, 94, 246, 247, 248, 249, 250, 258, 259, 260, 261, 262, 263, 264, 251, 252, 253, 254, 255, 256, 257, 270, 271, 272, 273, 265, 266, 267, 268, 269] (by decide +kernel) (by decide +kernel)) (goodIn_sub (fun _ h => List.mem_cons_of_mem _ (List.mem_append_left _ (List.mem_append_right _ h))) (by decide +kernel))
set_option maxRecDepth 20000 in
theorem gX5_deliver_X5_takeClear : GoodIn wsX5_deliver (wsV RX5 120 RX5 yX5_takeClear wsX5_takeClear) := goodIn_app (goodIn_of _ (by decide +kernel)) ggX5_deliver_X5_takeClear
set_option maxRecDepth 20000 in
theorem ggX5_abort_X5_purseAt : GoodIn wsX5_abort wsX5_purseAt := goodIn_ca (goodIn_r _ [6, 7, 8, 9, 10, 11, 12, 13, 14, 15, 16, 17, 18, 19, 20, 21, 22, 23, 24, 25, 26, 27, 28, 29, 30, 31, 32, 33, 108, 109, 110, 111, 112, 113, 114] (by decide +kernel) (by decide +kernel)) (goodIn_sub (fun _ h => List.mem_cons_of_mem _ (List.mem_append_right _ h)) (by decide +kernel))
set_option maxRecDepth 20000 in
theorem gX5_abort_X5_purseAt : GoodIn wsX5_abort (wsV RX5 61 RX5 yX5_purseAt wsX5_purseAt) := goodIn_app (goodIn_of _ (by decide +kernel)) ggX5_abort_X5_purseAt
set_option maxRecDepth 20000 in
theorem ggX5_abort_X3_end : GoodIn wsX5_abort wsX3_end := goodIn_r _ [38, 39, 40, 41, 42, 43, 44, 45, 14, 46, 47, 48, 33, 16, 49, 50, 51, 52, 53, 54, 55, 56, 57, 58, 59, 60, 61, 62, 63, 64, 65, 66, 67, 68, 69, 70, 71, 72, 73, 74, 75, 76, 77, 78, 79, 80, 81, 82, 83, 84, 85, 86, 87, 88, 89, 90, 91, 92, 93, 94, 95, 96, 97, 98, 37, 99, 100, 101, 102, 103, 104, 105, 106, 107, 112, 113, 114] (by decide +kernel) (by decide +kernel)
set_option maxRecDepth 20000 in
theorem gX5_abort_X3_end : GoodIn wsX5_abort (wsV RX5 126 RX3 yX3_end wsX3_end) := goodIn_app (goodIn_of _ (by decide +kernel)) ggX5_abort_X3_end
set_option maxRecDepth 20000 in
theorem ggX5_readLog_X5_purseAt : GoodIn wsX5_readLog wsX5_purseAt := goodIn_ca (goodIn_r _ [14, 15, 16, 17, 18, 19, 20, 21, 22, 23, 24, 25, 26, 27, 28, 29, 30, 31, 32, 33, 34, 35, 36, 37, 38, 39, 40, 41, 119, 120, 121, 122, 128, 129, 130] (by decide +kernel) (by decide +kernel)) (goodIn_sub (fun _ h => List.mem_cons_of_mem _ (List.mem_append_left _ (List.mem_append_right _ h))) (by decide +kernel))
set_option maxRecDepth 20000 in
theorem gX5_readLog_X5_purseAt : GoodIn wsX5_readLog (wsV RX5 61 RX5 yX5_purseAt wsX5_purseAt) := goodIn_app (goodIn_of _ (by decide +kernel)) ggX5_readLog_X5_purseAt
set_option maxRecDepth 20000 in
theorem ggX5_readLog_Jx4a65c_size_8abf5 : GoodIn wsX5_readLog wsJx4a65c_size_8abf5 := goodIn_r _ [23, 24, 128, 129, 130] (by decide +kernel) (by decide +kernel)
set_option maxRecDepth 20000 in
theorem gX5_readLog_Jx4a65c_size_8abf5 : GoodIn wsX5_readLog (wsV RX5 43 RJx4a65c yJx4a65c_size_8abf5 wsJx4a65c_size_8abf5) := goodIn_app (goodIn_of _ (by decide +kernel)) ggX5_readLog_Jx4a65c_size_8abf5
set_option maxRecDepth 20000 in
theorem ggX5_readLog_X5_needRoomFor : GoodIn wsX5_readLog wsX5_needRoomFor := goodIn_ca (goodIn_r _ [45, 46, 47, 5, 19, 20, 21, 22, 23, 24, 119, 120, 121, 122, 128, 129, 130] (by decide +kernel) (by decide +kernel)) (goodIn_sub (fun _ h => List.mem_cons_of_mem _ (List.mem_append_right _ h)) (by decide +kernel))
set_option maxRecDepth 20000 in
theorem gX5_readLog_X5_needRoomFor : GoodIn wsX5_readLog (wsV RX5 70 RX5 yX5_needRoomFor wsX5_needRoomFor) := goodIn_app (goodIn_of _ (by decide +kernel)) ggX5_readLog_X5_needRoomFor
set_option maxRecDepth 20000 in
theorem ggX5_readLog_Jx4a65c_get_915e3 : GoodIn wsX5_readLog wsJx4a65c_get_915e3 := goodIn_r _ [28, 24, 29, 30, 31, 32, 33, 34, 35, 36, 37, 38, 39, 22, 40, 41, 128, 129, 130] (by decide +kernel) (by decide +kernel)
set_option maxRecDepth 20000 in
theorem gX5_readLog_Jx4a65c_get_915e3 : GoodIn wsX5_readLog (wsV RX5 137 RJx4a65c yJx4a65c_get_915e3 wsJx4a65c_get_915e3) := goodIn_app (goodIn_of _ (by decide +kernel)) ggX5_readLog_Jx4a65c_get_915e3
set_option maxRecDepth 20000 in
theorem ggX5_readLog_X2_init : GoodIn wsX5_readLog wsX2_init := goodIn_r _ [50, 51, 52, 53, 54, 55, 56, 57, 58, 123, 124, 125, 126, 127] (by decide +kernel) (by decide +kernel)
set_option maxRecDepth 20000 in
theorem gX5_readLog_X2_init : GoodIn wsX5_readLog (wsX2_init) := ggX5_readLog_X2_init
set_option maxRecDepth 20000 in
theorem ggX5_readLog_Jx4a65c_add_9ea2d : GoodIn wsX5_readLog wsJx4a65c_add_9ea2d := goodIn_r _ [62, 63, 64, 41, 24, 65, 66, 67, 22, 68, 69, 70, 71, 72, 73, 74, 75, 76, 77, 78, 79, 80, 81, 82, 83, 84, 85, 86, 87, 88, 89, 90, 91, 92, 93, 94, 95, 96, 97, 98, 99, 100, 101, 102, 103, 104, 105, 106, 107, 108, 109, 110, 111, 128, 129, 130] (by decide +kernel) (by decide +kernel)
set_option maxRecDepth 20000 in
theorem gX5_readLog_Jx4a65c_add_9ea2d : GoodIn wsX5_readLog (wsV RX5 57 RJx4a65c yJx4a65c_add_9ea2d wsJx4a65c_add_9ea2d) := goodIn_app (goodIn_of _ (by decide +kernel)) ggX5_readLog_Jx4a65c_add_9ea2d
set_option maxRecDepth 20000 in
theorem ggX5_authorise_X5_purseAt : GoodIn wsX5_authorise wsX5_purseAt := goodIn_ca (goodIn_r _ [13, 14, 15, 16, 17, 18, 19, 20, 21, 22, 23, 24, 25, 26, 27, 28, 29, 30, 31, 32, 33, 34, 35, 36, 37, 38, 39, 40, 125, 126, 127, 128, 134, 135, 136] (by decide +kernel) (by decide +kernel)) (goodIn_sub (fun _ h => List.mem_cons_of_mem _ (List.mem_append_left _ (List.mem_append_right _ h))) (by decide +kernel))
set_option maxRecDepth 20000 in
theorem gX5_authorise_X5_purseAt : GoodIn wsX5_authorise (wsV RX5 61 RX5 yX5_purseAt wsX5_purseAt) := goodIn_app (goodIn_of _ (by decide +kernel)) ggX5_authorise_X5_purseAt
set_option maxRecDepth 20000 in
theorem ggX5_authorise_X0_hasAnyOf : GoodIn wsX5_authorise wsX0_hasAnyOf := goodIn_r _ [45, 46, 47, 48, 49, 19, 20, 21, 22, 23, 50, 25, 26, 27, 28, 29, 30, 31, 32, 33, 34, 35, 36, 37, 38, 39, 40, 137, 138, 139, 140, 134, 135, 136] (by decide +kernel) (by decide +kernel)
set_option maxRecDepth 20000 in
theorem gX5_authorise_X0_hasAnyOf : GoodIn wsX5_authorise (wsV RX5 144 RX0 yX0_hasAnyOf wsX0_hasAnyOf) := goodIn_app (goodIn_of _ (by decide +kernel)) ggX5_authorise_X0_hasAnyOf
set_option maxRecDepth 20000 in
theorem ggX5_authorise_X5_needRoomFor : GoodIn wsX5_authorise wsX5_needRoomFor := goodIn_ca (goodIn_r _ [54, 55, 56, 4, 18, 19, 20, 21, 22, 23, 125, 126, 127, 128, 134, 135, 136] (by decide +kernel) (by decide +kernel)) (goodIn_sub (fun _ h => List.mem_cons_of_mem _ (List.mem_append_right _ h)) (by decide +kernel))
set_option maxRecDepth 20000 in
theorem gX5_authorise_X5_needRoomFor : GoodIn wsX5_authorise (wsV RX5 70 RX5 yX5_needRoomFor wsX5_needRoomFor) := goodIn_app (goodIn_of _ (by decide +kernel)) ggX5_authorise_X5_needRoomFor
set_option maxRecDepth 20000 in
theorem ggX5_authorise_Jx4a65c_size_8abf5 : GoodIn wsX5_authorise wsJx4a65c_size_8abf5 := goodIn_r _ [22, 23, 134, 135, 136] (by decide +kernel) (by decide +kernel)
set_option maxRecDepth 20000 in
theorem gX5_authorise_Jx4a65c_size_8abf5 : GoodIn wsX5_authorise (wsV RX5 43 RJx4a65c yJx4a65c_size_8abf5 wsJx4a65c_size_8abf5) := goodIn_app (goodIn_of _ (by decide +kernel)) ggX5_authorise_Jx4a65c_size_8abf5
set_option maxRecDepth 20000 in
theorem ggX5_authorise_X0_size : GoodIn wsX5_authorise wsX0_size := goodIn_r _ [60, 46, 49, 19, 20, 21, 22, 23, 137, 134, 135, 136] (by decide +kernel) (by decide +kernel)
set_option maxRecDepth 20000 in
theorem gX5_authorise_X0_size : GoodIn wsX5_authorise (wsV RX5 150 RX0 yX0_size wsX0_size) := goodIn_app (goodIn_of _ (by decide +kernel)) ggX5_authorise_X0_size
set_option maxRecDepth 20000 in
theorem ggX5_authorise_X2_init : GoodIn wsX5_authorise wsX2_init := goodIn_r _ [63, 64, 65, 66, 67, 68, 69, 70, 71, 129, 130, 131, 132, 133] (by decide +kernel) (by decide +kernel)
set_option maxRecDepth 20000 in
theorem gX5_authorise_X2_init : GoodIn wsX5_authorise (wsX2_init) := ggX5_authorise_X2_init
set_option maxRecDepth 20000 in
theorem ggX5_authorise_Jx4a65c_add_9ea2d : GoodIn wsX5_authorise wsJx4a65c_add_9ea2d := goodIn_r _ [75, 76, 77, 40, 23, 78, 79, 80, 21, 81, 82, 83, 84, 85, 86, 87, 88, 89, 90, 91, 92, 93, 94, 95, 96, 97, 98, 99, 100, 101, 102, 103, 104, 105, 106, 107, 108, 109, 110, 111, 112, 113, 114, 115, 116, 117, 118, 119, 120, 121, 122, 123, 124, 134, 135, 136] (by decide +kernel) (by decide +kernel)
set_option maxRecDepth 20000 in
theorem gX5_authorise_Jx4a65c_add_9ea2d : GoodIn wsX5_authorise (wsV RX5 57 RJx4a65c yJx4a65c_add_9ea2d wsJx4a65c_add_9ea2d) := goodIn_app (goodIn_of _ (by decide +kernel)) ggX5_authorise_Jx4a65c_add_9ea2d
set_option maxRecDepth 20000 in
theorem ggX5_refund_X5_entryAt : GoodIn wsX5_refund wsX5_entryAt := goodIn_ca (goodIn_r _ [14, 15, 16, 3, 17, 18, 19, 20, 21, 22, 23, 24, 25, 26, 27, 28, 29, 30, 31, 32, 33, 34, 35, 36, 37, 38, 39, 40, 41, 42, 43, 44, 45, 46, 47, 82, 83, 84, 85, 101, 102, 103, 104] (by decide +kernel) (by decide +kernel)) (goodIn_sub (fun _ h => List.mem_cons_of_mem _ (List.mem_append_right _ h)) (by decide +kernel))
set_option maxRecDepth 20000 in
theorem gX5_refund_X5_entryAt : GoodIn wsX5_refund (wsV RX5 151 RX5 yX5_entryAt wsX5_entryAt) := goodIn_app (goodIn_of _ (by decide +kernel)) ggX5_refund_X5_entryAt
set_option maxRecDepth 20000 in
theorem ggX5_refund_X0_has : GoodIn wsX5_refund wsX0_has := goodIn_r _ [51, 24, 25, 26, 27, 28, 29, 30, 52, 53, 54, 22, 55, 56, 57, 58, 59, 32, 33, 34, 35, 36, 37, 38, 39, 40, 41, 42, 43, 44, 45, 46, 47, 60, 61, 62, 63, 64, 65, 66, 67, 68, 69, 101, 102, 103, 104, 86, 87, 88, 89, 90, 91, 92, 93] (by decide +kernel) (by decide +kernel)
set_option maxRecDepth 20000 in
theorem gX5_refund_X0_has : GoodIn wsX5_refund (wsV RX5 161 RX0 yX0_has wsX0_has) := goodIn_app (goodIn_of _ (by decide +kernel)) ggX5_refund_X0_has
set_option maxRecDepth 20000 in
theorem ggX5_refund_X0_markRefunded : GoodIn wsX5_refund wsX0_markRefunded := goodIn_r _ [73, 24, 56, 58, 74, 25, 26, 27, 28, 29, 30, 59, 32, 33, 34, 35, 36, 37, 38, 39, 40, 41, 42, 43, 44, 45, 46, 47, 60, 61, 62, 63, 64, 65, 66, 67, 68, 69, 101, 86, 87, 88, 102, 103, 104, 89, 90, 91, 92, 93] (by decide +kernel) (by decide +kernel)
set_option maxRecDepth 20000 in
theorem gX5_refund_X0_markRefunded : GoodIn wsX5_refund (wsV RX5 175 RX0 yX0_markRefunded wsX0_markRefunded) := goodIn_app (goodIn_of _ (by decide +kernel)) ggX5_refund_X0_markRefunded
set_option maxRecDepth 20000 in
theorem ggX5_refund_X5_purseAt : GoodIn wsX5_refund wsX5_purseAt := goodIn_ca (goodIn_r _ [78, 15, 16, 79, 80, 81, 26, 27, 28, 29, 30, 31, 32, 33, 34, 35, 36, 37, 38, 39, 40, 41, 42, 43, 44, 45, 46, 47, 82, 83, 84, 85, 102, 103, 104] (by decide +kernel) (by decide +kernel)) (goodIn_sub (fun _ h => List.mem_cons_of_mem _ (List.mem_append_right _ h)) (by decide +kernel))
set_option maxRecDepth 20000 in
theorem gX5_refund_X5_purseAt : GoodIn wsX5_refund (wsV RX5 61 RX5 yX5_purseAt wsX5_purseAt) := goodIn_app (goodIn_of _ (by decide +kernel)) ggX5_refund_X5_purseAt
set_option maxRecDepth 20000 in
theorem ggX5_told_X5_purseAt : GoodIn wsX5_told wsX5_purseAt := goodIn_ca (goodIn_r _ [11, 12, 13, 14, 15, 16, 17, 18, 19, 20, 21, 22, 23, 24, 25, 26, 27, 28, 29, 30, 31, 32, 33, 34, 35, 36, 37, 38, 46, 47, 48, 49, 50, 51, 52] (by decide +kernel) (by decide +kernel)) (goodIn_sub (fun _ h => List.mem_cons_of_mem _ (List.mem_append_right _ h)) (by decide +kernel))
set_option maxRecDepth 20000 in
theorem gX5_told_X5_purseAt : GoodIn wsX5_told (wsV RX5 61 RX5 yX5_purseAt wsX5_purseAt) := goodIn_app (goodIn_of _ (by decide +kernel)) ggX5_told_X5_purseAt
set_option maxRecDepth 20000 in
theorem ggX5_told_Jx4a65c_size_8abf5 : GoodIn wsX5_told wsJx4a65c_size_8abf5 := goodIn_r _ [20, 21, 50, 51, 52] (by decide +kernel) (by decide +kernel)
set_option maxRecDepth 20000 in
theorem gX5_told_Jx4a65c_size_8abf5 : GoodIn wsX5_told (wsV RX5 43 RJx4a65c yJx4a65c_size_8abf5 wsJx4a65c_size_8abf5) := goodIn_app (goodIn_of _ (by decide +kernel)) ggX5_told_Jx4a65c_size_8abf5
set_option maxRecDepth 20000 in
theorem ggX5_transfer_X5_purseAt : GoodIn wsX5_transfer wsX5_purseAt := goodIn_ca (goodIn_r _ [6, 7, 8, 9, 10, 11, 12, 13, 14, 15, 16, 17, 18, 19, 20, 21, 22, 23, 24, 25, 26, 27, 28, 29, 30, 31, 32, 33, 51, 52, 53, 54, 55, 56, 57] (by decide +kernel) (by decide +kernel)) (goodIn_sub (fun _ h => List.mem_cons_of_mem _ (List.mem_append_left _ (List.mem_append_right _ h))) (by decide +kernel))
set_option maxRecDepth 20000 in
theorem gX5_transfer_X5_purseAt : GoodIn wsX5_transfer (wsV RX5 61 RX5 yX5_purseAt wsX5_purseAt) := goodIn_app (goodIn_of _ (by decide +kernel)) ggX5_transfer_X5_purseAt
set_option maxRecDepth 20000 in
theorem ggX5_transfer_X5_partOf : GoodIn wsX5_transfer wsX5_partOf := goodIn_ca (goodIn_r _ [36, 37, 38, 39, 40, 41, 42, 43, 58, 59, 60, 61, 62] (by decide +kernel) (by decide +kernel)) (goodIn_sub (fun _ h => List.mem_cons_of_mem _ (List.mem_append_right _ h)) (by decide +kernel))
set_option maxRecDepth 20000 in
theorem gX5_transfer_X5_partOf : GoodIn wsX5_transfer (va_wsS RX5 190 yX5_partOf wsX5_partOf) := goodIn_app (goodIn_of _ (by decide +kernel)) ggX5_transfer_X5_partOf
set_option maxRecDepth 20000 in
theorem ggX5_log_X5_purseAt : GoodIn wsX5_log wsX5_purseAt := goodIn_ca (goodIn_r _ [9, 1, 2, 10, 11, 12, 13, 14, 15, 16, 17, 18, 19, 20, 21, 22, 23, 24, 25, 26, 27, 28, 29, 30, 31, 32, 33, 34, 52, 53, 54, 55, 56, 57, 58] (by decide +kernel) (by decide +kernel)) (goodIn_sub (fun _ h => List.mem_cons_of_mem _ (List.mem_append_left _ (List.mem_append_right _ h))) (by decide +kernel))
set_option maxRecDepth 20000 in
theorem gX5_log_X5_purseAt : GoodIn wsX5_log (wsV RX5 61 RX5 yX5_purseAt wsX5_purseAt) := goodIn_app (goodIn_of _ (by decide +kernel)) ggX5_log_X5_purseAt
set_option maxRecDepth 20000 in
theorem ggX5_log_Jx4a65c_size_8abf5 : GoodIn wsX5_log wsJx4a65c_size_8abf5 := goodIn_r _ [16, 17, 56, 57, 58] (by decide +kernel) (by decide +kernel)
set_option maxRecDepth 20000 in
theorem gX5_log_Jx4a65c_size_8abf5 : GoodIn wsX5_log (wsV RX5 43 RJx4a65c yJx4a65c_size_8abf5 wsJx4a65c_size_8abf5) := goodIn_app (goodIn_of _ (by decide +kernel)) ggX5_log_Jx4a65c_size_8abf5
set_option maxRecDepth 20000 in
theorem ggX5_log_Jx4a65c_get_915e3 : GoodIn wsX5_log wsJx4a65c_get_915e3 := goodIn_r _ [21, 17, 22, 23, 24, 25, 26, 27, 28, 29, 30, 31, 32, 15, 33, 34, 56, 57, 58] (by decide +kernel) (by decide +kernel)
set_option maxRecDepth 20000 in
theorem gX5_log_Jx4a65c_get_915e3 : GoodIn wsX5_log (wsV RX5 137 RJx4a65c yJx4a65c_get_915e3 wsJx4a65c_get_915e3) := goodIn_app (goodIn_of _ (by decide +kernel)) ggX5_log_Jx4a65c_get_915e3
set_option maxRecDepth 20000 in
theorem ggX5_log_X5_partOf : GoodIn wsX5_log wsX5_partOf := goodIn_ca (goodIn_r _ [37, 38, 39, 40, 41, 42, 43, 44, 59, 60, 61, 62, 63] (by decide +kernel) (by decide +kernel)) (goodIn_sub (fun _ h => List.mem_cons_of_mem _ (List.mem_append_right _ h)) (by decide +kernel))
set_option maxRecDepth 20000 in
theorem gX5_log_X5_partOf : GoodIn wsX5_log (va_wsS RX5 190 yX5_partOf wsX5_partOf) := goodIn_app (goodIn_of _ (by decide +kernel)) ggX5_log_X5_partOf
set_option maxRecDepth 20000 in
theorem ggX5_messages_Jx4a65c_size_8abf5 : GoodIn wsX5_messages wsJx4a65c_size_8abf5 := goodIn_r _ [6, 7, 12, 13, 14] (by decide +kernel) (by decide +kernel)
set_option maxRecDepth 20000 in
theorem gX5_messages_Jx4a65c_size_8abf5 : GoodIn wsX5_messages (wsV RX5 43 RJx4a65c yJx4a65c_size_8abf5 wsJx4a65c_size_8abf5) := goodIn_app (goodIn_of _ (by decide +kernel)) ggX5_messages_Jx4a65c_size_8abf5
set_option maxRecDepth 20000 in
theorem ggX5_message_X5_messageAt : GoodIn wsX5_message wsX5_messageAt := goodIn_ca (goodIn_r _ [8, 9, 10, 11, 12, 13, 14, 15, 16, 17, 18, 19, 20, 21, 22, 23, 24, 25, 26, 27, 28, 29, 30, 31, 32, 33, 34, 35, 51, 52, 53, 54, 55, 56, 57] (by decide +kernel) (by decide +kernel)) (goodIn_sub (fun _ h => List.mem_cons_of_mem _ (List.mem_append_left _ (List.mem_append_right _ h))) (by decide +kernel))
set_option maxRecDepth 20000 in
theorem gX5_message_X5_messageAt : GoodIn wsX5_message (wsV RX5 82 RX5 yX5_messageAt wsX5_messageAt) := goodIn_app (goodIn_of _ (by decide +kernel)) ggX5_message_X5_messageAt
set_option maxRecDepth 20000 in
theorem ggX5_message_X5_partOf : GoodIn wsX5_message wsX5_partOf := goodIn_ca (goodIn_r _ [38, 39, 40, 41, 42, 43, 44, 45, 58, 59, 60, 61, 62] (by decide +kernel) (by decide +kernel)) (goodIn_sub (fun _ h => List.mem_cons_of_mem _ (List.mem_append_right _ h)) (by decide +kernel))
set_option maxRecDepth 20000 in
theorem gX5_message_X5_partOf : GoodIn wsX5_message (va_wsS RX5 190 yX5_partOf wsX5_partOf) := goodIn_app (goodIn_of _ (by decide +kernel)) ggX5_message_X5_partOf
set_option maxRecDepth 20000 in
theorem ggX5_entries_X0_size : GoodIn wsX5_entries wsX0_size := goodIn_r _ [6, 7, 8, 9, 10, 11, 12, 13, 18, 19, 20, 21] (by decide +kernel) (by decide +kernel)
set_option maxRecDepth 20000 in
theorem gX5_entries_X0_size : GoodIn wsX5_entries (wsV RX5 150 RX0 yX0_size wsX0_size) := goodIn_app (goodIn_of _ (by decide +kernel)) ggX5_entries_X0_size
set_option maxRecDepth 20000 in
theorem ggX5_entry_X5_entryAt : GoodIn wsX5_entry wsX5_entryAt := goodIn_ca (goodIn_r _ [8, 9, 10, 11, 12, 13, 14, 15, 16, 17, 18, 19, 20, 21, 22, 23, 24, 25, 26, 27, 28, 29, 30, 31, 32, 33, 34, 35, 36, 37, 38, 39, 40, 41, 42, 56, 57, 58, 59, 60, 61, 62, 63] (by decide +kernel) (by decide +kernel)) (goodIn_sub (fun _ h => List.mem_cons_of_mem _ (List.mem_append_left _ (List.mem_append_right _ h))) (by decide +kernel))
set_option maxRecDepth 20000 in
theorem gX5_entry_X5_entryAt : GoodIn wsX5_entry (wsV RX5 151 RX5 yX5_entryAt wsX5_entryAt) := goodIn_app (goodIn_of _ (by decide +kernel)) ggX5_entry_X5_entryAt
set_option maxRecDepth 20000 in
theorem ggX5_entry_X5_partOf : GoodIn wsX5_entry wsX5_partOf := goodIn_ca (goodIn_r _ [45, 46, 47, 48, 49, 50, 51, 52, 64, 65, 66, 67, 68] (by decide +kernel) (by decide +kernel)) (goodIn_sub (fun _ h => List.mem_cons_of_mem _ (List.mem_append_right _ h)) (by decide +kernel))
set_option maxRecDepth 20000 in
theorem gX5_entry_X5_partOf : GoodIn wsX5_entry (va_wsS RX5 190 yX5_partOf wsX5_partOf) := goodIn_app (goodIn_of _ (by decide +kernel)) ggX5_entry_X5_partOf
set_option maxRecDepth 20000 in
theorem ggX5_balances_Jx4a65c_size_8abf5 : GoodIn wsX5_balances wsJx4a65c_size_8abf5 := goodIn_r _ [8, 9, 38, 39, 40] (by decide +kernel) (by decide +kernel)
set_option maxRecDepth 20000 in
theorem gX5_balances_Jx4a65c_size_8abf5 : GoodIn wsX5_balances (wsV RX5 43 RJx4a65c yJx4a65c_size_8abf5 wsJx4a65c_size_8abf5) := goodIn_app (goodIn_of _ (by decide +kernel)) ggX5_balances_Jx4a65c_size_8abf5
set_option maxRecDepth 20000 in
theorem ggX5_balances_Jx4a65c_get_915e3 : GoodIn wsX5_balances wsJx4a65c_get_915e3 := goodIn_r _ [13, 9, 14, 15, 16, 17, 18, 19, 20, 21, 22, 23, 24, 7, 25, 26, 38, 39, 40] (by decide +kernel) (by decide +kernel)
set_option maxRecDepth 20000 in
theorem gX5_balances_Jx4a65c_get_915e3 : GoodIn wsX5_balances (wsV RX5 137 RJx4a65c yJx4a65c_get_915e3 wsJx4a65c_get_915e3) := goodIn_app (goodIn_of _ (by decide +kernel)) ggX5_balances_Jx4a65c_get_915e3
set_option maxRecDepth 20000 in
theorem ggX5_pending_Jx4a65c_size_8abf5 : GoodIn wsX5_pending wsJx4a65c_size_8abf5 := goodIn_r _ [13, 14, 117, 118, 119] (by decide +kernel) (by decide +kernel)
set_option maxRecDepth 20000 in
theorem gX5_pending_Jx4a65c_size_8abf5 : GoodIn wsX5_pending (wsV RX5 43 RJx4a65c yJx4a65c_size_8abf5 wsJx4a65c_size_8abf5) := goodIn_app (goodIn_of _ (by decide +kernel)) ggX5_pending_Jx4a65c_size_8abf5
set_option maxRecDepth 20000 in
theorem ggX5_pending_Jx4a65c_get_915e3 : GoodIn wsX5_pending wsJx4a65c_get_915e3 := goodIn_r _ [18, 14, 19, 20, 21, 22, 23, 24, 25, 26, 27, 28, 29, 12, 30, 31, 117, 118, 119] (by decide +kernel) (by decide +kernel)
set_option maxRecDepth 20000 in
theorem gX5_pending_Jx4a65c_get_915e3 : GoodIn wsX5_pending (wsV RX5 137 RJx4a65c yJx4a65c_get_915e3 wsJx4a65c_get_915e3) := goodIn_app (goodIn_of _ (by decide +kernel)) ggX5_pending_Jx4a65c_get_915e3
set_option maxRecDepth 20000 in
theorem ggX5_pending_X5_pendingOfPayer : GoodIn wsX5_pending wsX5_pendingOfPayer := goodIn_ca (goodIn_r _ [36, 37, 38, 39, 40, 8, 41, 3, 42, 43, 44, 35, 45, 46, 47, 48, 49, 50, 51, 52, 53, 1, 2, 9, 10, 11, 12, 13, 14, 15, 16, 17, 18, 19, 20, 21, 22, 23, 24, 25, 26, 27, 28, 29, 30, 31, 54, 55, 56, 57, 58, 59, 60, 61, 62, 63, 64, 65, 66, 67, 68, 69, 70, 71, 72, 73, 74, 75, 76, 77, 78, 79, 80, 81, 82, 83, 84, 85, 86, 87, 88, 89, 90, 91, 92, 93, 94, 95, 96, 97, 98, 99, 120, 121, 122, 123, 124, 125, 126, 112, 113, 114, 115, 116, 104, 105, 106, 107, 117, 118, 119, 108, 109, 110, 111] (by decide +kernel) (by decide +kernel)) (goodIn_sub (fun _ h => List.mem_cons_of_mem _ (List.mem_append_right _ h)) (by decide +kernel))
set_option maxRecDepth 20000 in
theorem gX5_pending_X5_pendingOfPayer : GoodIn wsX5_pending (wsV RX5 203 RX5 yX5_pendingOfPayer wsX5_pendingOfPayer) := goodIn_app (goodIn_of _ (by decide +kernel)) ggX5_pending_X5_pendingOfPayer
set_option maxRecDepth 20000 in
theorem ggX5_pending_X0_size : GoodIn wsX5_pending wsX0_size := goodIn_r _ [103, 84, 85, 10, 11, 12, 13, 14, 108, 117, 118, 119] (by decide +kernel) (by decide +kernel)
set_option maxRecDepth 20000 in
theorem gX5_pending_X0_size : GoodIn wsX5_pending (wsV RX5 150 RX0 yX0_size wsX0_size) := goodIn_app (goodIn_of _ (by decide +kernel)) ggX5_pending_X0_size
set_option maxRecDepth 20000 in
theorem ggX5_pending_X5_amountIfPayeeWaits : GoodIn wsX5_pending wsX5_amountIfPayeeWaits := goodIn_ca (goodIn_r _ [45, 46, 3, 47, 48, 49, 50, 35, 51, 52, 53, 1, 2, 9, 10, 11, 12, 13, 14, 15, 16, 17, 18, 19, 20, 21, 22, 23, 24, 25, 26, 27, 28, 29, 30, 31, 54, 55, 56, 57, 58, 59, 60, 61, 62, 63, 64, 65, 66, 67, 68, 69, 70, 71, 72, 73, 74, 75, 76, 77, 78, 79, 80, 81, 82, 83, 84, 85, 86, 87, 88, 89, 90, 91, 92, 93, 94, 95, 96, 97, 98, 99, 112, 113, 114, 115, 116, 104, 105, 106, 107, 117, 118, 119, 120, 121, 122, 123, 124, 125, 126, 108, 109, 110, 111] (by decide +kernel) (by decide +kernel)) (goodIn_sub (fun _ h => List.mem_cons_of_mem _ (List.mem_append_right _ h)) (by decide +kernel))
set_option maxRecDepth 20000 in
theorem gX5_pending_X5_amountIfPayeeWaits : GoodIn wsX5_pending (wsV RX5 210 RX5 yX5_amountIfPayeeWaits wsX5_amountIfPayeeWaits) := goodIn_app (goodIn_of _ (by decide +kernel)) ggX5_pending_X5_amountIfPayeeWaits
set_option maxRecDepth 20000 in
theorem ggX5_purses_Jx4a65c_size_8abf5 : GoodIn wsX5_purses wsJx4a65c_size_8abf5 := goodIn_r _ [6, 7, 12, 13, 14] (by decide +kernel) (by decide +kernel)
set_option maxRecDepth 20000 in
theorem gX5_purses_Jx4a65c_size_8abf5 : GoodIn wsX5_purses (wsV RX5 43 RJx4a65c yJx4a65c_size_8abf5 wsJx4a65c_size_8abf5) := goodIn_app (goodIn_of _ (by decide +kernel)) ggX5_purses_Jx4a65c_size_8abf5
set_option maxRecDepth 20000 in
theorem ggX5_purseAt_Jx4a65c_size_8abf5 : GoodIn wsX5_purseAt wsJx4a65c_size_8abf5 := goodIn_r _ [9, 10, 32, 33, 34] (by decide +kernel) (by decide +kernel)
set_option maxRecDepth 20000 in
theorem gX5_purseAt_Jx4a65c_size_8abf5 : GoodIn wsX5_purseAt (wsV RX5 43 RJx4a65c yJx4a65c_size_8abf5 wsJx4a65c_size_8abf5) := goodIn_app (goodIn_of _ (by decide +kernel)) ggX5_purseAt_Jx4a65c_size_8abf5
set_option maxRecDepth 20000 in
theorem ggX5_purseAt_Jx4a65c_get_915e3 : GoodIn wsX5_purseAt wsJx4a65c_get_915e3 := goodIn_r _ [14, 10, 15, 16, 17, 18, 19, 20, 21, 22, 23, 24, 25, 8, 26, 27, 32, 33, 34] (by decide +kernel) (by decide +kernel)
set_option maxRecDepth 20000 in
theorem gX5_purseAt_Jx4a65c_get_915e3 : GoodIn wsX5_purseAt (wsV RX5 137 RJx4a65c yJx4a65c_get_915e3 wsJx4a65c_get_915e3) := goodIn_app (goodIn_of _ (by decide +kernel)) ggX5_purseAt_Jx4a65c_get_915e3
set_option maxRecDepth 20000 in
theorem ggX5_messageAt_Jx4a65c_size_8abf5 : GoodIn wsX5_messageAt wsJx4a65c_size_8abf5 := goodIn_r _ [9, 10, 32, 33, 34] (by decide +kernel) (by decide +kernel)
set_option maxRecDepth 20000 in
theorem gX5_messageAt_Jx4a65c_size_8abf5 : GoodIn wsX5_messageAt (wsV RX5 43 RJx4a65c yJx4a65c_size_8abf5 wsJx4a65c_size_8abf5) := goodIn_app (goodIn_of _ (by decide +kernel)) ggX5_messageAt_Jx4a65c_size_8abf5
set_option maxRecDepth 20000 in
theorem ggX5_messageAt_Jx4a65c_get_915e3 : GoodIn wsX5_messageAt wsJx4a65c_get_915e3 := goodIn_r _ [14, 10, 15, 16, 17, 18, 19, 20, 21, 22, 23, 24, 25, 8, 26, 27, 32, 33, 34] (by decide +kernel) (by decide +kernel)
set_option maxRecDepth 20000 in
theorem gX5_messageAt_Jx4a65c_get_915e3 : GoodIn wsX5_messageAt (wsV RX5 137 RJx4a65c yJx4a65c_get_915e3 wsJx4a65c_get_915e3) := goodIn_app (goodIn_of _ (by decide +kernel)) ggX5_messageAt_Jx4a65c_get_915e3
set_option maxRecDepth 20000 in
theorem ggX5_entryAt_X0_size : GoodIn wsX5_entryAt wsX0_size := goodIn_r _ [10, 11, 12, 13, 14, 15, 16, 17, 39, 40, 41, 42] (by decide +kernel) (by decide +kernel)
set_option maxRecDepth 20000 in
theorem gX5_entryAt_X0_size : GoodIn wsX5_entryAt (wsV RX5 150 RX0 yX0_size wsX0_size) := goodIn_app (goodIn_of _ (by decide +kernel)) ggX5_entryAt_X0_size
set_option maxRecDepth 20000 in
theorem ggX5_entryAt_Jx4a65c_get_915e3 : GoodIn wsX5_entryAt wsJx4a65c_get_915e3 := goodIn_r _ [21, 17, 22, 23, 24, 25, 26, 27, 28, 29, 30, 31, 32, 15, 33, 34, 40, 41, 42] (by decide +kernel) (by decide +kernel)
set_option maxRecDepth 20000 in
theorem gX5_entryAt_Jx4a65c_get_915e3 : GoodIn wsX5_entryAt (wsV RX5 137 RJx4a65c yJx4a65c_get_915e3 wsJx4a65c_get_915e3) := goodIn_app (goodIn_of _ (by decide +kernel)) ggX5_entryAt_Jx4a65c_get_915e3
set_option maxRecDepth 20000 in
theorem ggX5_needRoomFor_Jx4a65c_size_8abf5 : GoodIn wsX5_needRoomFor wsJx4a65c_size_8abf5 := goodIn_r _ [8, 9, 14, 15, 16] (by decide +kernel) (by decide +kernel)
set_option maxRecDepth 20000 in
theorem gX5_needRoomFor_Jx4a65c_size_8abf5 : GoodIn wsX5_needRoomFor (wsV RX5 43 RJx4a65c yJx4a65c_size_8abf5 wsJx4a65c_size_8abf5) := goodIn_app (goodIn_of _ (by decide +kernel)) ggX5_needRoomFor_Jx4a65c_size_8abf5
set_option maxRecDepth 20000 in
theorem ggX5_send_Jx4a65c_size_8abf5 : GoodIn wsX5_send wsJx4a65c_size_8abf5 := goodIn_r _ [9, 10, 85, 86, 87] (by decide +kernel) (by decide +kernel)
set_option maxRecDepth 20000 in
theorem gX5_send_Jx4a65c_size_8abf5 : GoodIn wsX5_send (wsV RX5 43 RJx4a65c yJx4a65c_size_8abf5 wsJx4a65c_size_8abf5) := goodIn_app (goodIn_of _ (by decide +kernel)) ggX5_send_Jx4a65c_size_8abf5
set_option maxRecDepth 20000 in
theorem ggX5_send_X2_init : GoodIn wsX5_send wsX2_init := goodIn_r _ [13, 14, 15, 16, 17, 18, 19, 20, 21, 80, 81, 82, 83, 84] (by decide +kernel) (by decide +kernel)
set_option maxRecDepth 20000 in
theorem gX5_send_X2_init : GoodIn wsX5_send (wsX2_init) := ggX5_send_X2_init
set_option maxRecDepth 20000 in
theorem ggX5_send_Jx4a65c_add_9ea2d : GoodIn wsX5_send wsJx4a65c_add_9ea2d := goodIn_r _ [25, 26, 27, 28, 10, 29, 30, 31, 8, 32, 33, 34, 35, 36, 37, 38, 39, 40, 41, 42, 43, 44, 45, 46, 47, 48, 49, 50, 51, 52, 53, 54, 55, 56, 57, 58, 59, 60, 61, 62, 63, 64, 65, 66, 67, 68, 69, 70, 71, 72, 73, 74, 75, 85, 86, 87] (by decide +kernel) (by decide +kernel)
set_option maxRecDepth 20000 in
theorem gX5_send_Jx4a65c_add_9ea2d : GoodIn wsX5_send (wsV RX5 57 RJx4a65c yJx4a65c_add_9ea2d wsJx4a65c_add_9ea2d) := goodIn_app (goodIn_of _ (by decide +kernel)) ggX5_send_Jx4a65c_add_9ea2d
set_option maxRecDepth 20000 in
theorem ggX5_mayBeAnswered_X5_purseAt : GoodIn wsX5_mayBeAnswered wsX5_purseAt := goodIn_ca (goodIn_r _ [8, 9, 10, 11, 12, 13, 14, 15, 16, 17, 18, 19, 20, 21, 22, 23, 24, 25, 26, 27, 28, 29, 30, 31, 32, 33, 34, 35, 58, 59, 60, 61, 62, 63, 64] (by decide +kernel) (by decide +kernel)) (goodIn_sub (fun _ h => List.mem_cons_of_mem _ (List.mem_append_right _ h)) (by decide +kernel))
set_option maxRecDepth 20000 in
theorem gX5_mayBeAnswered_X5_purseAt : GoodIn wsX5_mayBeAnswered (wsV RX5 61 RX5 yX5_purseAt wsX5_purseAt) := goodIn_app (goodIn_of _ (by decide +kernel)) ggX5_mayBeAnswered_X5_purseAt
set_option maxRecDepth 20000 in
theorem ggX5_mayBeAnswered_X3_does : GoodIn wsX5_mayBeAnswered wsX3_does := goodIn_r _ [40, 41, 42, 43, 44, 45, 46, 47, 48, 49, 50, 51, 52, 65, 66, 67, 68, 69, 70, 71, 72, 73, 74, 75, 76] (by decide +kernel) (by decide +kernel)
set_option maxRecDepth 20000 in
theorem gX5_mayBeAnswered_X3_does : GoodIn wsX5_mayBeAnswered (wsV RX5 230 RX3 yX3_does wsX3_does) := goodIn_app (goodIn_of _ (by decide +kernel)) ggX5_mayBeAnswered_X3_does
set_option maxRecDepth 20000 in
theorem ggX5_takePay_X5_purseAt : GoodIn wsX5_takePay wsX5_purseAt := goodIn_ca (goodIn_r _ [16, 17, 18, 19, 20, 21, 22, 23, 24, 25, 26, 27, 28, 29, 30, 31, 32, 33, 34, 35, 36, 37, 38, 39, 40, 41, 42, 43, 148, 149, 150, 151, 152, 153, 154] (by decide +kernel) (by decide +kernel)) (goodIn_sub (fun _ h => List.mem_cons_of_mem _ (List.mem_append_right _ h)) (by decide +kernel))
set_option maxRecDepth 20000 in
theorem gX5_takePay_X5_purseAt : GoodIn wsX5_takePay (wsV RX5 61 RX5 yX5_purseAt wsX5_purseAt) := goodIn_app (goodIn_of _ (by decide +kernel)) ggX5_takePay_X5_purseAt
set_option maxRecDepth 20000 in
theorem ggX5_takePay_X3_end : GoodIn wsX5_takePay wsX3_end := goodIn_r _ [48, 49, 50, 51, 52, 53, 54, 55, 24, 56, 57, 58, 43, 26, 59, 60, 61, 62, 63, 64, 65, 66, 67, 68, 69, 70, 71, 72, 73, 74, 75, 76, 77, 78, 79, 80, 81, 82, 83, 84, 85, 86, 87, 88, 89, 90, 91, 92, 93, 94, 95, 96, 97, 98, 99, 100, 101, 102, 103, 104, 105, 106, 107, 108, 47, 109, 110, 136, 137, 138, 139, 140, 141, 142, 152, 153, 154] (by decide +kernel) (by decide +kernel)
set_option maxRecDepth 20000 in
theorem gX5_takePay_X3_end : GoodIn wsX5_takePay (wsV RX5 126 RX3 yX3_end wsX3_end) := goodIn_app (goodIn_of _ (by decide +kernel)) ggX5_takePay_X3_end
set_option maxRecDepth 20000 in
theorem ggX5_takePay_X3_logIsFull : GoodIn wsX5_takePay wsX3_logIsFull := goodIn_r _ [114, 50, 115, 22, 23, 24, 25, 26, 136, 137, 138, 139, 140, 141, 142, 152, 153, 154] (by decide +kernel) (by decide +kernel)
set_option maxRecDepth 20000 in
theorem gX5_takePay_X3_logIsFull : GoodIn wsX5_takePay (wsV RX5 233 RX3 yX3_logIsFull wsX3_logIsFull) := goodIn_app (goodIn_of _ (by decide +kernel)) ggX5_takePay_X3_logIsFull
set_option maxRecDepth 20000 in
theorem ggX5_takePay_X4_init : GoodIn wsX5_takePay wsX4_init := goodIn_r _ [118, 119, 120, 121, 122, 123, 124, 125, 126, 143, 144, 145, 146, 147] (by decide +kernel) (by decide +kernel)
set_option maxRecDepth 20000 in
theorem gX5_takePay_X4_init : GoodIn wsX5_takePay (wsX4_init) := ggX5_takePay_X4_init
set_option maxRecDepth 20000 in
theorem ggX5_takePay_X3_start : GoodIn wsX5_takePay wsX3_start := goodIn_r _ [130, 49, 51, 52, 136, 137, 138, 139, 140, 141, 142] (by decide +kernel) (by decide +kernel)
set_option maxRecDepth 20000 in
theorem gX5_takePay_X3_start : GoodIn wsX5_takePay (wsV RX5 240 RX3 yX3_start wsX3_start) := goodIn_app (goodIn_of _ (by decide +kernel)) ggX5_takePay_X3_start
set_option maxRecDepth 20000 in
theorem ggX5_takeEarn_X5_purseAt : GoodIn wsX5_takeEarn wsX5_purseAt := goodIn_ca (goodIn_r _ [16, 17, 18, 19, 20, 21, 22, 23, 24, 25, 26, 27, 28, 29, 30, 31, 32, 33, 34, 35, 36, 37, 38, 39, 40, 41, 42, 43, 166, 167, 168, 169, 170, 171, 172] (by decide +kernel) (by decide +kernel)) (goodIn_sub (fun _ h => List.mem_cons_of_mem _ (List.mem_append_right _ h)) (by decide +kernel))
set_option maxRecDepth 20000 in
theorem gX5_takeEarn_X5_purseAt : GoodIn wsX5_takeEarn (wsV RX5 61 RX5 yX5_purseAt wsX5_purseAt) := goodIn_app (goodIn_of _ (by decide +kernel)) ggX5_takeEarn_X5_purseAt
set_option maxRecDepth 20000 in
theorem ggX5_takeEarn_X3_end : GoodIn wsX5_takeEarn wsX3_end := goodIn_r _ [48, 49, 50, 51, 52, 53, 54, 55, 24, 56, 57, 58, 43, 26, 59, 60, 61, 62, 63, 64, 65, 66, 67, 68, 69, 70, 71, 72, 73, 74, 75, 76, 77, 78, 79, 80, 81, 82, 83, 84, 85, 86, 87, 88, 89, 90, 91, 92, 93, 94, 95, 96, 97, 98, 99, 100, 101, 102, 103, 104, 105, 106, 107, 108, 47, 109, 110, 159, 160, 161, 162, 163, 164, 165, 170, 171, 172] (by decide +kernel) (by decide +kernel)
set_option maxRecDepth 20000 in
theorem gX5_takeEarn_X3_end : GoodIn wsX5_takeEarn (wsV RX5 126 RX3 yX3_end wsX3_end) := goodIn_app (goodIn_of _ (by decide +kernel)) ggX5_takeEarn_X3_end
set_option maxRecDepth 20000 in
theorem ggX5_takeEarn_X3_logIsFull : GoodIn wsX5_takeEarn wsX3_logIsFull := goodIn_r _ [114, 50, 115, 22, 23, 24, 25, 26, 159, 160, 161, 162, 163, 164, 165, 170, 171, 172] (by decide +kernel) (by decide +kernel)
set_option maxRecDepth 20000 in
theorem gX5_takeEarn_X3_logIsFull : GoodIn wsX5_takeEarn (wsV RX5 233 RX3 yX3_logIsFull wsX3_logIsFull) := goodIn_app (goodIn_of _ (by decide +kernel)) ggX5_takeEarn_X3_logIsFull
set_option maxRecDepth 20000 in
theorem ggX5_takeEarn_X4_init : GoodIn wsX5_takeEarn wsX4_init := goodIn_r _ [118, 119, 120, 121, 122, 123, 124, 125, 126, 154, 155, 156, 157, 158] (by decide +kernel) (by decide +kernel)
set_option maxRecDepth 20000 in
theorem gX5_takeEarn_X4_init : GoodIn wsX5_takeEarn (wsX4_init) := ggX5_takeEarn_X4_init
set_option maxRecDepth 20000 in
theorem ggX5_takeEarn_X3_start : GoodIn wsX5_takeEarn wsX3_start := goodIn_r _ [130, 49, 51, 52, 159, 160, 161, 162, 163, 164, 165] (by decide +kernel) (by decide +kernel)
set_option maxRecDepth 20000 in
theorem gX5_takeEarn_X3_start : GoodIn wsX5_takeEarn (wsV RX5 240 RX3 yX3_start wsX3_start) := goodIn_app (goodIn_of _ (by decide +kernel)) ggX5_takeEarn_X3_start
set_option maxRecDepth 20000 in
theorem ggX5_takeEarn_X5_send : GoodIn wsX5_takeEarn wsX5_send := goodIn_r _ [134, 135, 136, 137, 138, 21, 22, 23, 24, 25, 26, 139, 140, 141, 142, 120, 121, 143, 144, 145, 146, 147, 148, 54, 55, 56, 57, 58, 43, 59, 60, 61, 62, 63, 64, 65, 66, 67, 68, 69, 70, 71, 72, 73, 74, 75, 76, 77, 78, 79, 80, 81, 82, 83, 84, 85, 86, 87, 88, 89, 90, 91, 92, 93, 94, 95, 96, 97, 98, 99, 100, 101, 102, 103, 104, 105, 166, 167, 168, 169, 149, 150, 151, 152, 153, 170, 171, 172] (by decide +kernel) (by decide +kernel)
set_option maxRecDepth 20000 in
theorem gX5_takeEarn_X5_send : GoodIn wsX5_takeEarn (wsV RX5 78 RX5 yX5_send wsX5_send) := goodIn_app (goodIn_of _ (by decide +kernel)) ggX5_takeEarn_X5_send
set_option maxRecDepth 20000 in
theorem ggX5_takeAsk_X5_purseAt : GoodIn wsX5_takeAsk wsX5_purseAt := goodIn_ca (goodIn_r _ [11, 12, 13, 14, 15, 16, 17, 18, 19, 20, 21, 22, 23, 24, 25, 26, 27, 28, 29, 30, 31, 32, 33, 34, 35, 36, 37, 38, 145, 146, 147, 148, 149, 150, 151] (by decide +kernel) (by decide +kernel)) (goodIn_sub (fun _ h => List.mem_cons_of_mem _ (List.mem_append_right _ h)) (by decide +kernel))
set_option maxRecDepth 20000 in
theorem gX5_takeAsk_X5_purseAt : GoodIn wsX5_takeAsk (wsV RX5 61 RX5 yX5_purseAt wsX5_purseAt) := goodIn_app (goodIn_of _ (by decide +kernel)) ggX5_takeAsk_X5_purseAt
set_option maxRecDepth 20000 in
theorem ggX5_takeAsk_X3_does : GoodIn wsX5_takeAsk wsX3_does := goodIn_r _ [43, 44, 45, 46, 47, 48, 49, 50, 51, 52, 53, 54, 55, 133, 134, 135, 136, 137, 138, 139, 140, 141, 142, 143, 144] (by decide +kernel) (by decide +kernel)
set_option maxRecDepth 20000 in
theorem gX5_takeAsk_X3_does : GoodIn wsX5_takeAsk (wsV RX5 230 RX3 yX3_does wsX3_does) := goodIn_app (goodIn_of _ (by decide +kernel)) ggX5_takeAsk_X3_does
set_option maxRecDepth 20000 in
theorem ggX5_takeAsk_X5_send : GoodIn wsX5_takeAsk wsX5_send := goodIn_r _ [59, 60, 61, 62, 63, 16, 17, 18, 19, 20, 21, 64, 65, 66, 67, 68, 69, 70, 71, 72, 73, 74, 75, 76, 77, 78, 79, 80, 38, 81, 82, 83, 84, 85, 86, 87, 88, 89, 90, 91, 92, 93, 94, 95, 96, 97, 98, 99, 100, 101, 102, 103, 104, 105, 106, 107, 108, 109, 110, 111, 112, 113, 114, 115, 116, 117, 118, 119, 120, 121, 122, 123, 124, 125, 126, 127, 145, 146, 147, 148, 128, 129, 130, 131, 132, 149, 150, 151] (by decide +kernel) (by decide +kernel)
set_option maxRecDepth 20000 in
theorem gX5_takeAsk_X5_send : GoodIn wsX5_takeAsk (wsV RX5 78 RX5 yX5_send wsX5_send) := goodIn_app (goodIn_of _ (by decide +kernel)) ggX5_takeAsk_X5_send
set_option maxRecDepth 20000 in
theorem ggX5_takeValue_X5_purseAt : GoodIn wsX5_takeValue wsX5_purseAt := goodIn_ca (goodIn_r _ [10, 11, 12, 13, 14, 15, 16, 17, 18, 19, 20, 21, 22, 23, 24, 25, 26, 27, 28, 29, 30, 31, 32, 33, 34, 35, 36, 37, 149, 150, 151, 152, 153, 154, 155] (by decide +kernel) (by decide +kernel)) (goodIn_sub (fun _ h => List.mem_cons_of_mem _ (List.mem_append_right _ h)) (by decide +kernel))
set_option maxRecDepth 20000 in
theorem gX5_takeValue_X5_purseAt : GoodIn wsX5_takeValue (wsV RX5 61 RX5 yX5_purseAt wsX5_purseAt) := goodIn_app (goodIn_of _ (by decide +kernel)) ggX5_takeValue_X5_purseAt
set_option maxRecDepth 20000 in
theorem ggX5_takeValue_X3_does : GoodIn wsX5_takeValue wsX3_does := goodIn_r _ [42, 43, 44, 45, 46, 47, 48, 49, 50, 51, 52, 53, 54, 137, 138, 139, 140, 141, 142, 143, 144, 145, 146, 147, 148] (by decide +kernel) (by decide +kernel)
set_option maxRecDepth 20000 in
theorem gX5_takeValue_X3_does : GoodIn wsX5_takeValue (wsV RX5 230 RX3 yX3_does wsX3_does) := goodIn_app (goodIn_of _ (by decide +kernel)) ggX5_takeValue_X3_does
set_option maxRecDepth 20000 in
theorem ggX5_takeValue_X3_rest : GoodIn wsX5_takeValue wsX3_rest := goodIn_r _ [58, 43, 59, 44, 137, 138, 139, 140, 141, 142, 143] (by decide +kernel) (by decide +kernel)
set_option maxRecDepth 20000 in
theorem gX5_takeValue_X3_rest : GoodIn wsX5_takeValue (wsV RX5 244 RX3 yX3_rest wsX3_rest) := goodIn_app (goodIn_of _ (by decide +kernel)) ggX5_takeValue_X3_rest
set_option maxRecDepth 20000 in
theorem ggX5_takeValue_X5_send : GoodIn wsX5_takeValue wsX5_send := goodIn_r _ [63, 64, 65, 66, 67, 15, 16, 17, 18, 19, 20, 68, 69, 70, 71, 72, 73, 74, 75, 76, 77, 78, 79, 80, 81, 82, 83, 84, 37, 85, 86, 87, 88, 89, 90, 91, 92, 93, 94, 95, 96, 97, 98, 99, 100, 101, 102, 103, 104, 105, 106, 107, 108, 109, 110, 111, 112, 113, 114, 115, 116, 117, 118, 119, 120, 121, 122, 123, 124, 125, 126, 127, 128, 129, 130, 131, 149, 150, 151, 152, 132, 133, 134, 135, 136, 153, 154, 155] (by decide +kernel) (by decide +kernel)
set_option maxRecDepth 20000 in
theorem gX5_takeValue_X5_send : GoodIn wsX5_takeValue (wsV RX5 78 RX5 yX5_send wsX5_send) := goodIn_app (goodIn_of _ (by decide +kernel)) ggX5_takeValue_X5_send
set_option maxRecDepth 20000 in
theorem ggX5_takeThanks_X5_purseAt : GoodIn wsX5_takeThanks wsX5_purseAt := goodIn_ca (goodIn_r _ [7, 8, 9, 10, 11, 12, 13, 14, 15, 16, 17, 18, 19, 20, 21, 22, 23, 24, 25, 26, 27, 28, 29, 30, 31, 32, 33, 34, 62, 63, 64, 65, 66, 67, 68] (by decide +kernel) (by decide +kernel)) (goodIn_sub (fun _ h => List.mem_cons_of_mem _ (List.mem_append_right _ h)) (by decide +kernel))
set_option maxRecDepth 20000 in
theorem gX5_takeThanks_X5_purseAt : GoodIn wsX5_takeThanks (wsV RX5 61 RX5 yX5_purseAt wsX5_purseAt) := goodIn_app (goodIn_of _ (by decide +kernel)) ggX5_takeThanks_X5_purseAt
set_option maxRecDepth 20000 in
theorem ggX5_takeThanks_X3_does : GoodIn wsX5_takeThanks wsX3_does := goodIn_r _ [39, 40, 41, 42, 43, 44, 45, 46, 47, 48, 49, 50, 51, 69, 70, 71, 72, 73, 74, 75, 76, 77, 78, 79, 80] (by decide +kernel) (by decide +kernel)
set_option maxRecDepth 20000 in
theorem gX5_takeThanks_X3_does : GoodIn wsX5_takeThanks (wsV RX5 230 RX3 yX3_does wsX3_does) := goodIn_app (goodIn_of _ (by decide +kernel)) ggX5_takeThanks_X3_does
set_option maxRecDepth 20000 in
theorem ggX5_takeThanks_X3_rest : GoodIn wsX5_takeThanks wsX3_rest := goodIn_r _ [55, 40, 56, 41, 69, 70, 71, 72, 73, 74, 75] (by decide +kernel) (by decide +kernel)
set_option maxRecDepth 20000 in
theorem gX5_takeThanks_X3_rest : GoodIn wsX5_takeThanks (wsV RX5 244 RX3 yX3_rest wsX3_rest) := goodIn_app (goodIn_of _ (by decide +kernel)) ggX5_takeThanks_X3_rest
set_option maxRecDepth 20000 in
theorem ggX5_takeClear_X5_purseAt : GoodIn wsX5_takeClear wsX5_purseAt := goodIn_ca (goodIn_r _ [12, 13, 14, 15, 16, 17, 18, 19, 20, 21, 22, 23, 24, 25, 26, 27, 28, 29, 30, 31, 32, 33, 34, 35, 36, 37, 38, 39, 83, 84, 85, 86, 87, 88, 89] (by decide +kernel) (by decide +kernel)) (goodIn_sub (fun _ h => List.mem_cons_of_mem _ (List.mem_append_right _ h)) (by decide +kernel))
set_option maxRecDepth 20000 in
theorem gX5_takeClear_X5_purseAt : GoodIn wsX5_takeClear (wsV RX5 61 RX5 yX5_purseAt wsX5_purseAt) := goodIn_app (goodIn_of _ (by decide +kernel)) ggX5_takeClear_X5_purseAt
set_option maxRecDepth 20000 in
theorem ggX5_takeClear_Jx4a65c_isEmpty_aae02 : GoodIn wsX5_takeClear wsJx4a65c_isEmpty_aae02 := goodIn_r _ [43, 22, 87, 88, 89] (by decide +kernel) (by decide +kernel)
set_option maxRecDepth 20000 in
theorem gX5_takeClear_Jx4a65c_isEmpty_aae02 : GoodIn wsX5_takeClear (wsV RX5 247 RJx4a65c yJx4a65c_isEmpty_aae02 wsJx4a65c_isEmpty_aae02) := goodIn_app (goodIn_of _ (by decide +kernel)) ggX5_takeClear_Jx4a65c_isEmpty_aae02
set_option maxRecDepth 20000 in
theorem ggX5_takeClear_Jx4a65c_size_8abf5 : GoodIn wsX5_takeClear wsJx4a65c_size_8abf5 := goodIn_r _ [21, 22, 87, 88, 89] (by decide +kernel) (by decide +kernel)
set_option maxRecDepth 20000 in
theorem gX5_takeClear_Jx4a65c_size_8abf5 : GoodIn wsX5_takeClear (wsV RX5 43 RJx4a65c yJx4a65c_size_8abf5 wsJx4a65c_size_8abf5) := goodIn_app (goodIn_of _ (by decide +kernel)) ggX5_takeClear_Jx4a65c_size_8abf5
set_option maxRecDepth 20000 in
theorem ggX5_takeClear_Jx4a65c_get_915e3 : GoodIn wsX5_takeClear wsJx4a65c_get_915e3 := goodIn_r _ [26, 22, 27, 28, 29, 30, 31, 32, 33, 34, 35, 36, 37, 20, 38, 39, 87, 88, 89] (by decide +kernel) (by decide +kernel)
set_option maxRecDepth 20000 in
theorem gX5_takeClear_Jx4a65c_get_915e3 : GoodIn wsX5_takeClear (wsV RX5 137 RJx4a65c yJx4a65c_get_915e3 wsJx4a65c_get_915e3) := goodIn_app (goodIn_of _ (by decide +kernel)) ggX5_takeClear_Jx4a65c_get_915e3
set_option maxRecDepth 20000 in
theorem ggX5_takeClear_X0_hadAmong : GoodIn wsX5_takeClear wsX0_hadAmong := goodIn_r _ [48, 49, 50, 51, 52, 53, 18, 19, 20, 21, 22, 54, 24, 25, 26, 27, 28, 29, 30, 31, 32, 33, 34, 35, 36, 37, 38, 39, 55, 56, 57, 58, 59, 60, 61, 62, 63, 64, 90, 91, 92, 93, 87, 88, 89, 94, 95, 96, 97, 98] (by decide +kernel) (by decide +kernel)
set_option maxRecDepth 20000 in
theorem gX5_takeClear_X0_hadAmong : GoodIn wsX5_takeClear (wsV RX5 253 RX0 yX0_hadAmong wsX0_hadAmong) := goodIn_app (goodIn_of _ (by decide +kernel)) ggX5_takeClear_X0_hadAmong
set_option maxRecDepth 20000 in
theorem ggX5_takeClear_Jx4a65c_clear_da8c8 : GoodIn wsX5_takeClear wsJx4a65c_clear_da8c8 := goodIn_r _ [68, 69, 70, 39, 22, 87, 88, 89] (by decide +kernel) (by decide +kernel)
set_option maxRecDepth 20000 in
theorem gX5_takeClear_Jx4a65c_clear_da8c8 : GoodIn wsX5_takeClear (wsV RX5 257 RJx4a65c yJx4a65c_clear_da8c8 wsJx4a65c_clear_da8c8) := goodIn_app (goodIn_of _ (by decide +kernel)) ggX5_takeClear_Jx4a65c_clear_da8c8
set_option maxRecDepth 20000 in
theorem ggX5_pendingOfPayer_X5_amountIfPayeeWaits : GoodIn wsX5_pendingOfPayer wsX5_amountIfPayeeWaits := goodIn_ca (goodIn_r _ [12, 13, 7, 14, 15, 16, 17, 11, 18, 19, 20, 21, 22, 23, 24, 25, 26, 27, 28, 29, 30, 31, 32, 33, 34, 35, 36, 37, 38, 39, 40, 41, 42, 43, 44, 45, 46, 47, 48, 49, 50, 51, 52, 53, 54, 55, 56, 57, 58, 59, 60, 61, 62, 63, 64, 65, 66, 67, 68, 69, 70, 71, 72, 73, 74, 75, 76, 77, 78, 79, 80, 81, 82, 83, 84, 85, 86, 87, 88, 89, 90, 91, 99, 100, 101, 102, 103, 104, 105, 106, 107, 108, 109, 110, 92, 93, 94, 95, 96, 97, 98, 111, 112, 113, 114] (by decide +kernel) (by decide +kernel)) (goodIn_sub (fun _ h => List.mem_cons_of_mem _ (List.mem_append_right _ h)) (by decide +kernel))
set_option maxRecDepth 20000 in
theorem gX5_pendingOfPayer_X5_amountIfPayeeWaits : GoodIn wsX5_pendingOfPayer (wsV RX5 210 RX5 yX5_amountIfPayeeWaits wsX5_amountIfPayeeWaits) := goodIn_app (goodIn_of _ (by decide +kernel)) ggX5_pendingOfPayer_X5_amountIfPayeeWaits
set_option maxRecDepth 20000 in
theorem ggX5_pendingOfPayer_Jx4a65c_size_8abf5 : GoodIn wsX5_pendingOfPayer wsJx4a65c_size_8abf5 := goodIn_r _ [27, 28, 108, 109, 110] (by decide +kernel) (by decide +kernel)
set_option maxRecDepth 20000 in
theorem gX5_pendingOfPayer_Jx4a65c_size_8abf5 : GoodIn wsX5_pendingOfPayer (wsV RX5 43 RJx4a65c yJx4a65c_size_8abf5 wsJx4a65c_size_8abf5) := goodIn_app (goodIn_of _ (by decide +kernel)) ggX5_pendingOfPayer_Jx4a65c_size_8abf5
set_option maxRecDepth 20000 in
theorem ggX5_pendingOfPayer_Jx4a65c_get_915e3 : GoodIn wsX5_pendingOfPayer wsJx4a65c_get_915e3 := goodIn_r _ [32, 28, 33, 34, 35, 36, 37, 38, 39, 40, 41, 42, 43, 26, 44, 45, 108, 109, 110] (by decide +kernel) (by decide +kernel)
set_option maxRecDepth 20000 in
theorem gX5_pendingOfPayer_Jx4a65c_get_915e3 : GoodIn wsX5_pendingOfPayer (wsV RX5 137 RJx4a65c yJx4a65c_get_915e3 wsJx4a65c_get_915e3) := goodIn_app (goodIn_of _ (by decide +kernel)) ggX5_pendingOfPayer_Jx4a65c_get_915e3
set_option maxRecDepth 20000 in
theorem ggX5_pendingOfPayer_X0_has : GoodIn wsX5_pendingOfPayer wsX0_has := goodIn_r _ [75, 76, 77, 24, 25, 26, 27, 28, 78, 79, 80, 74, 81, 82, 83, 84, 85, 30, 31, 32, 33, 34, 35, 36, 37, 38, 39, 40, 41, 42, 43, 44, 45, 86, 54, 55, 56, 57, 58, 59, 60, 61, 62, 111, 108, 109, 110, 112, 113, 114, 99, 100, 101, 102, 103] (by decide +kernel) (by decide +kernel)
set_option maxRecDepth 20000 in
theorem gX5_pendingOfPayer_X0_has : GoodIn wsX5_pendingOfPayer (wsV RX5 161 RX0 yX0_has wsX0_has) := goodIn_app (goodIn_of _ (by decide +kernel)) ggX5_pendingOfPayer_X0_has
set_option maxRecDepth 20000 in
theorem ggX5_amountIfPayeeWaits_X5_purseAt : GoodIn wsX5_amountIfPayeeWaits wsX5_purseAt := goodIn_ca (goodIn_r _ [8, 9, 10, 11, 12, 13, 14, 15, 16, 17, 18, 19, 20, 21, 22, 23, 24, 25, 26, 27, 28, 29, 30, 31, 32, 33, 34, 35, 87, 88, 89, 90, 91, 92, 93] (by decide +kernel) (by decide +kernel)) (goodIn_sub (fun _ h => List.mem_cons_of_mem _ (List.mem_append_right _ h)) (by decide +kernel))
set_option maxRecDepth 20000 in
theorem gX5_amountIfPayeeWaits_X5_purseAt : GoodIn wsX5_amountIfPayeeWaits (wsV RX5 61 RX5 yX5_purseAt wsX5_purseAt) := goodIn_app (goodIn_of _ (by decide +kernel)) ggX5_amountIfPayeeWaits_X5_purseAt
set_option maxRecDepth 20000 in
theorem ggX5_amountIfPayeeWaits_X3_does : GoodIn wsX5_amountIfPayeeWaits wsX3_does := goodIn_r _ [40, 41, 42, 43, 44, 45, 46, 47, 48, 49, 50, 51, 52, 94, 95, 96, 97, 98, 99, 100, 82, 83, 84, 85, 86] (by decide +kernel) (by decide +kernel)
set_option maxRecDepth 20000 in
theorem gX5_amountIfPayeeWaits_X3_does : GoodIn wsX5_amountIfPayeeWaits (wsV RX5 230 RX3 yX3_does wsX3_does) := goodIn_app (goodIn_of _ (by decide +kernel)) ggX5_amountIfPayeeWaits_X3_does
set_option maxRecDepth 20000 in
theorem ggX5_amountIfPayeeWaits_X3_hasKept : GoodIn wsX5_amountIfPayeeWaits wsX3_hasKept := goodIn_r _ [56, 57, 58, 59, 14, 15, 16, 17, 18, 60, 20, 21, 22, 23, 24, 25, 26, 27, 28, 29, 30, 31, 32, 33, 34, 35, 43, 44, 45, 46, 47, 48, 49, 50, 51, 52, 94, 95, 96, 97, 98, 99, 100, 91, 92, 93, 82, 83, 84, 85, 86] (by decide +kernel) (by decide +kernel)
set_option maxRecDepth 20000 in
theorem gX5_amountIfPayeeWaits_X3_hasKept : GoodIn wsX5_amountIfPayeeWaits (wsV RX5 260 RX3 yX3_hasKept wsX3_hasKept) := goodIn_app (goodIn_of _ (by decide +kernel)) ggX5_amountIfPayeeWaits_X3_hasKept
set_option maxRecDepth 20000 in
theorem ggX5_amountIfPayeeWaits_X0_has : GoodIn wsX5_amountIfPayeeWaits wsX0_has := goodIn_r _ [65, 66, 67, 14, 15, 16, 17, 18, 68, 69, 70, 64, 71, 72, 73, 74, 75, 20, 21, 22, 23, 24, 25, 26, 27, 28, 29, 30, 31, 32, 33, 34, 35, 76, 44, 45, 46, 47, 48, 49, 50, 51, 52, 101, 91, 92, 93, 102, 103, 104, 82, 83, 84, 85, 86] (by decide +kernel) (by decide +kernel)
set_option maxRecDepth 20000 in
theorem gX5_amountIfPayeeWaits_X0_has : GoodIn wsX5_amountIfPayeeWaits (wsV RX5 161 RX0 yX0_has wsX0_has) := goodIn_app (goodIn_of _ (by decide +kernel)) ggX5_amountIfPayeeWaits_X0_has
set_option maxRecDepth 20000 in
theorem ggX5_amountIfPayeeWaits_X0_hasRefunded : GoodIn wsX5_amountIfPayeeWaits wsX0_hasRefunded := goodIn_r _ [80, 66, 72, 81, 74, 67, 14, 15, 16, 17, 18, 75, 20, 21, 22, 23, 24, 25, 26, 27, 28, 29, 30, 31, 32, 33, 34, 35, 76, 44, 45, 46, 47, 48, 49, 50, 51, 52, 101, 102, 103, 104, 91, 92, 93, 82, 83, 84, 85, 86] (by decide +kernel) (by decide +kernel)
set_option maxRecDepth 20000 in
theorem gX5_amountIfPayeeWaits_X0_hasRefunded : GoodIn wsX5_amountIfPayeeWaits (wsV RX5 264 RX0 yX0_hasRefunded wsX0_hasRefunded) := goodIn_app (goodIn_of _ (by decide +kernel)) ggX5_amountIfPayeeWaits_X0_hasRefunded
