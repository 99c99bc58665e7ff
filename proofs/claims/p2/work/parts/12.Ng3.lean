set_option maxRecDepth 20000 in
theorem ggX11_mend_X6_mendAll : GoodIn wsX11_mend wsX6_mendAll := goodIn_r _ [13, 14, 15, 16, 17, 18, 19, 20, 21, 22, 23, 12, 24, 25, 26, 27, 28, 29, 30, 31, 32, 33, 34, 35, 36, 37, 38, 39, 40, 41, 42, 43, 44, 45, 46, 47, 48, 49, 50, 51, 52, 53, 54, 55, 56, 57, 58, 59, 60, 61, 62, 63, 64, 65, 66, 67, 68, 69, 70, 71, 72, 73, 74, 75, 76, 77, 5, 78, 79, 80, 81, 82, 83, 84, 85, 86, 87, 88, 89, 90, 91, 92, 93, 94, 95, 96, 97, 98, 99, 100, 101, 102, 103, 104, 105, 106, 107, 108, 109, 110, 111, 112, 113, 114, 115, 116, 117, 118, 119, 120, 121, 122, 123, 124, 125, 126, 127, 128, 129, 130, 131, 132, 133, 134, 135, 136, 137, 138, 139, 140, 154, 155, 156, 157, 158, 159, 160, 161, 162, 163, 164, 165, 166, 167, 168, 169, 170, 171, 172, 173, 174, 175, 176, 177, 178, 179, 180, 181, 182, 183, 184, 185, 186, 187, 188, 189, 190, 191, 192, 193, 194, 195, 196, 197] (by decide +kernel) (by decide +kernel)
set_option maxRecDepth 20000 in
theorem gX11_mend_X6_mendAll : GoodIn wsX11_mend (wsV RX11 297 RX6 yX6_mendAll wsX6_mendAll) := goodIn_app (goodIn_of _ (by decide +kernel)) ggX11_mend_X6_mendAll
set_option maxRecDepth 20000 in
theorem ggX12_tooFew_X12_chooseName : GoodIn wsX12_tooFew wsX12_chooseName := goodIn_r _ [15, 16, 17, 18, 19, 6, 20, 21, 22, 23, 24, 25, 26, 27, 28, 29, 30, 31, 2, 32, 33, 34, 35, 36, 37, 38, 39, 40, 41, 42, 43, 44, 45, 46, 47, 48, 49, 50, 51, 52, 53, 54, 55, 56, 57, 58, 59, 60, 61, 62, 63, 64, 65, 66, 67, 68, 69, 70, 71, 72, 73, 74, 75, 76, 77, 78, 79, 80, 81, 82, 83, 84, 85, 86, 87, 88, 89, 90, 91, 92, 93, 94, 95, 96, 97, 98, 99, 100, 101, 102, 103, 104, 105, 106, 107, 108, 109, 110, 111, 112, 113, 114, 115, 116, 117, 118, 119, 120, 121, 122, 123, 124, 125, 126] (by decide +kernel) (by decide +kernel)
set_option maxRecDepth 20000 in
theorem gX12_tooFew_X12_chooseName : GoodIn wsX12_tooFew (wsV RX12 269 RX12 yX12_chooseName wsX12_chooseName) := goodIn_app (goodIn_of _ (by decide +kernel)) ggX12_tooFew_X12_chooseName
set_option maxRecDepth 20000 in
theorem ggX11_keeperOf_X1_choose : GoodIn wsX11_keeperOf wsX1_choose := goodIn_r _ [30, 31, 32, 33, 34, 35, 36, 37, 38, 39, 40, 41, 42, 43, 44, 45, 46, 29, 47, 48, 49, 50, 51, 52, 53, 54, 55, 56, 57, 58, 59, 60, 61, 62, 63, 64, 9, 65, 66, 67, 68, 69, 70, 71, 72, 73, 74, 75, 76, 77, 78, 79, 80, 81, 82, 83, 84, 85, 86, 87, 88, 89, 90, 91, 92, 93, 94, 95, 96, 97, 98, 99, 100, 127, 128, 129, 130, 131, 132, 133, 134, 135, 114, 115, 116, 117, 118, 119, 120, 121, 122, 123, 124, 125, 126, 140, 141, 142, 143, 144, 145] (by decide +kernel) (by decide +kernel)
set_option maxRecDepth 20000 in
theorem gX11_keeperOf_X1_choose : GoodIn wsX11_keeperOf (wsV RX11 234 RX1 yX1_choose wsX1_choose) := goodIn_app (goodIn_of _ (by decide +kernel)) ggX11_keeperOf_X1_choose
set_option maxRecDepth 20000 in
theorem ggX12_share_X12_findOdds : GoodIn wsX12_share wsX12_findOdds := goodIn_r _ [59, 1, 22, 30, 31, 32, 5, 33, 34, 35, 36, 37, 38, 39, 40, 15, 21, 41, 42, 43, 44, 45, 46, 47, 48, 49, 50, 51, 52, 53, 54, 55, 60, 61, 62, 63, 64, 65, 66, 67, 68, 69, 70, 71, 72, 73, 74, 75, 76, 77, 78, 79, 80, 81, 82, 83, 84, 85, 86, 87, 88, 89, 90, 91, 92, 93, 94, 95, 96, 97, 98, 99, 100, 101, 102, 103, 104, 105, 106, 107, 108, 109, 110, 111, 112, 113, 114, 115, 116, 117, 118] (by decide +kernel) (by decide +kernel)
set_option maxRecDepth 20000 in
theorem gX12_share_X12_findOdds : GoodIn wsX12_share (wsV RX12 275 RX12 yX12_findOdds wsX12_findOdds) := goodIn_app (goodIn_of _ (by decide +kernel)) ggX12_share_X12_findOdds
set_option maxRecDepth 20000 in
theorem ggX12_sum_X12_product : GoodIn wsX12_sum wsX12_product := goodIn_r _ [30, 1, 2, 31, 32, 33, 6, 7, 8, 9, 10, 11, 12, 13, 14, 15, 16, 17, 18, 19, 20, 21, 22, 23, 24, 25, 26, 27, 28, 29, 0, 3, 4, 5, 34, 35, 36, 37, 38, 39, 40, 41, 42, 43, 44, 45, 46, 47, 48, 49, 50, 51, 52, 53, 54, 55, 56, 57, 58, 59, 60, 61, 62, 63, 64, 65, 66, 67, 68, 69, 70, 71, 72, 73, 74, 75, 76, 77, 78, 79, 80, 81, 82, 83, 84, 85, 86, 87, 88, 89, 90, 91, 92] (by decide +kernel) (by decide +kernel)
set_option maxRecDepth 20000 in
theorem gX12_sum_X12_product : GoodIn wsX12_sum (wsV RX12 191 RX12 yX12_product wsX12_product) := goodIn_app (goodIn_of _ (by decide +kernel)) ggX12_sum_X12_product
set_option maxRecDepth 20000 in
theorem ggX12_shareOf_X12_pick : GoodIn wsX12_shareOf wsX12_pick := goodIn_r _ [15, 16, 17, 18, 3, 19, 20, 21, 7, 22, 23, 2, 24, 25, 26, 27, 28, 29, 30, 31, 32, 33, 34, 35, 36, 37, 38, 39, 40, 41, 42, 43, 44, 45, 46, 47, 48, 49, 50, 51, 52, 53, 54, 55, 56, 57, 58, 59, 60, 61, 62, 63, 64, 65, 66, 67, 68, 69, 70, 71, 72, 73, 74, 75, 76, 77, 78, 79, 80, 81, 82, 83, 84, 85, 86, 87, 88, 89, 90, 91, 92, 93, 94, 95, 96, 97] (by decide +kernel) (by decide +kernel)
set_option maxRecDepth 20000 in
theorem gX12_shareOf_X12_pick : GoodIn wsX12_shareOf (wsV RX12 253 RX12 yX12_pick wsX12_pick) := goodIn_app (goodIn_of _ (by decide +kernel)) ggX12_shareOf_X12_pick
set_option maxRecDepth 20000 in
theorem ggX12_table_X12_numbers : GoodIn wsX12_table wsX12_numbers := goodIn_r _ [22, 23, 24, 25, 26, 1, 5, 6, 27, 28, 29, 15, 30, 3, 79, 80, 81, 82, 83, 84, 85, 86, 87, 88, 89, 90, 91, 92, 93, 94, 95, 96, 97, 98, 99, 100, 101, 102, 103, 104, 105, 106, 107, 108, 109, 110, 111, 112, 113, 114, 115, 116, 117, 118, 119, 120, 121, 122, 123, 124, 125, 126, 127, 128, 129, 130, 131, 132, 133, 134, 135, 136, 137] (by decide +kernel) (by decide +kernel)
set_option maxRecDepth 20000 in
theorem gX12_table_X12_numbers : GoodIn wsX12_table (wsV RX12 231 RX12 yX12_numbers wsX12_numbers) := goodIn_app (goodIn_of _ (by decide +kernel)) ggX12_table_X12_numbers
set_option maxRecDepth 20000 in
theorem ggX12_order_X12_nextOrder : GoodIn wsX12_order wsX12_nextOrder := goodIn_r _ [149, 5, 150, 151, 152, 153, 154, 155, 156, 157, 158, 159, 160, 161, 162, 163, 164, 165, 166, 167, 168, 169, 170, 171, 172, 173, 174, 175, 176, 177, 178, 179, 180, 181, 182, 183, 184, 185, 186, 187, 188, 189, 190, 191, 192, 193, 194, 195, 196, 197, 198, 199, 200, 201, 202, 203, 204, 205, 206, 207, 208] (by decide +kernel) (by decide +kernel)
set_option maxRecDepth 20000 in
theorem gX12_order_X12_nextOrder : GoodIn wsX12_order (wsV RX12 328 RX12 yX12_nextOrder wsX12_nextOrder) := goodIn_app (goodIn_of _ (by decide +kernel)) ggX12_order_X12_nextOrder
set_option maxRecDepth 20000 in
theorem ggX12_table_X12_countsNow : GoodIn wsX12_table wsX12_countsNow := goodIn_r _ [16, 17, 18, 79, 80, 81, 82, 83, 84, 85, 86, 87, 88, 89, 90, 91, 92, 93, 94, 95, 96, 97, 98, 99, 100, 101, 102, 103, 104, 105, 106, 107, 108, 109, 110, 111, 112, 113, 114, 115, 116, 117, 118, 119, 120, 121, 122, 123, 124, 125, 126, 127, 128, 129, 130, 131, 132, 133, 134, 135, 136, 137] (by decide +kernel) (by decide +kernel)
set_option maxRecDepth 20000 in
theorem gX12_table_X12_countsNow : GoodIn wsX12_table (wsV RX12 170 RX12 yX12_countsNow wsX12_countsNow) := goodIn_app (goodIn_of _ (by decide +kernel)) ggX12_table_X12_countsNow
set_option maxRecDepth 20000 in
theorem ggX12_order_X12_bits : GoodIn wsX12_order wsX12_bits := goodIn_r _ [138, 111, 114, 150, 151, 152, 153, 154, 155, 156, 157, 158, 159, 160, 161, 162, 163, 164, 165, 166, 167, 168, 169, 170, 171, 172, 173, 174, 175, 176, 177, 178, 179, 180, 181, 182, 183, 184, 185, 186, 187, 188, 189, 190, 191, 192, 193, 194, 195, 196, 197, 198, 199, 200, 201, 202, 203, 204, 205, 206, 207, 208] (by decide +kernel) (by decide +kernel)
set_option maxRecDepth 20000 in
theorem gX12_order_X12_bits : GoodIn wsX12_order (wsV RX12 281 RX12 yX12_bits wsX12_bits) := goodIn_app (goodIn_of _ (by decide +kernel)) ggX12_order_X12_bits
set_option maxRecDepth 20000 in
theorem ggX12_ofKeeper_X12_countsNow : GoodIn wsX12_ofKeeper wsX12_countsNow := goodIn_r _ [19, 2, 4, 26, 27, 28, 29, 30, 31, 32, 33, 34, 35, 36, 37, 38, 39, 40, 41, 42, 43, 44, 45, 46, 47, 48, 49, 50, 51, 52, 53, 54, 55, 56, 57, 58, 59, 60, 61, 62, 63, 64, 65, 66, 67, 68, 69, 70, 71, 72, 73, 74, 75, 76, 77, 78, 79, 80, 81, 82, 83, 84] (by decide +kernel) (by decide +kernel)
set_option maxRecDepth 20000 in
theorem gX12_ofKeeper_X12_countsNow : GoodIn wsX12_ofKeeper (wsV RX12 170 RX12 yX12_countsNow wsX12_countsNow) := goodIn_app (goodIn_of _ (by decide +kernel)) ggX12_ofKeeper_X12_countsNow
set_option maxRecDepth 20000 in
theorem ggX12_name_X12_comesName : GoodIn wsX12_name wsX12_comesName := goodIn_r _ [18, 13, 4, 14, 2, 19, 20, 21, 22, 23, 24, 25, 26, 27, 28, 29, 30, 31, 32, 33, 34, 35, 36, 37, 38, 39, 40, 41, 42, 43, 44, 45, 46, 47, 48, 49, 50, 51, 52, 53, 54, 55, 56, 57, 58, 59, 60, 61, 62, 63, 64, 65, 66, 67, 68, 69, 70, 71, 72, 73, 74, 75, 76, 77] (by decide +kernel) (by decide +kernel)
set_option maxRecDepth 20000 in
theorem gX12_name_X12_comesName : GoodIn wsX12_name (wsV RX12 153 RX12 yX12_comesName wsX12_comesName) := goodIn_app (goodIn_of _ (by decide +kernel)) ggX12_name_X12_comesName
set_option maxRecDepth 20000 in
theorem ggX12_tellsFrom_X12_begins : GoodIn wsX12_tellsFrom wsX12_begins := goodIn_r _ [6, 7, 8, 28, 29, 30, 31, 32, 33, 34, 35, 36, 37, 38, 39, 40, 41, 42, 43, 44, 45, 46, 47, 48, 49, 50, 51, 52, 53, 54, 55, 56, 57, 58, 59, 60, 61, 62, 63, 64, 65, 66, 67, 68, 69, 70, 71, 72, 73, 74, 75, 76, 77, 78, 79, 80, 81, 82, 83, 84, 85, 86] (by decide +kernel) (by decide +kernel)
set_option maxRecDepth 20000 in
theorem gX12_tellsFrom_X12_begins : GoodIn wsX12_tellsFrom (wsV RX12 337 RX12 yX12_begins wsX12_begins) := goodIn_app (goodIn_of _ (by decide +kernel)) ggX12_tellsFrom_X12_begins
set_option maxRecDepth 20000 in
theorem ggX12_product_X12_here : GoodIn wsX12_product wsX12_here := goodIn_r _ [10, 2, 11, 12, 13, 34, 35, 36, 37, 38, 39, 40, 41, 42, 43, 44, 45, 46, 47, 48, 49, 50, 51, 52, 53, 54, 55, 56, 57, 58, 59, 60, 61, 62, 63, 64, 65, 66, 67, 68, 69, 70, 71, 72, 73, 74, 75, 76, 77, 78, 79, 80, 81, 82, 83, 84, 85, 86, 87, 88, 89, 90, 91, 92] (by decide +kernel) (by decide +kernel)
set_option maxRecDepth 20000 in
theorem gX12_product_X12_here : GoodIn wsX12_product (wsV RX12 187 RX12 yX12_here wsX12_here) := goodIn_app (goodIn_of _ (by decide +kernel)) ggX12_product_X12_here
set_option maxRecDepth 20000 in
theorem ggX12_hasRoom_X12_many : GoodIn wsX12_hasRoom wsX12_many := goodIn_r _ [7, 2, 8, 9, 10, 11, 12, 13, 14, 15, 16, 17, 18, 19, 20, 21, 22, 23, 24, 25, 26, 27, 28, 29, 30, 31, 32, 33, 34, 35, 36, 37, 38, 39, 40, 41, 42, 43, 44, 45, 46, 47, 48, 49, 50, 51, 52, 53, 54, 55, 56, 57, 58, 59, 60, 61, 62, 63, 64, 65, 66, 67] (by decide +kernel) (by decide +kernel)
set_option maxRecDepth 20000 in
theorem gX12_hasRoom_X12_many : GoodIn wsX12_hasRoom (wsV RX12 173 RX12 yX12_many wsX12_many) := goodIn_app (goodIn_of _ (by decide +kernel)) ggX12_hasRoom_X12_many
set_option maxRecDepth 20000 in
theorem ggX12_even_X12_isIn : GoodIn wsX12_even wsX12_isIn := goodIn_r _ [30, 14, 36, 37, 38, 39, 40, 41, 42, 43, 44, 45, 46, 47, 48, 49, 50, 51, 52, 53, 54, 55, 56, 57, 58, 59, 60, 61, 62, 63, 64, 65, 66, 67, 68, 69, 70, 71, 72, 73, 74, 75, 76, 77, 78, 79, 80, 81, 82, 83, 84, 85, 86, 87, 88, 89, 90, 91, 92, 93, 94] (by decide +kernel) (by decide +kernel)
set_option maxRecDepth 20000 in
theorem gX12_even_X12_isIn : GoodIn wsX12_even (wsV RX12 223 RX12 yX12_isIn wsX12_isIn) := goodIn_app (goodIn_of _ (by decide +kernel)) ggX12_even_X12_isIn
set_option maxRecDepth 20000 in
theorem ggX3_readBracket_X3_readSum : GoodIn wsX3_readBracket wsX3_readSum := goodIn_r _ [32, 2, 1, 33, 34, 35, 6, 7, 8, 9, 10, 11, 12, 0, 3, 4, 5, 13, 14, 15, 16, 17, 18, 19, 20, 21, 22, 23, 24, 25, 26, 27, 28, 29, 30, 31, 36, 37, 38, 39, 40, 41, 42, 43] (by decide +kernel) (by decide +kernel)
set_option maxRecDepth 20000 in
theorem gX3_readBracket_X3_readSum : GoodIn wsX3_readBracket (wsV RX3 88 RX3 yX3_readSum wsX3_readSum) := goodIn_app (goodIn_of _ (by decide +kernel)) ggX3_readBracket_X3_readSum
set_option maxRecDepth 20000 in
theorem ggX5_leastFrom_X5_walk : GoodIn wsX5_leastFrom wsX5_walk := goodIn_r _ [236, 237, 1, 238, 239, 240, 241, 6, 242, 2, 228, 229, 230, 231, 14, 15, 17, 232, 80, 81, 82, 83, 84, 85, 243, 244, 245, 246, 247, 248, 249, 250, 251, 252, 266, 267, 268, 269] (by decide +kernel) (by decide +kernel)
set_option maxRecDepth 20000 in
theorem gX5_leastFrom_X5_walk : GoodIn wsX5_leastFrom (wsV RX5 57 RX5 yX5_walk wsX5_walk) := goodIn_app (goodIn_of _ (by decide +kernel)) ggX5_leastFrom_X5_walk
set_option maxRecDepth 20000 in
theorem ggX11_half_X6_movePiece : GoodIn wsX11_half wsX6_movePiece := goodIn_r _ [21, 22, 23, 24, 25, 26, 27, 28, 14, 29, 30, 31, 32, 33, 34, 20, 35, 49, 50, 51, 52, 53, 54, 55, 56, 57, 58, 59, 60, 65, 66, 67, 68, 69, 70] (by decide +kernel) (by decide +kernel)
set_option maxRecDepth 20000 in
theorem gX11_half_X6_movePiece : GoodIn wsX11_half (wsV RX11 293 RX6 yX6_movePiece wsX6_movePiece) := goodIn_app (goodIn_of _ (by decide +kernel)) ggX11_half_X6_movePiece
set_option maxRecDepth 20000 in
theorem ggX0_keepsFrom_X0_keepsFrom : GoodIn wsX0_keepsFrom wsX0_keepsFrom := goodIn_r _ [0, 1, 2, 3, 4, 5, 6, 7, 8, 9, 10, 11, 12, 13, 14, 15, 16, 17, 18, 19, 20, 21, 22, 23, 24, 25, 26] (by decide +kernel) (by decide +kernel)
set_option maxRecDepth 20000 in
theorem gX0_keepsFrom_X0_keepsFrom : GoodIn wsX0_keepsFrom (wsV RX0 32 RX0 yX0_keepsFrom wsX0_keepsFrom) := goodIn_app (goodIn_of _ (by decide +kernel)) ggX0_keepsFrom_X0_keepsFrom
set_option maxRecDepth 20000 in
theorem ggX11_names_X4_addFrom : GoodIn wsX11_names wsX4_addFrom := goodIn_r _ [25, 26, 27, 28, 29, 30, 24, 31, 32, 33, 34, 35, 36, 37, 38, 39, 40, 41, 42, 43, 44, 45, 63, 64, 65, 66] (by decide +kernel) (by decide +kernel)
set_option maxRecDepth 20000 in
theorem gX11_names_X4_addFrom : GoodIn wsX11_names (wsV RX11 407 RX4 yX4_addFrom wsX4_addFrom) := goodIn_app (goodIn_of _ (by decide +kernel)) ggX11_names_X4_addFrom
set_option maxRecDepth 20000 in
theorem ggX11_act_X0_run : GoodIn wsX11_act wsX0_run := goodIn_r _ [16, 17, 18, 19, 20, 21, 22, 15, 23, 24, 25, 26, 27, 28, 29, 30, 31, 32, 33, 34, 35, 36, 37, 38, 39, 40, 41, 55, 56, 57, 58, 59] (by decide +kernel) (by decide +kernel)
set_option maxRecDepth 20000 in
theorem gX11_act_X0_run : GoodIn wsX11_act (wsV RX11 347 RX0 yX0_run wsX0_run) := goodIn_app (goodIn_of _ (by decide +kernel)) ggX11_act_X0_run
set_option maxRecDepth 20000 in
theorem ggX8_seatAll_X8_linkPlaces : GoodIn wsX8_seatAll wsX8_linkPlaces := goodIn_r _ [25, 4, 26, 27, 28, 29, 30, 31, 32, 33, 34, 35, 36, 37, 38, 39] (by decide +kernel) (by decide +kernel)
set_option maxRecDepth 20000 in
theorem gX8_seatAll_X8_linkPlaces : GoodIn wsX8_seatAll (wsV RX8 93 RX8 yX8_linkPlaces wsX8_linkPlaces) := goodIn_app (goodIn_of _ (by decide +kernel)) ggX8_seatAll_X8_linkPlaces
set_option maxRecDepth 20000 in
theorem ggX11_read_X11_tableAt : GoodIn wsX11_read wsX11_tableAt := goodIn_r _ [21, 22, 23, 128, 129, 130, 131, 132, 133, 134, 135, 136, 137, 138, 139, 140] (by decide +kernel) (by decide +kernel)
set_option maxRecDepth 20000 in
theorem gX11_read_X11_tableAt : GoodIn wsX11_read (wsV RX11 192 RX11 yX11_tableAt wsX11_tableAt) := goodIn_app (goodIn_of _ (by decide +kernel)) ggX11_read_X11_tableAt
set_option maxRecDepth 20000 in
theorem ggX6_allKept_X6_keptBy : GoodIn wsX6_allKept wsX6_keptBy := goodIn_r _ [7, 8, 9, 10, 6, 11, 12, 13, 14, 15, 16, 17, 18, 19, 20, 21, 22, 23] (by decide +kernel) (by decide +kernel)
set_option maxRecDepth 20000 in
theorem gX6_allKept_X6_keptBy : GoodIn wsX6_allKept (wsV RX6 145 RX6 yX6_keptBy wsX6_keptBy) := goodIn_app (goodIn_of _ (by decide +kernel)) ggX6_allKept_X6_keptBy
set_option maxRecDepth 20000 in
theorem ggX5_sumOver_J6_bitCount_0f7a4 : GoodIn wsX5_sumOver wsJ6_bitCount_0f7a4 := goodIn_r _ [8, 9, 10, 11] (by decide +kernel) (by decide +kernel)
set_option maxRecDepth 20000 in
theorem gX5_sumOver_J6_bitCount_0f7a4 : GoodIn wsX5_sumOver (va_wsS RX5 111 yJ6_bitCount_0f7a4 wsJ6_bitCount_0f7a4) := goodIn_app (goodIn_of _ (by decide +kernel)) ggX5_sumOver_J6_bitCount_0f7a4
set_option maxRecDepth 20000 in
theorem ggX11_noon_J6_bitCount_0f7a4 : GoodIn wsX11_noon wsJ6_bitCount_0f7a4 := goodIn_r _ [12, 13, 14, 15] (by decide +kernel) (by decide +kernel)
set_option maxRecDepth 20000 in
theorem gX11_noon_J6_bitCount_0f7a4 : GoodIn wsX11_noon (va_wsS RX11 246 yJ6_bitCount_0f7a4 wsJ6_bitCount_0f7a4) := goodIn_app (goodIn_of _ (by decide +kernel)) ggX11_noon_J6_bitCount_0f7a4
set_option maxRecDepth 20000 in
theorem ggX5_seatSet_X4_placeOf : GoodIn wsX5_seatSet wsX4_placeOf := goodIn_r _ [151, 152, 153, 154, 241, 242, 243, 244] (by decide +kernel) (by decide +kernel)
set_option maxRecDepth 20000 in
theorem gX5_seatSet_X4_placeOf : GoodIn wsX5_seatSet (wsV RX5 95 RX4 yX4_placeOf wsX4_placeOf) := goodIn_app (goodIn_of _ (by decide +kernel)) ggX5_seatSet_X4_placeOf
set_option maxRecDepth 20000 in
theorem ggX3_readSum_X3_sign : GoodIn wsX3_readSum wsX3_sign := goodIn_r _ [10, 2, 11, 12, 36, 37, 38, 39, 40, 41, 42, 43] (by decide +kernel) (by decide +kernel)
set_option maxRecDepth 20000 in
theorem gX3_readSum_X3_sign : GoodIn wsX3_readSum (wsV RX3 62 RX3 yX3_sign wsX3_sign) := goodIn_app (goodIn_of _ (by decide +kernel)) ggX3_readSum_X3_sign
set_option maxRecDepth 20000 in
theorem ggX0_movesFrom_X0_begin : GoodIn wsX0_movesFrom wsX0_begin := goodIn_r _ [7, 8, 9, 18, 19, 20, 21, 22] (by decide +kernel) (by decide +kernel)
set_option maxRecDepth 20000 in
theorem gX0_movesFrom_X0_begin : GoodIn wsX0_movesFrom (wsV RX0 41 RX0 yX0_begin wsX0_begin) := goodIn_app (goodIn_of _ (by decide +kernel)) ggX0_movesFrom_X0_begin
set_option maxRecDepth 20000 in
theorem ggX12_tellsFrom_X12_aboveOf : GoodIn wsX12_tellsFrom wsX12_aboveOf := goodIn_r _ [20] (by decide +kernel) (by decide +kernel)
set_option maxRecDepth 20000 in
theorem gX12_tellsFrom_X12_aboveOf : GoodIn wsX12_tellsFrom (va_wsS RX12 343 yX12_aboveOf wsX12_aboveOf) := goodIn_app (goodIn_of _ (by decide +kernel)) ggX12_tellsFrom_X12_aboveOf
set_option maxRecDepth 20000 in
theorem ggX11_keeperOf_X4_has : GoodIn wsX11_keeperOf wsX4_has := goodIn_r _ [17, 18, 136, 137, 138, 139] (by decide +kernel) (by decide +kernel)
set_option maxRecDepth 20000 in
theorem gX11_keeperOf_X4_has : GoodIn wsX11_keeperOf (wsV RX11 123 RX4 yX4_has wsX4_has) := goodIn_app (goodIn_of _ (by decide +kernel)) ggX11_keeperOf_X4_has
set_option maxRecDepth 20000 in
theorem ggX6_empty_J7_fill_53178 : GoodIn wsX6_empty wsJ7_fill_53178 := goodIn_r _ [6] (by decide +kernel) (by decide +kernel)
set_option maxRecDepth 20000 in
theorem gX6_empty_J7_fill_53178 : GoodIn wsX6_empty (va_wsS RX6 124 yJ7_fill_53178 wsJ7_fill_53178) := goodIn_app (goodIn_of _ (by decide +kernel)) ggX6_empty_J7_fill_53178
set_option maxRecDepth 20000 in
theorem ggX11_share_X2_has : GoodIn wsX11_share wsX2_has := goodIn_r _ [17, 18, 87, 88, 89, 90, 91, 92] (by decide +kernel) (by decide +kernel)
set_option maxRecDepth 20000 in
theorem gX11_share_X2_has : GoodIn wsX11_share (wsV RX11 137 RX2 yX2_has wsX2_has) := goodIn_app (goodIn_of _ (by decide +kernel)) ggX11_share_X2_has
set_option maxRecDepth 20000 in
theorem ggX12_keeperOf_X12_in : GoodIn wsX12_keeperOf wsX12_in := goodIn_r _ [11] (by decide +kernel) (by decide +kernel)
set_option maxRecDepth 20000 in
theorem gX12_keeperOf_X12_in : GoodIn wsX12_keeperOf (va_wsS RX12 136 yX12_in wsX12_in) := goodIn_app (goodIn_of _ (by decide +kernel)) ggX12_keeperOf_X12_in
set_option maxRecDepth 20000 in
theorem ggX11_put_X7_lowest : GoodIn wsX11_put wsX7_lowest := goodIn_r _ [26] (by decide +kernel) (by decide +kernel)
set_option maxRecDepth 20000 in
theorem gX11_put_X7_lowest : GoodIn wsX11_put (va_wsS RX11 374 yX7_lowest wsX7_lowest) := goodIn_app (goodIn_of _ (by decide +kernel)) ggX11_put_X7_lowest
set_option maxRecDepth 20000 in
theorem ggX12_trees_X12_in : GoodIn wsX12_trees wsX12_in := goodIn_r _ [9] (by decide +kernel) (by decide +kernel)
set_option maxRecDepth 20000 in
theorem gX12_trees_X12_in : GoodIn wsX12_trees (va_wsS RX12 136 yX12_in wsX12_in) := goodIn_app (goodIn_of _ (by decide +kernel)) ggX12_trees_X12_in
set_option maxRecDepth 20000 in
theorem ggX8_seatAll_X11_strewn : GoodIn wsX8_seatAll wsX11_strewn := goodIn_r _ [13, 14] (by decide +kernel) (by decide +kernel)
set_option maxRecDepth 20000 in
theorem gX8_seatAll_X11_strewn_n87 : GoodIn wsX8_seatAll (wsX11_strewn) := ggX8_seatAll_X11_strewn
