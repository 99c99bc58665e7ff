set_option maxRecDepth 20000 in
theorem ggX5_leastFrom_X5_seatSet : GoodIn wsX5_leastFrom wsX5_seatSet := goodIn_r _ [7, 1, 8, 9, 10, 11, 12, 13, 14, 15, 16, 17, 18, 19, 20, 21, 22, 23, 24, 25, 26, 27, 28, 29, 30, 31, 32, 33, 34, 35, 36, 37, 38, 39, 40, 41, 42, 43, 44, 45, 46, 47, 48, 49, 50, 51, 52, 53, 54, 55, 56, 57, 58, 59, 60, 61, 62, 63, 64, 65, 66, 67, 68, 69, 70, 71, 72, 73, 74, 75, 76, 77, 78, 79, 80, 81, 82, 83, 84, 85, 86, 87, 88, 89, 90, 91, 92, 93, 94, 95, 96, 97, 98, 99, 100, 101, 102, 103, 104, 105, 106, 107, 108, 109, 110, 111, 112, 113, 114, 115, 116, 117, 118, 119, 120, 121, 122, 123, 124, 125, 126, 127, 128, 129, 130, 131, 132, 133, 134, 135, 136, 137, 138, 139, 140, 141, 142, 143, 144, 145, 146, 147, 148, 149, 150, 151, 152, 153, 154, 155, 156, 157, 158, 159, 160, 161, 162, 163, 164, 165, 166, 167, 168, 169, 170, 171, 172, 173, 174, 175, 176, 177, 178, 179, 180, 181, 182, 183, 184, 185, 186, 187, 188, 189, 190, 191, 192, 193, 194, 195, 196, 197, 198, 199, 200, 201, 202, 203, 204, 205, 206, 207, 208, 209, 210, 211, 212, 213, 214, 215, 216, 217, 218, 219, 220, 221, 222, 223, 243, 244, 245, 246, 247, 248, 249, 250, 251, 252, 253, 254, 255, 256, 257, 258, 259, 260, 261, 262, 263, 264, 265, 266, 267, 268, 269, 270, 271, 272, 273, 274, 275, 276, 277, 278, 279, 280, 281, 282, 283, 284, 285, 286, 287, 288, 289, 290, 291, 292] (by decide +kernel) (by decide +kernel)
set_option maxRecDepth 20000 in
theorem gX5_leastFrom_X5_seatSet : GoodIn wsX5_leastFrom (wsV RX5 49 RX5 yX5_seatSet wsX5_seatSet) := goodIn_app (goodIn_of _ (by decide +kernel)) ggX5_leastFrom_X5_seatSet
set_option maxRecDepth 20000 in
theorem ggX5_seatSet_X1_choose : GoodIn wsX5_seatSet wsX1_choose := goodIn_r _ [159, 160, 161, 162, 163, 164, 165, 166, 34, 35, 36, 167, 168, 169, 170, 171, 172, 158, 173, 174, 175, 176, 177, 178, 179, 180, 181, 182, 183, 184, 16, 185, 127, 123, 19, 132, 133, 134, 135, 186, 187, 188, 189, 190, 191, 192, 193, 194, 195, 196, 197, 198, 199, 200, 201, 202, 203, 204, 140, 141, 205, 206, 207, 208, 209, 210, 211, 212, 213, 214, 215, 216, 217, 245, 246, 247, 248, 249, 250, 251, 252, 253, 228, 229, 230, 231, 232, 233, 234, 235, 236, 237, 238, 239, 240, 254, 255, 256, 257, 258, 259] (by decide +kernel) (by decide +kernel)
set_option maxRecDepth 20000 in
theorem gX5_seatSet_X1_choose : GoodIn wsX5_seatSet (wsV RX5 99 RX1 yX1_choose wsX1_choose) := goodIn_app (goodIn_of _ (by decide +kernel)) ggX5_seatSet_X1_choose
set_option maxRecDepth 20000 in
theorem ggX12_table_X12_reads : GoodIn wsX12_table wsX12_reads := goodIn_r _ [34, 35, 36, 37, 38, 39, 40, 41, 8, 42, 43, 44, 15, 45, 10, 46, 47, 48, 49, 50, 51, 52, 53, 54, 55, 56, 57, 58, 59, 60, 23, 24, 25, 26, 61, 62, 63, 64, 65, 66, 67, 79, 80, 81, 82, 83, 84, 85, 86, 87, 88, 89, 90, 91, 92, 93, 94, 95, 96, 97, 98, 99, 100, 101, 102, 103, 104, 105, 106, 107, 108, 109, 110, 111, 112, 113, 114, 115, 116, 117, 118, 119, 120, 121, 122, 123, 124, 125, 126, 127, 128, 129, 130, 131, 132, 133, 134, 135, 136, 137] (by decide +kernel) (by decide +kernel)
set_option maxRecDepth 20000 in
theorem gX12_table_X12_reads : GoodIn wsX12_table (wsV RX12 234 RX12 yX12_reads wsX12_reads) := goodIn_app (goodIn_of _ (by decide +kernel)) ggX12_table_X12_reads
set_option maxRecDepth 20000 in
theorem ggX12_tellsFrom_X12_tellsFrom : GoodIn wsX12_tellsFrom wsX12_tellsFrom := goodIn_r _ [0, 1, 2, 3, 4, 5, 6, 7, 8, 9, 10, 11, 12, 13, 14, 15, 16, 17, 18, 19, 20, 21, 22, 23, 24, 25, 26, 27, 28, 29, 30, 31, 32, 33, 34, 35, 36, 37, 38, 39, 40, 41, 42, 43, 44, 45, 46, 47, 48, 49, 50, 51, 52, 53, 54, 55, 56, 57, 58, 59, 60, 61, 62, 63, 64, 65, 66, 67, 68, 69, 70, 71, 72, 73, 74, 75, 76, 77, 78, 79, 80, 81, 82, 83, 84, 85, 86] (by decide +kernel) (by decide +kernel)
set_option maxRecDepth 20000 in
theorem gX12_tellsFrom_X12_tellsFrom : GoodIn wsX12_tellsFrom (wsV RX12 352 RX12 yX12_tellsFrom wsX12_tellsFrom) := goodIn_app (goodIn_of _ (by decide +kernel)) ggX12_tellsFrom_X12_tellsFrom
set_option maxRecDepth 20000 in
theorem ggX12_act_X12_tellsFrom : GoodIn wsX12_act wsX12_tellsFrom := goodIn_r _ [36, 2, 17, 18, 19, 6, 20, 1, 21, 25, 26, 27, 28, 12, 13, 14, 15, 16, 22, 23, 24, 29, 30, 31, 32, 33, 34, 35, 37, 38, 39, 40, 41, 42, 43, 44, 45, 46, 47, 48, 49, 50, 51, 52, 53, 54, 55, 56, 57, 58, 59, 60, 61, 62, 63, 64, 65, 66, 67, 68, 69, 70, 71, 72, 73, 74, 75, 76, 77, 78, 79, 80, 81, 82, 83, 84, 85, 86, 87, 88, 89, 90, 91, 92, 93, 94, 95] (by decide +kernel) (by decide +kernel)
set_option maxRecDepth 20000 in
theorem gX12_act_X12_tellsFrom : GoodIn wsX12_act (wsV RX12 352 RX12 yX12_tellsFrom wsX12_tellsFrom) := goodIn_app (goodIn_of _ (by decide +kernel)) ggX12_act_X12_tellsFrom
set_option maxRecDepth 20000 in
theorem ggX12_act_X12_keepsFrom : GoodIn wsX12_act wsX12_keepsFrom := goodIn_r _ [28, 2, 17, 18, 19, 6, 20, 1, 21, 12, 13, 14, 15, 16, 22, 23, 24, 25, 26, 27, 29, 30, 31, 32, 37, 38, 39, 40, 41, 42, 43, 44, 45, 46, 47, 48, 49, 50, 51, 52, 53, 54, 55, 56, 57, 58, 59, 60, 61, 62, 63, 64, 65, 66, 67, 68, 69, 70, 71, 72, 73, 74, 75, 76, 77, 78, 79, 80, 81, 82, 83, 84, 85, 86, 87, 88, 89, 90, 91, 92, 93, 94, 95] (by decide +kernel) (by decide +kernel)
set_option maxRecDepth 20000 in
theorem gX12_act_X12_keepsFrom : GoodIn wsX12_act (wsV RX12 346 RX12 yX12_keepsFrom wsX12_keepsFrom) := goodIn_app (goodIn_of _ (by decide +kernel)) ggX12_act_X12_keepsFrom
set_option maxRecDepth 20000 in
theorem ggX12_movesFrom_X12_findsFrom : GoodIn wsX12_movesFrom wsX12_findsFrom := goodIn_r _ [15, 16, 2, 3, 4, 5, 6, 7, 8, 12, 13, 14, 17, 18, 19, 20, 21, 22, 23, 24, 25, 26, 27, 28, 29, 30, 31, 32, 33, 34, 35, 36, 37, 38, 39, 40, 41, 42, 43, 44, 45, 46, 47, 48, 49, 50, 51, 52, 53, 54, 55, 56, 57, 58, 59, 60, 61, 62, 63, 64, 65, 66, 67, 68, 69, 70, 71, 72, 73, 74, 75, 76, 77, 78] (by decide +kernel) (by decide +kernel)
set_option maxRecDepth 20000 in
theorem gX12_movesFrom_X12_findsFrom : GoodIn wsX12_movesFrom (wsV RX12 340 RX12 yX12_findsFrom wsX12_findsFrom) := goodIn_app (goodIn_of _ (by decide +kernel)) ggX12_movesFrom_X12_findsFrom
set_option maxRecDepth 20000 in
theorem ggX12_trees_X12_wordsBelow : GoodIn wsX12_trees wsX12_wordsBelow := goodIn_r _ [13, 14, 15, 16, 4, 17, 18, 19, 20, 21, 22, 23, 10, 11, 12, 24, 25, 26, 27, 28, 29, 30, 31, 32, 33, 34, 35, 36, 37, 38, 39, 40, 41, 42, 43, 44, 45, 46, 47, 48, 49, 50, 51, 52, 53, 54, 55, 56, 57, 58, 59, 60, 61, 62, 63, 64, 65, 66, 67, 68, 69, 70, 71, 72, 73, 74, 75, 76, 77, 78, 79, 80, 81, 82] (by decide +kernel) (by decide +kernel)
set_option maxRecDepth 20000 in
theorem gX12_trees_X12_wordsBelow : GoodIn wsX12_trees (wsV RX12 307 RX12 yX12_wordsBelow wsX12_wordsBelow) := goodIn_app (goodIn_of _ (by decide +kernel)) ggX12_trees_X12_wordsBelow
set_option maxRecDepth 20000 in
theorem ggX12_order_X12_setBy : GoodIn wsX12_order wsX12_setBy := goodIn_r _ [20, 21, 1, 22, 150, 151, 152, 153, 154, 155, 156, 157, 158, 159, 160, 161, 162, 163, 164, 165, 166, 167, 168, 169, 170, 171, 172, 173, 174, 175, 176, 177, 178, 179, 180, 181, 182, 183, 184, 185, 186, 187, 188, 189, 190, 191, 192, 193, 194, 195, 196, 197, 198, 199, 200, 201, 202, 203, 204, 205, 206, 207, 208] (by decide +kernel) (by decide +kernel)
set_option maxRecDepth 20000 in
theorem gX12_order_X12_setBy : GoodIn wsX12_order (wsV RX12 316 RX12 yX12_setBy wsX12_setBy) := goodIn_app (goodIn_of _ (by decide +kernel)) ggX12_order_X12_setBy
set_option maxRecDepth 20000 in
theorem ggX12_read_X12_isName : GoodIn wsX12_read wsX12_isName := goodIn_r _ [17, 18, 11, 12, 8, 13, 79, 80, 81, 82, 83, 84, 85, 86, 87, 88, 89, 90, 91, 92, 93, 94, 95, 96, 97, 98, 99, 100, 101, 102, 103, 104, 105, 106, 107, 108, 109, 110, 111, 112, 113, 114, 115, 116, 117, 118, 119, 120, 121, 122, 123, 124, 125, 126, 127, 128, 129, 130, 131, 132, 133, 134, 135, 136, 137] (by decide +kernel) (by decide +kernel)
set_option maxRecDepth 20000 in
theorem gX12_read_X12_isName : GoodIn wsX12_read (wsV RX12 158 RX12 yX12_isName wsX12_isName) := goodIn_app (goodIn_of _ (by decide +kernel)) ggX12_read_X12_isName
set_option maxRecDepth 20000 in
theorem ggX12_shareOf_X12_numberOf : GoodIn wsX12_shareOf wsX12_numberOf := goodIn_r _ [8, 9, 10, 11, 39, 40, 41, 42, 43, 44, 45, 46, 47, 48, 49, 50, 51, 52, 53, 54, 55, 56, 57, 58, 59, 60, 61, 62, 63, 64, 65, 66, 67, 68, 69, 70, 71, 72, 73, 74, 75, 76, 77, 78, 79, 80, 81, 82, 83, 84, 85, 86, 87, 88, 89, 90, 91, 92, 93, 94, 95, 96, 97] (by decide +kernel) (by decide +kernel)
set_option maxRecDepth 20000 in
theorem gX12_shareOf_X12_numberOf : GoodIn wsX12_shareOf (wsV RX12 162 RX12 yX12_numberOf wsX12_numberOf) := goodIn_app (goodIn_of _ (by decide +kernel)) ggX12_shareOf_X12_numberOf
set_option maxRecDepth 20000 in
theorem ggX12_moves_X12_isIn : GoodIn wsX12_moves wsX12_isIn := goodIn_r _ [16, 17, 75, 76, 77, 78, 79, 80, 81, 82, 83, 84, 85, 86, 87, 88, 89, 90, 91, 92, 93, 94, 95, 96, 97, 98, 99, 100, 101, 102, 103, 104, 105, 106, 107, 108, 109, 110, 111, 112, 113, 114, 115, 116, 117, 118, 119, 120, 121, 122, 123, 124, 125, 126, 127, 128, 129, 130, 131, 132, 133] (by decide +kernel) (by decide +kernel)
set_option maxRecDepth 20000 in
theorem gX12_moves_X12_isIn : GoodIn wsX12_moves (wsV RX12 223 RX12 yX12_isIn wsX12_isIn) := goodIn_app (goodIn_of _ (by decide +kernel)) ggX12_moves_X12_isIn
set_option maxRecDepth 20000 in
theorem ggX12_areUnlike_X12_leafOf : GoodIn wsX12_areUnlike wsX12_leafOf := goodIn_r _ [5, 6, 7, 8, 9, 10, 11, 12, 13, 14, 15, 16, 17, 18, 19, 20, 21, 22, 23, 24, 25, 26, 27, 28, 29, 30, 31, 32, 33, 34, 35, 36, 37, 38, 39, 40, 41, 42, 43, 44, 45, 46, 47, 48, 49, 50, 51, 52, 53, 54, 55, 56, 57, 58, 59, 60, 61, 62, 63, 64, 65, 66] (by decide +kernel) (by decide +kernel)
set_option maxRecDepth 20000 in
theorem gX12_areUnlike_X12_leafOf : GoodIn wsX12_areUnlike (wsV RX12 300 RX12 yX12_leafOf wsX12_leafOf) := goodIn_app (goodIn_of _ (by decide +kernel)) ggX12_areUnlike_X12_leafOf
set_option maxRecDepth 20000 in
theorem ggX12_ofKeeper_X12_many : GoodIn wsX12_ofKeeper wsX12_many := goodIn_r _ [23, 24, 25, 26, 27, 28, 29, 30, 31, 32, 33, 34, 35, 36, 37, 38, 39, 40, 41, 42, 43, 44, 45, 46, 47, 48, 49, 50, 51, 52, 53, 54, 55, 56, 57, 58, 59, 60, 61, 62, 63, 64, 65, 66, 67, 68, 69, 70, 71, 72, 73, 74, 75, 76, 77, 78, 79, 80, 81, 82, 83, 84] (by decide +kernel) (by decide +kernel)
set_option maxRecDepth 20000 in
theorem gX12_ofKeeper_X12_many : GoodIn wsX12_ofKeeper (wsV RX12 173 RX12 yX12_many wsX12_many) := goodIn_app (goodIn_of _ (by decide +kernel)) ggX12_ofKeeper_X12_many
set_option maxRecDepth 20000 in
theorem ggX12_count_X12_many : GoodIn wsX12_count wsX12_many := goodIn_r _ [11, 12, 13, 14, 15, 16, 17, 18, 19, 20, 21, 22, 23, 24, 25, 26, 27, 28, 29, 30, 31, 32, 33, 34, 35, 36, 37, 38, 39, 40, 41, 42, 43, 44, 45, 46, 47, 48, 49, 50, 51, 52, 53, 54, 55, 56, 57, 58, 59, 60, 61, 62, 63, 64, 65, 66, 67, 68, 69, 70, 71, 72] (by decide +kernel) (by decide +kernel)
set_option maxRecDepth 20000 in
theorem gX12_count_X12_many : GoodIn wsX12_count (wsV RX12 173 RX12 yX12_many wsX12_many) := goodIn_app (goodIn_of _ (by decide +kernel)) ggX12_count_X12_many
set_option maxRecDepth 20000 in
theorem ggX3_readProduct_X3_readOperand : GoodIn wsX3_readProduct wsX3_readOperand := goodIn_r _ [17, 18, 19, 20, 21, 2, 1, 7, 8, 9, 6, 10, 11, 12, 22, 23, 24, 25, 26, 27, 28, 29, 30, 31, 13, 14, 15, 16, 0, 3, 4, 5, 32, 33, 34, 35, 36, 37, 38, 39, 40, 41, 42, 43] (by decide +kernel) (by decide +kernel)
set_option maxRecDepth 20000 in
theorem gX3_readProduct_X3_readOperand : GoodIn wsX3_readProduct (wsV RX3 103 RX3 yX3_readOperand wsX3_readOperand) := goodIn_app (goodIn_of _ (by decide +kernel)) ggX3_readProduct_X3_readOperand
set_option maxRecDepth 20000 in
theorem ggX8_unevenness_X8_countOdds : GoodIn wsX8_unevenness wsX8_countOdds := goodIn_r _ [14, 15, 2, 16, 17, 18, 19, 20, 21, 22, 13, 23, 24, 25, 26, 1, 27, 28, 29, 30, 31, 32, 33, 34, 35, 36, 37, 38, 39, 40, 41, 42, 43, 44, 45, 46, 47, 48, 49, 50] (by decide +kernel) (by decide +kernel)
set_option maxRecDepth 20000 in
theorem gX8_unevenness_X8_countOdds : GoodIn wsX8_unevenness (wsV RX8 108 RX8 yX8_countOdds wsX8_countOdds) := goodIn_app (goodIn_of _ (by decide +kernel)) ggX8_unevenness_X8_countOdds
set_option maxRecDepth 20000 in
theorem ggX10_leastHarm_X8_takeAll : GoodIn wsX10_leastHarm wsX8_takeAll := goodIn_r _ [8, 9, 10, 11, 12, 13, 14, 15, 16, 17, 18, 19, 20, 21, 22, 7, 23, 24, 25, 26, 27, 28, 29, 30, 93, 94, 95, 96, 97, 98, 99, 100, 101, 102, 103, 104, 105] (by decide +kernel) (by decide +kernel)
set_option maxRecDepth 20000 in
theorem gX10_leastHarm_X8_takeAll : GoodIn wsX10_leastHarm (wsV RX10 29 RX8 yX8_takeAll wsX8_takeAll) := goodIn_app (goodIn_of _ (by decide +kernel)) ggX10_leastHarm_X8_takeAll
set_option maxRecDepth 20000 in
theorem ggX8_countOdds_X8_firstFor : GoodIn wsX8_countOdds wsX8_firstFor := goodIn_r _ [11, 12, 13, 14, 15, 16, 17, 18, 10, 19, 20, 21, 22, 23, 24, 25, 26, 27, 28, 29, 30, 31, 32, 33, 34, 35, 36, 37, 38, 39] (by decide +kernel) (by decide +kernel)
set_option maxRecDepth 20000 in
theorem gX8_countOdds_X8_firstFor : GoodIn wsX8_countOdds (wsV RX8 105 RX8 yX8_firstFor wsX8_firstFor) := goodIn_app (goodIn_of _ (by decide +kernel)) ggX8_countOdds_X8_firstFor
set_option maxRecDepth 20000 in
theorem ggX3_readOperand_X3_readNumber : GoodIn wsX3_readOperand wsX3_readNumber := goodIn_r _ [20, 5, 7, 8, 9, 10, 11, 12, 13, 14, 15, 16, 36, 37, 38, 39, 40, 41, 42, 43] (by decide +kernel) (by decide +kernel)
set_option maxRecDepth 20000 in
theorem gX3_readOperand_X3_readNumber : GoodIn wsX3_readOperand (wsV RX3 110 RX3 yX3_readNumber wsX3_readNumber) := goodIn_app (goodIn_of _ (by decide +kernel)) ggX3_readOperand_X3_readNumber
set_option maxRecDepth 20000 in
theorem ggX1_choose_X1_takeChosen : GoodIn wsX1_choose wsX1_takeChosen := goodIn_r _ [67, 68, 1, 2, 3, 11, 12, 73, 74, 75, 76, 77, 78, 79, 80, 81, 95, 96, 97, 98, 99, 100] (by decide +kernel) (by decide +kernel)
set_option maxRecDepth 20000 in
theorem gX1_choose_X1_takeChosen : GoodIn wsX1_choose (wsV RX1 108 RX1 yX1_takeChosen wsX1_takeChosen) := goodIn_app (goodIn_of _ (by decide +kernel)) ggX1_choose_X1_takeChosen
set_option maxRecDepth 20000 in
theorem ggX0_keepsFrom_X0_findsFrom : GoodIn wsX0_keepsFrom wsX0_findsFrom := goodIn_r _ [20, 21, 16, 2, 3, 4, 5, 6, 7, 8, 17, 18, 19, 22, 23, 24, 25, 26] (by decide +kernel) (by decide +kernel)
set_option maxRecDepth 20000 in
theorem gX0_keepsFrom_X0_findsFrom : GoodIn wsX0_keepsFrom (wsV RX0 28 RX0 yX0_findsFrom wsX0_findsFrom) := goodIn_app (goodIn_of _ (by decide +kernel)) ggX0_keepsFrom_X0_findsFrom
set_option maxRecDepth 20000 in
theorem ggX11_write_X11_tableAt : GoodIn wsX11_write wsX11_tableAt := goodIn_r _ [21, 22, 23, 161, 162, 163, 164, 165, 166, 167, 168, 169, 170, 171, 172, 173] (by decide +kernel) (by decide +kernel)
set_option maxRecDepth 20000 in
theorem gX11_write_X11_tableAt : GoodIn wsX11_write (wsV RX11 192 RX11 yX11_tableAt wsX11_tableAt) := goodIn_app (goodIn_of _ (by decide +kernel)) ggX11_write_X11_tableAt
set_option maxRecDepth 20000 in
theorem ggX6_hasRoom_X6_copiesOn : GoodIn wsX6_hasRoom wsX6_copiesOn := goodIn_r _ [8, 3, 9, 10, 7, 11, 12, 13, 14, 15, 16, 17, 18, 19, 20, 21, 22, 23] (by decide +kernel) (by decide +kernel)
set_option maxRecDepth 20000 in
theorem gX6_hasRoom_X6_copiesOn : GoodIn wsX6_hasRoom (wsV RX6 103 RX6 yX6_copiesOn wsX6_copiesOn) := goodIn_app (goodIn_of _ (by decide +kernel)) ggX6_hasRoom_X6_copiesOn
set_option maxRecDepth 20000 in
theorem ggX6_isKeptFor_X1_isChosen : GoodIn wsX6_isKeptFor wsX1_isChosen := goodIn_r _ [12, 13, 33, 34, 35, 36, 37, 38, 39, 40, 41] (by decide +kernel) (by decide +kernel)
set_option maxRecDepth 20000 in
theorem gX6_isKeptFor_X1_isChosen : GoodIn wsX6_isKeptFor (wsV RX6 113 RX1 yX1_isChosen wsX1_isChosen) := goodIn_app (goodIn_of _ (by decide +kernel)) ggX6_isKeptFor_X1_isChosen
set_option maxRecDepth 20000 in
theorem ggX11_fall_X6_empty : GoodIn wsX11_fall wsX6_empty := goodIn_r _ [14, 15, 16, 17, 18, 19, 20, 40, 41, 42, 43, 44, 45, 46, 47, 48, 49, 50, 51] (by decide +kernel) (by decide +kernel)
set_option maxRecDepth 20000 in
theorem gX11_fall_X6_empty : GoodIn wsX11_fall (wsV RX11 290 RX6 yX6_empty wsX6_empty) := goodIn_app (goodIn_of _ (by decide +kernel)) ggX11_fall_X6_empty
set_option maxRecDepth 20000 in
theorem ggX11_keeperOf_X4_placeOf : GoodIn wsX11_keeperOf wsX4_placeOf := goodIn_r _ [22, 23, 24, 25, 136, 137, 138, 139] (by decide +kernel) (by decide +kernel)
set_option maxRecDepth 20000 in
theorem gX11_keeperOf_X4_placeOf : GoodIn wsX11_keeperOf (wsV RX11 127 RX4 yX4_placeOf wsX4_placeOf) := goodIn_app (goodIn_of _ (by decide +kernel)) ggX11_keeperOf_X4_placeOf
set_option maxRecDepth 20000 in
theorem ggX11_tooFew_X4_placeOf : GoodIn wsX11_tooFew wsX4_placeOf := goodIn_r _ [18, 19, 20, 21, 117, 118, 119, 120] (by decide +kernel) (by decide +kernel)
set_option maxRecDepth 20000 in
theorem gX11_tooFew_X4_placeOf : GoodIn wsX11_tooFew (wsV RX11 127 RX4 yX4_placeOf wsX4_placeOf) := goodIn_app (goodIn_of _ (by decide +kernel)) ggX11_tooFew_X4_placeOf
set_option maxRecDepth 20000 in
theorem ggX6_isKeptFor_X2_isUp : GoodIn wsX6_isKeptFor wsX2_isUp := goodIn_r _ [18, 19, 20, 42, 43, 44, 45, 46, 47] (by decide +kernel) (by decide +kernel)
set_option maxRecDepth 20000 in
theorem gX6_isKeptFor_X2_isUp : GoodIn wsX6_isKeptFor (wsV RX6 117 RX2 yX2_isUp wsX2_isUp) := goodIn_app (goodIn_of _ (by decide +kernel)) ggX6_isKeptFor_X2_isUp
set_option maxRecDepth 20000 in
theorem ggX3_workOut_X3_sign : GoodIn wsX3_workOut wsX3_sign := goodIn_r _ [40, 5, 4, 2, 87, 88, 89, 90, 91, 92, 93, 94] (by decide +kernel) (by decide +kernel)
set_option maxRecDepth 20000 in
theorem gX3_workOut_X3_sign : GoodIn wsX3_workOut (wsV RX3 62 RX3 yX3_sign wsX3_sign) := goodIn_app (goodIn_of _ (by decide +kernel)) ggX3_workOut_X3_sign
set_option maxRecDepth 20000 in
theorem ggX4_addFrom_X4_add : GoodIn wsX4_addFrom wsX4_add := goodIn_r _ [17, 8, 10, 18, 19, 20, 21, 9, 22, 23, 24, 25] (by decide +kernel) (by decide +kernel)
set_option maxRecDepth 20000 in
theorem gX4_addFrom_X4_add : GoodIn wsX4_addFrom (wsV RX4 45 RX4 yX4_add wsX4_add) := goodIn_app (goodIn_of _ (by decide +kernel)) ggX4_addFrom_X4_add
set_option maxRecDepth 20000 in
theorem ggX11_read_X2_isUp : GoodIn wsX11_read wsX2_isUp := goodIn_r _ [27, 28, 29, 141, 142, 143, 144, 145, 146] (by decide +kernel) (by decide +kernel)
set_option maxRecDepth 20000 in
theorem gX11_read_X2_isUp : GoodIn wsX11_read (wsV RX11 267 RX2 yX2_isUp wsX2_isUp) := goodIn_app (goodIn_of _ (by decide +kernel)) ggX11_read_X2_isUp
set_option maxRecDepth 20000 in
theorem ggX6_grow_J7_fill_53178 : GoodIn wsX6_grow wsJ7_fill_53178 := goodIn_r _ [7] (by decide +kernel) (by decide +kernel)
set_option maxRecDepth 20000 in
theorem gX6_grow_J7_fill_53178 : GoodIn wsX6_grow (va_wsS RX6 124 yJ7_fill_53178 wsJ7_fill_53178) := goodIn_app (goodIn_of _ (by decide +kernel)) ggX6_grow_J7_fill_53178
set_option maxRecDepth 20000 in
theorem ggX12_strength_X12_in : GoodIn wsX12_strength wsX12_in := goodIn_r _ [10] (by decide +kernel) (by decide +kernel)
set_option maxRecDepth 20000 in
theorem gX12_strength_X12_in : GoodIn wsX12_strength (va_wsS RX12 136 yX12_in wsX12_in) := goodIn_app (goodIn_of _ (by decide +kernel)) ggX12_strength_X12_in
set_option maxRecDepth 20000 in
theorem ggX4_find_X4_isAlike : GoodIn wsX4_find wsX4_isAlike := goodIn_r _ [7] (by decide +kernel) (by decide +kernel)
set_option maxRecDepth 20000 in
theorem gX4_find_X4_isAlike : GoodIn wsX4_find (va_wsS RX4 28 yX4_isAlike wsX4_isAlike) := goodIn_app (goodIn_of _ (by decide +kernel)) ggX4_find_X4_isAlike
set_option maxRecDepth 20000 in
theorem ggX1_pickRound_X11_placeBehind : GoodIn wsX1_pickRound wsX11_placeBehind := goodIn_r _ [19] (by decide +kernel) (by decide +kernel)
set_option maxRecDepth 20000 in
theorem gX1_pickRound_X11_placeBehind_n78 : GoodIn wsX1_pickRound (wsX11_placeBehind) := ggX1_pickRound_X11_placeBehind
set_option maxRecDepth 20000 in
theorem ggX12_noon_X12_in : GoodIn wsX12_noon wsX12_in := goodIn_r _ [10] (by decide +kernel) (by decide +kernel)
set_option maxRecDepth 20000 in
theorem gX12_noon_X12_in : GoodIn wsX12_noon (va_wsS RX12 136 yX12_in wsX12_in) := goodIn_app (goodIn_of _ (by decide +kernel)) ggX12_noon_X12_in
