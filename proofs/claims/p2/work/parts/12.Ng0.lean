set_option maxRecDepth 20000 in
theorem ggX11_order_X5_leastFrom : GoodIn wsX11_order wsX5_leastFrom := goodIn_r _ [15, 16, 17, 18, 19, 20, 14, 21, 22, 23, 24, 25, 26, 27, 28, 29, 30, 31, 32, 33, 34, 35, 36, 37, 38, 39, 40, 41, 42, 43, 44, 45, 46, 47, 48, 49, 50, 51, 52, 53, 54, 55, 56, 57, 58, 59, 60, 61, 62, 63, 64, 65, 66, 67, 68, 69, 70, 71, 72, 73, 74, 75, 76, 77, 78, 79, 80, 81, 82, 83, 84, 85, 86, 87, 88, 89, 90, 91, 92, 93, 94, 95, 96, 97, 98, 99, 100, 101, 102, 103, 104, 105, 106, 107, 108, 109, 110, 111, 112, 113, 114, 115, 116, 117, 118, 119, 120, 121, 122, 123, 124, 125, 126, 127, 128, 129, 130, 131, 132, 133, 134, 135, 136, 137, 138, 139, 140, 141, 142, 143, 144, 145, 146, 147, 148, 149, 150, 151, 152, 7, 153, 154, 155, 156, 157, 158, 159, 160, 161, 162, 163, 164, 165, 166, 167, 168, 169, 170, 171, 172, 173, 174, 175, 176, 177, 178, 179, 180, 181, 182, 183, 184, 185, 186, 187, 188, 189, 190, 191, 192, 193, 194, 195, 196, 197, 198, 199, 200, 201, 202, 203, 204, 205, 206, 207, 208, 209, 210, 211, 212, 213, 214, 215, 216, 217, 218, 219, 220, 221, 222, 223, 224, 225, 226, 227, 228, 229, 230, 231, 232, 233, 234, 235, 236, 237, 238, 239, 240, 241, 242, 243, 244, 245, 246, 247, 248, 249, 250, 251, 252, 253, 254, 255, 269, 270, 271, 272, 273, 274, 275, 276, 277, 278, 279, 280, 281, 282, 283, 284, 285, 286, 287, 288, 289, 290, 291, 292, 293, 294, 295, 296, 297, 298, 299, 300, 301, 302, 303, 304, 305, 306, 307, 308, 309, 310, 311, 312, 313, 314, 315, 316, 317, 318] (by decide +kernel) (by decide +kernel)
set_option maxRecDepth 20000 in
theorem gX11_order_X5_leastFrom : GoodIn wsX11_order (wsV RX11 326 RX5 yX5_leastFrom wsX5_leastFrom) := goodIn_app (goodIn_of _ (by decide +kernel)) ggX11_order_X5_leastFrom
set_option maxRecDepth 20000 in
theorem ggX11_harm_X10_leastHarm : GoodIn wsX11_harm wsX10_leastHarm := goodIn_r _ [15, 16, 17, 18, 19, 20, 21, 22, 23, 24, 25, 26, 27, 28, 29, 30, 31, 32, 33, 34, 35, 36, 37, 38, 39, 40, 41, 42, 43, 44, 45, 46, 47, 48, 49, 50, 51, 52, 53, 54, 55, 56, 57, 58, 59, 7, 60, 61, 62, 63, 64, 65, 66, 67, 68, 69, 70, 71, 72, 73, 74, 75, 14, 76, 77, 78, 79, 80, 81, 82, 83, 84, 85, 86, 87, 88, 89, 90, 91, 92, 93, 94, 95, 96, 97, 98, 99, 100, 114, 115, 116, 117, 118, 119, 120, 121, 122, 123, 124, 125, 126, 127, 128, 129, 130, 131, 132, 133, 134, 135] (by decide +kernel) (by decide +kernel)
set_option maxRecDepth 20000 in
theorem gX11_harm_X10_leastHarm : GoodIn wsX11_harm (wsV RX11 338 RX10 yX10_leastHarm wsX10_leastHarm) := goodIn_app (goodIn_of _ (by decide +kernel)) ggX11_harm_X10_leastHarm
set_option maxRecDepth 20000 in
theorem ggX11_tooFew_X1_choose : GoodIn wsX11_tooFew wsX1_choose := goodIn_r _ [26, 27, 28, 29, 30, 31, 32, 33, 34, 35, 36, 37, 38, 39, 40, 41, 42, 25, 43, 44, 45, 46, 47, 48, 49, 50, 51, 52, 53, 54, 55, 56, 57, 58, 59, 60, 10, 61, 62, 63, 64, 65, 66, 67, 68, 69, 70, 71, 72, 73, 74, 75, 76, 77, 78, 79, 80, 81, 82, 83, 84, 85, 86, 87, 88, 89, 90, 91, 92, 93, 94, 95, 96, 134, 135, 136, 137, 138, 139, 140, 141, 142, 121, 122, 123, 124, 125, 126, 127, 128, 129, 130, 131, 132, 133, 143, 144, 145, 146, 147, 148] (by decide +kernel) (by decide +kernel)
set_option maxRecDepth 20000 in
theorem gX11_tooFew_X1_choose : GoodIn wsX11_tooFew (wsV RX11 234 RX1 yX1_choose wsX1_choose) := goodIn_app (goodIn_of _ (by decide +kernel)) ggX11_tooFew_X1_choose
set_option maxRecDepth 20000 in
theorem ggX12_even_X12_findOdds : GoodIn wsX12_even wsX12_findOdds := goodIn_r _ [7, 2, 8, 9, 10, 11, 6, 12, 13, 14, 15, 16, 17, 18, 19, 1, 20, 21, 22, 23, 24, 25, 26, 27, 28, 29, 30, 31, 32, 33, 34, 35, 36, 37, 38, 39, 40, 41, 42, 43, 44, 45, 46, 47, 48, 49, 50, 51, 52, 53, 54, 55, 56, 57, 58, 59, 60, 61, 62, 63, 64, 65, 66, 67, 68, 69, 70, 71, 72, 73, 74, 75, 76, 77, 78, 79, 80, 81, 82, 83, 84, 85, 86, 87, 88, 89, 90, 91, 92, 93, 94] (by decide +kernel) (by decide +kernel)
set_option maxRecDepth 20000 in
theorem gX12_even_X12_findOdds : GoodIn wsX12_even (wsV RX12 275 RX12 yX12_findOdds wsX12_findOdds) := goodIn_app (goodIn_of _ (by decide +kernel)) ggX12_even_X12_findOdds
set_option maxRecDepth 20000 in
theorem ggX12_reads_X12_sum : GoodIn wsX12_reads wsX12_sum := goodIn_r _ [25, 4, 2, 26, 27, 28, 12, 9, 10, 11, 13, 8, 1, 14, 29, 3, 30, 31, 32, 33, 19, 20, 21, 22, 23, 24, 15, 16, 17, 18, 34, 35, 36, 37, 41, 42, 43, 44, 45, 46, 47, 48, 49, 50, 51, 52, 53, 54, 55, 56, 57, 58, 59, 60, 61, 62, 63, 64, 65, 66, 67, 68, 69, 70, 71, 72, 73, 74, 75, 76, 77, 78, 79, 80, 81, 82, 83, 84, 85, 86, 87, 88, 89, 90, 91, 92, 93, 94, 95, 96, 97, 98, 99] (by decide +kernel) (by decide +kernel)
set_option maxRecDepth 20000 in
theorem gX12_reads_X12_sum : GoodIn wsX12_reads (wsV RX12 200 RX12 yX12_sum wsX12_sum) := goodIn_app (goodIn_of _ (by decide +kernel)) ggX12_reads_X12_sum
set_option maxRecDepth 20000 in
theorem ggX12_wordsBelow_X12_wordsBelow : GoodIn wsX12_wordsBelow wsX12_wordsBelow := goodIn_r _ [0, 1, 2, 3, 4, 5, 6, 7, 8, 9, 10, 11, 12, 13, 14, 15, 16, 17, 18, 19, 20, 21, 22, 23, 24, 25, 26, 27, 28, 29, 30, 31, 32, 33, 34, 35, 36, 37, 38, 39, 40, 41, 42, 43, 44, 45, 46, 47, 48, 49, 50, 51, 52, 53, 54, 55, 56, 57, 58, 59, 60, 61, 62, 63, 64, 65, 66, 67, 68, 69, 70, 71, 72, 73] (by decide +kernel) (by decide +kernel)
set_option maxRecDepth 20000 in
theorem gX12_wordsBelow_X12_wordsBelow : GoodIn wsX12_wordsBelow (wsV RX12 307 RX12 yX12_wordsBelow wsX12_wordsBelow) := goodIn_app (goodIn_of _ (by decide +kernel)) ggX12_wordsBelow_X12_wordsBelow
set_option maxRecDepth 20000 in
theorem ggX12_table_X12_sits : GoodIn wsX12_table wsX12_sits := goodIn_r _ [71, 72, 73, 1, 5, 4, 27, 28, 29, 15, 30, 3, 74, 75, 76, 77, 78, 79, 80, 81, 82, 83, 84, 85, 86, 87, 88, 89, 90, 91, 92, 93, 94, 95, 96, 97, 98, 99, 100, 101, 102, 103, 104, 105, 106, 107, 108, 109, 110, 111, 112, 113, 114, 115, 116, 117, 118, 119, 120, 121, 122, 123, 124, 125, 126, 127, 128, 129, 130, 131, 132, 133, 134, 135, 136, 137] (by decide +kernel) (by decide +kernel)
set_option maxRecDepth 20000 in
theorem gX12_table_X12_sits : GoodIn wsX12_table (wsV RX12 237 RX12 yX12_sits wsX12_sits) := goodIn_app (goodIn_of _ (by decide +kernel)) ggX12_table_X12_sits
set_option maxRecDepth 20000 in
theorem ggX12_write_X12_isName : GoodIn wsX12_write wsX12_isName := goodIn_r _ [21, 22, 15, 16, 12, 17, 99, 100, 101, 102, 103, 104, 105, 106, 107, 108, 109, 110, 111, 112, 113, 114, 115, 116, 117, 118, 119, 120, 121, 122, 123, 124, 125, 126, 127, 128, 129, 130, 131, 132, 133, 134, 135, 136, 137, 138, 139, 140, 141, 142, 143, 144, 145, 146, 147, 148, 149, 150, 151, 152, 153, 154, 155, 156, 157] (by decide +kernel) (by decide +kernel)
set_option maxRecDepth 20000 in
theorem gX12_write_X12_isName : GoodIn wsX12_write (wsV RX12 158 RX12 yX12_isName wsX12_isName) := goodIn_app (goodIn_of _ (by decide +kernel)) ggX12_write_X12_isName
set_option maxRecDepth 20000 in
theorem ggX12_tooFew_X12_streetsOf : GoodIn wsX12_tooFew wsX12_streetsOf := goodIn_r _ [62, 28, 63, 32, 68, 69, 70, 71, 72, 73, 74, 75, 76, 77, 78, 79, 80, 81, 82, 83, 84, 85, 86, 87, 88, 89, 90, 91, 92, 93, 94, 95, 96, 97, 98, 99, 100, 101, 102, 103, 104, 105, 106, 107, 108, 109, 110, 111, 112, 113, 114, 115, 116, 117, 118, 119, 120, 121, 122, 123, 124, 125, 126] (by decide +kernel) (by decide +kernel)
set_option maxRecDepth 20000 in
theorem gX12_tooFew_X12_streetsOf : GoodIn wsX12_tooFew (wsV RX12 257 RX12 yX12_streetsOf wsX12_streetsOf) := goodIn_app (goodIn_of _ (by decide +kernel)) ggX12_tooFew_X12_streetsOf
set_option maxRecDepth 20000 in
theorem ggX12_mend_X12_isAwake : GoodIn wsX12_mend wsX12_isAwake := goodIn_r _ [73, 74, 3, 84, 85, 86, 87, 88, 89, 90, 91, 92, 93, 94, 95, 96, 97, 98, 99, 100, 101, 102, 103, 104, 105, 106, 107, 108, 109, 110, 111, 112, 113, 114, 115, 116, 117, 118, 119, 120, 121, 122, 123, 124, 125, 126, 127, 128, 129, 130, 131, 132, 133, 134, 135, 136, 137, 138, 139, 140, 141, 142] (by decide +kernel) (by decide +kernel)
set_option maxRecDepth 20000 in
theorem gX12_mend_X12_isAwake : GoodIn wsX12_mend (wsV RX12 287 RX12 yX12_isAwake wsX12_isAwake) := goodIn_app (goodIn_of _ (by decide +kernel)) ggX12_mend_X12_isAwake
set_option maxRecDepth 20000 in
theorem ggX12_names_X12_comesName : GoodIn wsX12_names wsX12_comesName := goodIn_r _ [23, 18, 6, 19, 5, 24, 25, 26, 27, 28, 29, 30, 31, 32, 33, 34, 35, 36, 37, 38, 39, 40, 41, 42, 43, 44, 45, 46, 47, 48, 49, 50, 51, 52, 53, 54, 55, 56, 57, 58, 59, 60, 61, 62, 63, 64, 65, 66, 67, 68, 69, 70, 71, 72, 73, 74, 75, 76, 77, 78, 79, 80, 81, 82] (by decide +kernel) (by decide +kernel)
set_option maxRecDepth 20000 in
theorem gX12_names_X12_comesName : GoodIn wsX12_names (wsV RX12 153 RX12 yX12_comesName wsX12_comesName) := goodIn_app (goodIn_of _ (by decide +kernel)) ggX12_names_X12_comesName
set_option maxRecDepth 20000 in
theorem ggX12_half_X12_isKeeper : GoodIn wsX12_half wsX12_isKeeper := goodIn_r _ [16, 17, 10, 11, 7, 12, 24, 25, 26, 27, 28, 29, 30, 31, 32, 33, 34, 35, 36, 37, 38, 39, 40, 41, 42, 43, 44, 45, 46, 47, 48, 49, 50, 51, 52, 53, 54, 55, 56, 57, 58, 59, 60, 61, 62, 63, 64, 65, 66, 67, 68, 69, 70, 71, 72, 73, 74, 75, 76, 77, 78, 79, 80, 81, 82] (by decide +kernel) (by decide +kernel)
set_option maxRecDepth 20000 in
theorem gX12_half_X12_isKeeper : GoodIn wsX12_half (wsV RX12 166 RX12 yX12_isKeeper wsX12_isKeeper) := goodIn_app (goodIn_of _ (by decide +kernel)) ggX12_half_X12_isKeeper
set_option maxRecDepth 20000 in
theorem ggX1_choose_X1_pick : GoodIn wsX1_choose wsX1_pick := goodIn_r _ [18, 4, 19, 20, 21, 22, 23, 17, 24, 25, 26, 13, 27, 28, 29, 30, 31, 32, 33, 34, 35, 36, 37, 38, 39, 40, 41, 42, 43, 44, 45, 46, 47, 48, 49, 50, 51, 52, 53, 54, 55, 56, 57, 58, 59, 60, 61, 62, 63, 73, 74, 75, 76, 77, 78, 79, 80, 81, 82, 83, 84, 85, 86, 87, 88, 89, 90, 91, 92, 93, 94] (by decide +kernel) (by decide +kernel)
set_option maxRecDepth 20000 in
theorem gX1_choose_X1_pick : GoodIn wsX1_choose (wsV RX1 89 RX1 yX1_pick wsX1_pick) := goodIn_app (goodIn_of _ (by decide +kernel)) ggX1_choose_X1_pick
set_option maxRecDepth 20000 in
theorem ggX12_half_X12_isAwake : GoodIn wsX12_half wsX12_isAwake := goodIn_r _ [21, 22, 23, 24, 25, 26, 27, 28, 29, 30, 31, 32, 33, 34, 35, 36, 37, 38, 39, 40, 41, 42, 43, 44, 45, 46, 47, 48, 49, 50, 51, 52, 53, 54, 55, 56, 57, 58, 59, 60, 61, 62, 63, 64, 65, 66, 67, 68, 69, 70, 71, 72, 73, 74, 75, 76, 77, 78, 79, 80, 81, 82] (by decide +kernel) (by decide +kernel)
set_option maxRecDepth 20000 in
theorem gX12_half_X12_isAwake : GoodIn wsX12_half (wsV RX12 287 RX12 yX12_isAwake wsX12_isAwake) := goodIn_app (goodIn_of _ (by decide +kernel)) ggX12_half_X12_isAwake
set_option maxRecDepth 20000 in
theorem ggX12_eats_X12_here : GoodIn wsX12_eats wsX12_here := goodIn_r _ [7, 2, 8, 9, 10, 11, 12, 13, 14, 15, 16, 17, 18, 19, 20, 21, 22, 23, 24, 25, 26, 27, 28, 29, 30, 31, 32, 33, 34, 35, 36, 37, 38, 39, 40, 41, 42, 43, 44, 45, 46, 47, 48, 49, 50, 51, 52, 53, 54, 55, 56, 57, 58, 59, 60, 61, 62, 63, 64, 65, 66, 67, 68, 69] (by decide +kernel) (by decide +kernel)
set_option maxRecDepth 20000 in
theorem gX12_eats_X12_here : GoodIn wsX12_eats (wsV RX12 187 RX12 yX12_here wsX12_here) := goodIn_app (goodIn_of _ (by decide +kernel)) ggX12_eats_X12_here
set_option maxRecDepth 20000 in
theorem ggX3_readOperand_X3_readBracket : GoodIn wsX3_readOperand wsX3_readBracket := goodIn_r _ [24, 5, 6, 25, 26, 27, 10, 7, 8, 9, 11, 12, 13, 0, 1, 2, 3, 4, 14, 15, 16, 17, 18, 19, 20, 21, 22, 23, 28, 29, 30, 31, 32, 33, 34, 35, 36, 37, 38, 39, 40, 41, 42, 43] (by decide +kernel) (by decide +kernel)
set_option maxRecDepth 20000 in
theorem gX3_readOperand_X3_readBracket : GoodIn wsX3_readOperand (wsV RX3 113 RX3 yX3_readBracket wsX3_readBracket) := goodIn_app (goodIn_of _ (by decide +kernel)) ggX3_readOperand_X3_readBracket
set_option maxRecDepth 20000 in
theorem ggX3_readPart_X3_readSum : GoodIn wsX3_readPart wsX3_readSum := goodIn_r _ [16, 2, 1, 17, 18, 19, 9, 6, 7, 8, 10, 11, 12, 20, 13, 14, 15, 21, 22, 23, 24, 25, 26, 27, 28, 29, 30, 31, 32, 33, 34, 35, 36, 37, 38, 39, 54, 55, 56, 57, 58, 59, 60, 61] (by decide +kernel) (by decide +kernel)
set_option maxRecDepth 20000 in
theorem gX3_readPart_X3_readSum : GoodIn wsX3_readPart (wsV RX3 88 RX3 yX3_readSum wsX3_readSum) := goodIn_app (goodIn_of _ (by decide +kernel)) ggX3_readPart_X3_readSum
set_option maxRecDepth 20000 in
theorem ggX1_pick_X1_pickBySums : GoodIn wsX1_pick wsX1_pickBySums := goodIn_r _ [8, 9, 1, 10, 11, 2, 12, 13, 14, 15, 16, 17, 18, 19, 20, 21, 22, 23, 58, 59, 60, 61, 62, 63, 64, 65, 66, 67, 68, 69, 70, 49, 50, 51, 52, 53, 54, 55, 56, 57] (by decide +kernel) (by decide +kernel)
set_option maxRecDepth 20000 in
theorem gX1_pick_X1_pickBySums : GoodIn wsX1_pick (wsV RX1 46 RX1 yX1_pickBySums wsX1_pickBySums) := goodIn_app (goodIn_of _ (by decide +kernel)) ggX1_pick_X1_pickBySums
set_option maxRecDepth 20000 in
theorem ggX11_share_X8_firstFor : GoodIn wsX11_share wsX8_firstFor := goodIn_r _ [33, 34, 35, 36, 37, 38, 39, 40, 22, 41, 42, 43, 44, 45, 9, 46, 47, 70, 71, 72, 73, 74, 75, 76, 77, 78, 79, 80, 81, 82] (by decide +kernel) (by decide +kernel)
set_option maxRecDepth 20000 in
theorem gX11_share_X8_firstFor : GoodIn wsX11_share (wsV RX11 257 RX8 yX8_firstFor wsX8_firstFor) := goodIn_app (goodIn_of _ (by decide +kernel)) ggX11_share_X8_firstFor
set_option maxRecDepth 20000 in
theorem ggX0_keepsFrom_X0_movesFrom : GoodIn wsX0_keepsFrom wsX0_movesFrom := goodIn_r _ [15, 1, 16, 2, 3, 4, 5, 6, 7, 8, 12, 13, 14, 17, 18, 19, 20, 21, 22, 23, 24, 25, 26] (by decide +kernel) (by decide +kernel)
set_option maxRecDepth 20000 in
theorem gX0_keepsFrom_X0_movesFrom : GoodIn wsX0_keepsFrom (wsV RX0 35 RX0 yX0_movesFrom wsX0_movesFrom) := goodIn_app (goodIn_of _ (by decide +kernel)) ggX0_keepsFrom_X0_movesFrom
set_option maxRecDepth 20000 in
theorem ggX5_nextOf_X5_sumOver : GoodIn wsX5_nextOf wsX5_sumOver := goodIn_r _ [7, 2, 8, 9, 10, 11, 12, 13, 14, 15, 16, 17, 18, 19, 20, 21, 22, 23, 24, 25, 26, 27, 28, 29, 30, 31] (by decide +kernel) (by decide +kernel)
set_option maxRecDepth 20000 in
theorem gX5_nextOf_X5_sumOver : GoodIn wsX5_nextOf (wsV RX5 108 RX5 yX5_sumOver wsX5_sumOver) := goodIn_app (goodIn_of _ (by decide +kernel)) ggX5_nextOf_X5_sumOver
set_option maxRecDepth 20000 in
theorem ggX11_trees_X6_unlikeLeaves : GoodIn wsX11_trees wsX6_unlikeLeaves := goodIn_r _ [34, 14, 15, 54, 55, 56, 57, 58, 59, 60, 61, 62, 63, 64, 65] (by decide +kernel) (by decide +kernel)
set_option maxRecDepth 20000 in
theorem gX11_trees_X6_unlikeLeaves : GoodIn wsX11_trees (wsV RX11 306 RX6 yX6_unlikeLeaves wsX6_unlikeLeaves) := goodIn_app (goodIn_of _ (by decide +kernel)) ggX11_trees_X6_unlikeLeaves
set_option maxRecDepth 20000 in
theorem ggX6_compare_X6_grow : GoodIn wsX6_compare wsX6_grow := goodIn_r _ [7, 8, 9, 10, 11, 12, 13, 14, 15, 16, 17, 18, 19, 20, 21, 22, 23, 24, 25, 26, 27, 28, 29, 30] (by decide +kernel) (by decide +kernel)
set_option maxRecDepth 20000 in
theorem gX6_compare_X6_grow : GoodIn wsX6_compare (wsV RX6 138 RX6 yX6_grow wsX6_grow) := goodIn_app (goodIn_of _ (by decide +kernel)) ggX6_compare_X6_grow
set_option maxRecDepth 20000 in
theorem ggX3_readPart_X3_readWay : GoodIn wsX3_readPart wsX3_readWay := goodIn_r _ [53, 1, 2, 6, 7, 8, 9, 10, 11, 12, 54, 55, 56, 57, 58, 59, 60, 61] (by decide +kernel) (by decide +kernel)
set_option maxRecDepth 20000 in
theorem gX3_readPart_X3_readWay : GoodIn wsX3_readPart (wsV RX3 94 RX3 yX3_readWay wsX3_readWay) := goodIn_app (goodIn_of _ (by decide +kernel)) ggX3_readPart_X3_readWay
set_option maxRecDepth 20000 in
theorem ggX11_moves_J6_bitCount_0f7a4 : GoodIn wsX11_moves wsJ6_bitCount_0f7a4 := goodIn_r _ [104, 105, 106, 107] (by decide +kernel) (by decide +kernel)
set_option maxRecDepth 20000 in
theorem gX11_moves_J6_bitCount_0f7a4 : GoodIn wsX11_moves (va_wsS RX11 246 yJ6_bitCount_0f7a4 wsJ6_bitCount_0f7a4) := goodIn_app (goodIn_of _ (by decide +kernel)) ggX11_moves_J6_bitCount_0f7a4
set_option maxRecDepth 20000 in
theorem ggX3_readProduct_X3_sign : GoodIn wsX3_readProduct wsX3_sign := goodIn_r _ [10, 2, 11, 12, 36, 37, 38, 39, 40, 41, 42, 43] (by decide +kernel) (by decide +kernel)
set_option maxRecDepth 20000 in
theorem gX3_readProduct_X3_sign : GoodIn wsX3_readProduct (wsV RX3 62 RX3 yX3_sign wsX3_sign) := goodIn_app (goodIn_of _ (by decide +kernel)) ggX3_readProduct_X3_sign
set_option maxRecDepth 20000 in
theorem ggX6_greatestFor_X2_isUp : GoodIn wsX6_greatestFor wsX2_isUp := goodIn_r _ [99, 100, 101, 140, 141, 142, 143, 144, 145] (by decide +kernel) (by decide +kernel)
set_option maxRecDepth 20000 in
theorem gX6_greatestFor_X2_isUp : GoodIn wsX6_greatestFor (wsV RX6 117 RX2 yX2_isUp wsX2_isUp) := goodIn_app (goodIn_of _ (by decide +kernel)) ggX6_greatestFor_X2_isUp
set_option maxRecDepth 20000 in
theorem ggX6_spread_X4_placeOf : GoodIn wsX6_spread wsX4_placeOf := goodIn_r _ [12, 13, 14, 15, 170, 171, 172, 173] (by decide +kernel) (by decide +kernel)
set_option maxRecDepth 20000 in
theorem gX6_spread_X4_placeOf : GoodIn wsX6_spread (wsV RX6 59 RX4 yX4_placeOf wsX4_placeOf) := goodIn_app (goodIn_of _ (by decide +kernel)) ggX6_spread_X4_placeOf
set_option maxRecDepth 20000 in
theorem ggX11_share_X4_placeOf : GoodIn wsX11_share wsX4_placeOf := goodIn_r _ [52, 53, 54, 55, 83, 84, 85, 86] (by decide +kernel) (by decide +kernel)
set_option maxRecDepth 20000 in
theorem gX11_share_X4_placeOf : GoodIn wsX11_share (wsV RX11 127 RX4 yX4_placeOf wsX4_placeOf) := goodIn_app (goodIn_of _ (by decide +kernel)) ggX11_share_X4_placeOf
set_option maxRecDepth 20000 in
theorem ggX12_findsFrom_X12_aboveOf : GoodIn wsX12_findsFrom wsX12_aboveOf := goodIn_r _ [14] (by decide +kernel) (by decide +kernel)
set_option maxRecDepth 20000 in
theorem gX12_findsFrom_X12_aboveOf : GoodIn wsX12_findsFrom (va_wsS RX12 343 yX12_aboveOf wsX12_aboveOf) := goodIn_app (goodIn_of _ (by decide +kernel)) ggX12_findsFrom_X12_aboveOf
set_option maxRecDepth 20000 in
theorem ggX11_name_X4_find : GoodIn wsX11_name wsX4_find := goodIn_r _ [10, 11, 12, 13, 14, 15, 9, 16, 40, 41, 42, 43] (by decide +kernel) (by decide +kernel)
set_option maxRecDepth 20000 in
theorem gX11_name_X4_find : GoodIn wsX11_name (wsV RX11 113 RX4 yX4_find wsX4_find) := goodIn_app (goodIn_of _ (by decide +kernel)) ggX11_name_X4_find
set_option maxRecDepth 20000 in
theorem ggX11_names_X7_isRow : GoodIn wsX11_names wsX7_isRow := goodIn_r _ [20, 15, 59, 60, 61, 62] (by decide +kernel) (by decide +kernel)
set_option maxRecDepth 20000 in
theorem gX11_names_X7_isRow : GoodIn wsX11_names (wsV RX11 385 RX7 yX7_isRow wsX7_isRow) := goodIn_app (goodIn_of _ (by decide +kernel)) ggX11_names_X7_isRow
set_option maxRecDepth 20000 in
theorem ggX11_write_X4_has : GoodIn wsX11_write wsX4_has := goodIn_r _ [15, 16, 180, 181, 182, 183] (by decide +kernel) (by decide +kernel)
set_option maxRecDepth 20000 in
theorem gX11_write_X4_has : GoodIn wsX11_write (wsV RX11 123 RX4 yX4_has wsX4_has) := goodIn_app (goodIn_of _ (by decide +kernel)) ggX11_write_X4_has
set_option maxRecDepth 20000 in
theorem ggX11_noon_X11_upward : GoodIn wsX11_noon wsX11_upward := goodIn_r _ [18] (by decide +kernel) (by decide +kernel)
set_option maxRecDepth 20000 in
theorem gX11_noon_X11_upward : GoodIn wsX11_noon (va_wsS RX11 309 yX11_upward wsX11_upward) := goodIn_app (goodIn_of _ (by decide +kernel)) ggX11_noon_X11_upward
set_option maxRecDepth 20000 in
theorem ggX12_noon_X12_ones : GoodIn wsX12_noon wsX12_ones := goodIn_r _ [13] (by decide +kernel) (by decide +kernel)
set_option maxRecDepth 20000 in
theorem gX12_noon_X12_ones : GoodIn wsX12_noon (va_wsS RX12 284 yX12_ones wsX12_ones) := goodIn_app (goodIn_of _ (by decide +kernel)) ggX12_noon_X12_ones
set_option maxRecDepth 20000 in
theorem ggX12_knows_X12_in : GoodIn wsX12_knows wsX12_in := goodIn_r _ [12] (by decide +kernel) (by decide +kernel)
set_option maxRecDepth 20000 in
theorem gX12_knows_X12_in : GoodIn wsX12_knows (va_wsS RX12 136 yX12_in wsX12_in) := goodIn_app (goodIn_of _ (by decide +kernel)) ggX12_knows_X12_in
