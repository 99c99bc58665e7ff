set_option maxRecDepth 20000 in
theorem ggX12_order_X12_tries : GoodIn wsX12_order wsX12_tries := goodIn_r _ [26, 21, 2, 27, 28, 29, 30, 31, 32, 33, 34, 35, 11, 36, 37, 38, 39, 40, 41, 42, 43, 44, 45, 46, 47, 48, 49, 50, 51, 52, 53, 54, 55, 56, 57, 58, 59, 60, 61, 62, 63, 64, 65, 66, 67, 68, 69, 14, 15, 16, 70, 71, 72, 73, 74, 75, 76, 77, 78, 79, 80, 81, 82, 83, 84, 85, 86, 87, 88, 89, 90, 91, 92, 93, 94, 95, 150, 151, 152, 153, 154, 155, 156, 157, 158, 159, 160, 161, 162, 163, 164, 165, 166, 167, 168, 169, 170, 171, 172, 173, 174, 175, 176, 177, 178, 179, 180, 181, 182, 183, 184, 185, 186, 187, 188, 189, 190, 191, 192, 193, 194, 195, 196, 197, 198, 199, 200, 201, 202, 203, 204, 205, 206, 207, 208] (by decide +kernel) (by decide +kernel)
set_option maxRecDepth 20000 in
theorem gX12_order_X12_tries : GoodIn wsX12_order (wsV RX12 319 RX12 yX12_tries wsX12_tries) := goodIn_app (goodIn_of _ (by decide +kernel)) ggX12_order_X12_tries
set_option maxRecDepth 20000 in
theorem ggX12_mend_X12_chooseName : GoodIn wsX12_mend wsX12_chooseName := goodIn_r _ [19, 20, 21, 22, 23, 10, 24, 25, 26, 27, 28, 29, 30, 31, 5, 32, 33, 34, 35, 6, 36, 37, 38, 39, 40, 41, 42, 43, 44, 45, 2, 46, 47, 48, 49, 50, 51, 52, 53, 54, 55, 56, 57, 58, 59, 60, 61, 62, 63, 64, 65, 66, 67, 68, 69, 84, 85, 86, 87, 88, 89, 90, 91, 92, 93, 94, 95, 96, 97, 98, 99, 100, 101, 102, 103, 104, 105, 106, 107, 108, 109, 110, 111, 112, 113, 114, 115, 116, 117, 118, 119, 120, 121, 122, 123, 124, 125, 126, 127, 128, 129, 130, 131, 132, 133, 134, 135, 136, 137, 138, 139, 140, 141, 142] (by decide +kernel) (by decide +kernel)
set_option maxRecDepth 20000 in
theorem gX12_mend_X12_chooseName : GoodIn wsX12_mend (wsV RX12 269 RX12 yX12_chooseName wsX12_chooseName) := goodIn_app (goodIn_of _ (by decide +kernel)) ggX12_mend_X12_chooseName
set_option maxRecDepth 20000 in
theorem ggX12_harm_X12_shareOf : GoodIn wsX12_harm wsX12_shareOf := goodIn_r _ [91, 92, 19, 93, 94, 95, 96, 9, 97, 98, 99, 100, 101, 102, 103, 104, 105, 2, 53, 106, 107, 108, 109, 4, 22, 83, 84, 85, 86, 87, 25, 26, 27, 28, 110, 111, 112, 113, 81, 114, 115, 116, 117, 118, 119, 120, 121, 122, 123, 124, 125, 126, 127, 128, 129, 130, 131, 132, 133, 134, 135, 136, 137, 138, 139, 140, 141, 142, 143, 144, 145, 146, 147, 148, 149, 150, 151, 152, 153, 154, 155, 156, 157, 158, 159, 160, 161, 162, 163, 164, 165, 166, 167, 168, 169, 170, 171, 172] (by decide +kernel) (by decide +kernel)
set_option maxRecDepth 20000 in
theorem gX12_harm_X12_shareOf : GoodIn wsX12_harm (wsV RX12 272 RX12 yX12_shareOf wsX12_shareOf) := goodIn_app (goodIn_of _ (by decide +kernel)) ggX12_harm_X12_shareOf
set_option maxRecDepth 20000 in
theorem ggX6_spread_X1_choose : GoodIn wsX6_spread wsX1_choose := goodIn_r _ [20, 21, 22, 23, 24, 25, 26, 27, 28, 29, 30, 31, 32, 33, 34, 35, 36, 19, 37, 38, 39, 40, 41, 42, 43, 44, 45, 46, 47, 48, 49, 50, 51, 52, 53, 54, 55, 56, 57, 58, 59, 60, 61, 62, 63, 64, 65, 66, 67, 68, 69, 70, 71, 72, 73, 74, 75, 76, 77, 78, 79, 80, 81, 82, 83, 84, 85, 86, 87, 88, 89, 90, 91, 161, 162, 163, 164, 165, 166, 167, 168, 169, 148, 149, 150, 151, 152, 153, 154, 155, 156, 157, 158, 159, 160, 174, 175, 176, 177, 178, 179] (by decide +kernel) (by decide +kernel)
set_option maxRecDepth 20000 in
theorem gX6_spread_X1_choose : GoodIn wsX6_spread (wsV RX6 65 RX1 yX1_choose wsX1_choose) := goodIn_app (goodIn_of _ (by decide +kernel)) ggX6_spread_X1_choose
set_option maxRecDepth 20000 in
theorem ggX12_keepsFrom_X12_keepsFrom : GoodIn wsX12_keepsFrom wsX12_keepsFrom := goodIn_r _ [0, 1, 2, 3, 4, 5, 6, 7, 8, 9, 10, 11, 12, 13, 14, 15, 16, 17, 18, 19, 20, 21, 22, 23, 24, 25, 26, 27, 28, 29, 30, 31, 32, 33, 34, 35, 36, 37, 38, 39, 40, 41, 42, 43, 44, 45, 46, 47, 48, 49, 50, 51, 52, 53, 54, 55, 56, 57, 58, 59, 60, 61, 62, 63, 64, 65, 66, 67, 68, 69, 70, 71, 72, 73, 74, 75, 76, 77, 78, 79, 80, 81, 82] (by decide +kernel) (by decide +kernel)
set_option maxRecDepth 20000 in
theorem gX12_keepsFrom_X12_keepsFrom : GoodIn wsX12_keepsFrom (wsV RX12 346 RX12 yX12_keepsFrom wsX12_keepsFrom) := goodIn_app (goodIn_of _ (by decide +kernel)) ggX12_keepsFrom_X12_keepsFrom
set_option maxRecDepth 20000 in
theorem ggX12_movesFrom_X12_movesFrom : GoodIn wsX12_movesFrom wsX12_movesFrom := goodIn_r _ [0, 1, 2, 3, 4, 5, 6, 7, 8, 9, 10, 11, 12, 13, 14, 15, 16, 17, 18, 19, 20, 21, 22, 23, 24, 25, 26, 27, 28, 29, 30, 31, 32, 33, 34, 35, 36, 37, 38, 39, 40, 41, 42, 43, 44, 45, 46, 47, 48, 49, 50, 51, 52, 53, 54, 55, 56, 57, 58, 59, 60, 61, 62, 63, 64, 65, 66, 67, 68, 69, 70, 71, 72, 73, 74, 75, 76, 77, 78] (by decide +kernel) (by decide +kernel)
set_option maxRecDepth 20000 in
theorem gX12_movesFrom_X12_movesFrom : GoodIn wsX12_movesFrom (wsV RX12 349 RX12 yX12_movesFrom wsX12_movesFrom) := goodIn_app (goodIn_of _ (by decide +kernel)) ggX12_movesFrom_X12_movesFrom
set_option maxRecDepth 20000 in
theorem ggX12_write_X12_keeps : GoodIn wsX12_write wsX12_keeps := goodIn_r _ [88, 43, 45, 89, 90, 23, 24, 25, 12, 26, 7, 6, 99, 100, 101, 102, 103, 104, 105, 106, 107, 108, 109, 110, 111, 112, 113, 114, 115, 116, 117, 118, 119, 120, 121, 122, 123, 124, 125, 126, 127, 128, 129, 130, 131, 132, 133, 134, 135, 136, 137, 138, 139, 140, 141, 142, 143, 144, 145, 146, 147, 148, 149, 150, 151, 152, 153, 154, 155, 156, 157] (by decide +kernel) (by decide +kernel)
set_option maxRecDepth 20000 in
theorem gX12_write_X12_keeps : GoodIn wsX12_write (wsV RX12 293 RX12 yX12_keeps wsX12_keeps) := goodIn_app (goodIn_of _ (by decide +kernel)) ggX12_write_X12_keeps
set_option maxRecDepth 20000 in
theorem ggX12_tries_X12_sits : GoodIn wsX12_tries wsX12_sits := goodIn_r _ [68, 69, 70, 5, 6, 2, 9, 10, 11, 12, 13, 1, 71, 72, 73, 74, 75, 76, 77, 78, 79, 80, 81, 82, 83, 84, 85, 86, 87, 88, 89, 90, 91, 92, 93, 94, 95, 96, 97, 98, 99, 100, 101, 102, 103, 104, 105, 106, 107, 108, 109, 110, 111, 112, 113, 114, 115, 116, 117, 118, 119, 120, 121, 122, 123, 124, 125, 126, 127, 128, 129, 130, 131, 132, 133, 134] (by decide +kernel) (by decide +kernel)
set_option maxRecDepth 20000 in
theorem gX12_tries_X12_sits : GoodIn wsX12_tries (wsV RX12 237 RX12 yX12_sits wsX12_sits) := goodIn_app (goodIn_of _ (by decide +kernel)) ggX12_tries_X12_sits
set_option maxRecDepth 20000 in
theorem ggX12_pick_X12_pickBest : GoodIn wsX12_pick wsX12_pickBest := goodIn_r _ [9, 10, 11, 12, 4, 1, 13, 14, 8, 15, 16, 17, 18, 19, 20, 21, 2, 27, 28, 29, 30, 31, 32, 33, 34, 35, 36, 37, 38, 39, 40, 41, 42, 43, 44, 45, 46, 47, 48, 49, 50, 51, 52, 53, 54, 55, 56, 57, 58, 59, 60, 61, 62, 63, 64, 65, 66, 67, 68, 69, 70, 71, 72, 73, 74, 75, 76, 77, 78, 79, 80, 81, 82, 83, 84, 85] (by decide +kernel) (by decide +kernel)
set_option maxRecDepth 20000 in
theorem gX12_pick_X12_pickBest : GoodIn wsX12_pick (wsV RX12 243 RX12 yX12_pickBest wsX12_pickBest) := goodIn_app (goodIn_of _ (by decide +kernel)) ggX12_pick_X12_pickBest
set_option maxRecDepth 20000 in
theorem ggX12_act_X12_findsFrom : GoodIn wsX12_act wsX12_findsFrom := goodIn_r _ [15, 16, 17, 18, 19, 6, 20, 1, 21, 12, 13, 14, 22, 23, 24, 37, 38, 39, 40, 41, 42, 43, 44, 45, 46, 47, 48, 49, 50, 51, 52, 53, 54, 55, 56, 57, 58, 59, 60, 61, 62, 63, 64, 65, 66, 67, 68, 69, 70, 71, 72, 73, 74, 75, 76, 77, 78, 79, 80, 81, 82, 83, 84, 85, 86, 87, 88, 89, 90, 91, 92, 93, 94, 95] (by decide +kernel) (by decide +kernel)
set_option maxRecDepth 20000 in
theorem gX12_act_X12_findsFrom : GoodIn wsX12_act (wsV RX12 340 RX12 yX12_findsFrom wsX12_findsFrom) := goodIn_app (goodIn_of _ (by decide +kernel)) ggX12_act_X12_findsFrom
set_option maxRecDepth 20000 in
theorem ggX12_share_X12_isKeeper : GoodIn wsX12_share wsX12_isKeeper := goodIn_r _ [14, 15, 8, 9, 5, 10, 60, 61, 62, 63, 64, 65, 66, 67, 68, 69, 70, 71, 72, 73, 74, 75, 76, 77, 78, 79, 80, 81, 82, 83, 84, 85, 86, 87, 88, 89, 90, 91, 92, 93, 94, 95, 96, 97, 98, 99, 100, 101, 102, 103, 104, 105, 106, 107, 108, 109, 110, 111, 112, 113, 114, 115, 116, 117, 118] (by decide +kernel) (by decide +kernel)
set_option maxRecDepth 20000 in
theorem gX12_share_X12_isKeeper : GoodIn wsX12_share (wsV RX12 166 RX12 yX12_isKeeper wsX12_isKeeper) := goodIn_app (goodIn_of _ (by decide +kernel)) ggX12_share_X12_isKeeper
set_option maxRecDepth 20000 in
theorem ggX12_moves_X12_bits : GoodIn wsX12_moves wsX12_bits := goodIn_r _ [71, 34, 39, 75, 76, 77, 78, 79, 80, 81, 82, 83, 84, 85, 86, 87, 88, 89, 90, 91, 92, 93, 94, 95, 96, 97, 98, 99, 100, 101, 102, 103, 104, 105, 106, 107, 108, 109, 110, 111, 112, 113, 114, 115, 116, 117, 118, 119, 120, 121, 122, 123, 124, 125, 126, 127, 128, 129, 130, 131, 132, 133] (by decide +kernel) (by decide +kernel)
set_option maxRecDepth 20000 in
theorem gX12_moves_X12_bits : GoodIn wsX12_moves (wsV RX12 281 RX12 yX12_bits wsX12_bits) := goodIn_app (goodIn_of _ (by decide +kernel)) ggX12_moves_X12_bits
set_option maxRecDepth 20000 in
theorem ggX12_findsFrom_X12_begins : GoodIn wsX12_findsFrom wsX12_begins := goodIn_r _ [6, 7, 8, 15, 16, 17, 18, 19, 20, 21, 22, 23, 24, 25, 26, 27, 28, 29, 30, 31, 32, 33, 34, 35, 36, 37, 38, 39, 40, 41, 42, 43, 44, 45, 46, 47, 48, 49, 50, 51, 52, 53, 54, 55, 56, 57, 58, 59, 60, 61, 62, 63, 64, 65, 66, 67, 68, 69, 70, 71, 72, 73] (by decide +kernel) (by decide +kernel)
set_option maxRecDepth 20000 in
theorem gX12_findsFrom_X12_begins : GoodIn wsX12_findsFrom (wsV RX12 337 RX12 yX12_begins wsX12_begins) := goodIn_app (goodIn_of _ (by decide +kernel)) ggX12_findsFrom_X12_begins
set_option maxRecDepth 20000 in
theorem ggX12_comes_X12_isComing : GoodIn wsX12_comes wsX12_isComing := goodIn_r _ [15, 1, 2, 16, 17, 18, 19, 20, 21, 22, 23, 24, 25, 26, 27, 28, 29, 30, 31, 32, 33, 34, 35, 36, 37, 38, 39, 40, 41, 42, 43, 44, 45, 46, 47, 48, 49, 50, 51, 52, 53, 54, 55, 56, 57, 58, 59, 60, 61, 62, 63, 64, 65, 66, 67, 68, 69, 70, 71, 72, 73, 74] (by decide +kernel) (by decide +kernel)
set_option maxRecDepth 20000 in
theorem gX12_comes_X12_isComing : GoodIn wsX12_comes (wsV RX12 313 RX12 yX12_isComing wsX12_isComing) := goodIn_app (goodIn_of _ (by decide +kernel)) ggX12_comes_X12_isComing
set_option maxRecDepth 20000 in
theorem ggX12_name_X12_found : GoodIn wsX12_name wsX12_found := goodIn_r _ [12, 4, 13, 14, 2, 19, 20, 21, 22, 23, 24, 25, 26, 27, 28, 29, 30, 31, 32, 33, 34, 35, 36, 37, 38, 39, 40, 41, 42, 43, 44, 45, 46, 47, 48, 49, 50, 51, 52, 53, 54, 55, 56, 57, 58, 59, 60, 61, 62, 63, 64, 65, 66, 67, 68, 69, 70, 71, 72, 73, 74, 75, 76, 77] (by decide +kernel) (by decide +kernel)
set_option maxRecDepth 20000 in
theorem gX12_name_X12_found : GoodIn wsX12_name (wsV RX12 149 RX12 yX12_found wsX12_found) := goodIn_app (goodIn_of _ (by decide +kernel)) ggX12_name_X12_found
set_option maxRecDepth 20000 in
theorem ggX12_sum_X12_here : GoodIn wsX12_sum wsX12_here := goodIn_r _ [10, 2, 11, 12, 13, 34, 35, 36, 37, 38, 39, 40, 41, 42, 43, 44, 45, 46, 47, 48, 49, 50, 51, 52, 53, 54, 55, 56, 57, 58, 59, 60, 61, 62, 63, 64, 65, 66, 67, 68, 69, 70, 71, 72, 73, 74, 75, 76, 77, 78, 79, 80, 81, 82, 83, 84, 85, 86, 87, 88, 89, 90, 91, 92] (by decide +kernel) (by decide +kernel)
set_option maxRecDepth 20000 in
theorem gX12_sum_X12_here : GoodIn wsX12_sum (wsV RX12 187 RX12 yX12_here wsX12_here) := goodIn_app (goodIn_of _ (by decide +kernel)) ggX12_sum_X12_here
set_option maxRecDepth 20000 in
theorem ggX6_reaches_X6_isKeptFor : GoodIn wsX6_reaches wsX6_isKeptFor := goodIn_r _ [9, 10, 11, 12, 1, 13, 14, 4, 15, 16, 17, 18, 19, 20, 21, 22, 23, 24, 25, 26, 27, 48, 49, 50, 51, 52, 53, 54, 55, 56, 57, 58, 59, 66, 67, 68, 69, 70, 71, 72, 73, 74, 60, 61, 62, 63, 64, 65] (by decide +kernel) (by decide +kernel)
set_option maxRecDepth 20000 in
theorem gX6_reaches_X6_isKeptFor : GoodIn wsX6_reaches (wsV RX6 90 RX6 yX6_isKeptFor wsX6_isKeptFor) := goodIn_app (goodIn_of _ (by decide +kernel)) ggX6_reaches_X6_isKeptFor
set_option maxRecDepth 20000 in
theorem ggX5_leastFrom_X5_leastOnward : GoodIn wsX5_leastFrom wsX5_leastOnward := goodIn_r _ [227, 1, 228, 229, 230, 6, 231, 2, 14, 15, 17, 232, 80, 81, 82, 83, 84, 85, 243, 244, 245, 246, 247, 248, 249, 250, 251, 252, 266, 267, 268, 269] (by decide +kernel) (by decide +kernel)
set_option maxRecDepth 20000 in
theorem gX5_leastFrom_X5_leastOnward : GoodIn wsX5_leastFrom (wsV RX5 53 RX5 yX5_leastOnward wsX5_leastOnward) := goodIn_app (goodIn_of _ (by decide +kernel)) ggX5_leastFrom_X5_leastOnward
set_option maxRecDepth 20000 in
theorem ggX5_seatSet_X8_takeAll : GoodIn wsX5_seatSet wsX8_takeAll := goodIn_r _ [17, 18, 19, 20, 21, 22, 23, 24, 25, 26, 27, 28, 29, 30, 31, 16, 32, 33, 34, 35, 36, 37, 38, 39, 228, 229, 230, 231, 232, 233, 234, 235, 236, 237, 238, 239, 240] (by decide +kernel) (by decide +kernel)
set_option maxRecDepth 20000 in
theorem gX5_seatSet_X8_takeAll : GoodIn wsX5_seatSet (wsV RX5 61 RX8 yX8_takeAll wsX8_takeAll) := goodIn_app (goodIn_of _ (by decide +kernel)) ggX5_seatSet_X8_takeAll
set_option maxRecDepth 20000 in
theorem ggX5_leastOnward_X5_sumOver : GoodIn wsX5_leastOnward wsX5_sumOver := goodIn_r _ [6, 7, 8, 9, 10, 11, 12, 13, 14, 15, 16, 17, 18, 19, 20, 21, 22, 23, 24, 25, 26, 27, 28, 29, 30, 31] (by decide +kernel) (by decide +kernel)
set_option maxRecDepth 20000 in
theorem gX5_leastOnward_X5_sumOver : GoodIn wsX5_leastOnward (wsV RX5 108 RX5 yX5_sumOver wsX5_sumOver) := goodIn_app (goodIn_of _ (by decide +kernel)) ggX5_leastOnward_X5_sumOver
set_option maxRecDepth 20000 in
theorem ggX0_tellsFrom_X0_movesFrom : GoodIn wsX0_tellsFrom wsX0_movesFrom := goodIn_r _ [19, 1, 20, 2, 3, 4, 5, 6, 7, 8, 16, 17, 18, 21, 22, 23, 24, 25, 26, 27, 28, 29, 30] (by decide +kernel) (by decide +kernel)
set_option maxRecDepth 20000 in
theorem gX0_tellsFrom_X0_movesFrom : GoodIn wsX0_tellsFrom (wsV RX0 35 RX0 yX0_movesFrom wsX0_movesFrom) := goodIn_app (goodIn_of _ (by decide +kernel)) ggX0_tellsFrom_X0_movesFrom
set_option maxRecDepth 20000 in
theorem ggX6_movePiece_X6_takesGreater : GoodIn wsX6_movePiece wsX6_takesGreater := goodIn_r _ [16, 4, 17, 18, 19, 20, 21, 22, 23, 24, 25, 26, 27, 28] (by decide +kernel) (by decide +kernel)
set_option maxRecDepth 20000 in
theorem gX6_movePiece_X6_takesGreater : GoodIn wsX6_movePiece (wsV RX6 100 RX6 yX6_takesGreater wsX6_takesGreater) := goodIn_app (goodIn_of _ (by decide +kernel)) ggX6_movePiece_X6_takesGreater
set_option maxRecDepth 20000 in
theorem ggX0_movesFrom_X0_findsFrom : GoodIn wsX0_movesFrom wsX0_findsFrom := goodIn_r _ [16, 17, 2, 3, 4, 5, 6, 7, 8, 9, 13, 14, 15, 18, 19, 20, 21, 22] (by decide +kernel) (by decide +kernel)
set_option maxRecDepth 20000 in
theorem gX0_movesFrom_X0_findsFrom : GoodIn wsX0_movesFrom (wsV RX0 28 RX0 yX0_findsFrom wsX0_findsFrom) := goodIn_app (goodIn_of _ (by decide +kernel)) ggX0_movesFrom_X0_findsFrom
set_option maxRecDepth 20000 in
theorem ggX8_seatAll_X8_freeFrom : GoodIn wsX8_seatAll wsX8_freeFrom := goodIn_r _ [19, 4, 20, 12, 21, 27, 28, 29, 30, 31, 32, 33, 34, 35, 36, 37, 38, 39] (by decide +kernel) (by decide +kernel)
set_option maxRecDepth 20000 in
theorem gX8_seatAll_X8_freeFrom : GoodIn wsX8_seatAll (wsV RX8 90 RX8 yX8_freeFrom wsX8_freeFrom) := goodIn_app (goodIn_of _ (by decide +kernel)) ggX8_seatAll_X8_freeFrom
set_option maxRecDepth 20000 in
theorem ggX10_greatestShare_X4_placeOf : GoodIn wsX10_greatestShare wsX4_placeOf := goodIn_r _ [17, 18, 19, 20, 46, 47, 48, 49] (by decide +kernel) (by decide +kernel)
set_option maxRecDepth 20000 in
theorem gX10_greatestShare_X4_placeOf : GoodIn wsX10_greatestShare (wsV RX10 55 RX4 yX4_placeOf wsX4_placeOf) := goodIn_app (goodIn_of _ (by decide +kernel)) ggX10_greatestShare_X4_placeOf
set_option maxRecDepth 20000 in
theorem ggX1_pickRound_X1_isPicked : GoodIn wsX1_pickRound wsX1_isPicked := goodIn_r _ [10, 2, 33, 34, 35, 36, 37, 38, 39, 40, 41] (by decide +kernel) (by decide +kernel)
set_option maxRecDepth 20000 in
theorem gX1_pickRound_X1_isPicked : GoodIn wsX1_pickRound (wsV RX1 70 RX1 yX1_isPicked wsX1_isPicked) := goodIn_app (goodIn_of _ (by decide +kernel)) ggX1_pickRound_X1_isPicked
set_option maxRecDepth 20000 in
theorem ggX3_readPart_X3_heldWithin : GoodIn wsX3_readPart wsX3_heldWithin := goodIn_r _ [42, 43, 44, 45, 46, 47, 48, 49] (by decide +kernel) (by decide +kernel)
set_option maxRecDepth 20000 in
theorem gX3_readPart_X3_heldWithin : GoodIn wsX3_readPart (va_wsS RX3 91 yX3_heldWithin wsX3_heldWithin) := goodIn_app (goodIn_of _ (by decide +kernel)) ggX3_readPart_X3_heldWithin
set_option maxRecDepth 20000 in
theorem ggX3_look_J6_bitCount_0f7a4 : GoodIn wsX3_look wsJ6_bitCount_0f7a4 := goodIn_r _ [15, 16, 17, 18] (by decide +kernel) (by decide +kernel)
set_option maxRecDepth 20000 in
theorem gX3_look_J6_bitCount_0f7a4 : GoodIn wsX3_look (va_wsS RX3 67 yJ6_bitCount_0f7a4 wsJ6_bitCount_0f7a4) := goodIn_app (goodIn_of _ (by decide +kernel)) ggX3_look_J6_bitCount_0f7a4
set_option maxRecDepth 20000 in
theorem ggX3_readPart_X3_sign : GoodIn wsX3_readPart wsX3_sign := goodIn_r _ [10, 1, 11, 12, 54, 55, 56, 57, 58, 59, 60, 61] (by decide +kernel) (by decide +kernel)
set_option maxRecDepth 20000 in
theorem gX3_readPart_X3_sign : GoodIn wsX3_readPart (wsV RX3 62 RX3 yX3_sign wsX3_sign) := goodIn_app (goodIn_of _ (by decide +kernel)) ggX3_readPart_X3_sign
set_option maxRecDepth 20000 in
theorem ggX6_mendAll_X2_isUp : GoodIn wsX6_mendAll wsX2_isUp := goodIn_r _ [107, 108, 109, 168, 169, 170, 171, 172, 173] (by decide +kernel) (by decide +kernel)
set_option maxRecDepth 20000 in
theorem gX6_mendAll_X2_isUp : GoodIn wsX6_mendAll (wsV RX6 117 RX2 yX2_isUp wsX2_isUp) := goodIn_app (goodIn_of _ (by decide +kernel)) ggX6_mendAll_X2_isUp
set_option maxRecDepth 20000 in
theorem ggX12_movesFrom_X12_aboveOf : GoodIn wsX12_movesFrom wsX12_aboveOf := goodIn_r _ [19] (by decide +kernel) (by decide +kernel)
set_option maxRecDepth 20000 in
theorem gX12_movesFrom_X12_aboveOf : GoodIn wsX12_movesFrom (va_wsS RX12 343 yX12_aboveOf wsX12_aboveOf) := goodIn_app (goodIn_of _ (by decide +kernel)) ggX12_movesFrom_X12_aboveOf
set_option maxRecDepth 20000 in
theorem ggX3_readNumber_X3_isDigit : GoodIn wsX3_readNumber wsX3_isDigit := goodIn_r _ [11] (by decide +kernel) (by decide +kernel)
set_option maxRecDepth 20000 in
theorem gX3_readNumber_X3_isDigit : GoodIn wsX3_readNumber (va_wsS RX3 106 yX3_isDigit wsX3_isDigit) := goodIn_app (goodIn_of _ (by decide +kernel)) ggX3_readNumber_X3_isDigit
set_option maxRecDepth 20000 in
theorem ggX11_picked_X11_isPlace : GoodIn wsX11_picked wsX11_isPlace := goodIn_r _ [13] (by decide +kernel) (by decide +kernel)
set_option maxRecDepth 20000 in
theorem gX11_picked_X11_isPlace : GoodIn wsX11_picked (va_wsS RX11 215 yX11_isPlace wsX11_isPlace) := goodIn_app (goodIn_of _ (by decide +kernel)) ggX11_picked_X11_isPlace
set_option maxRecDepth 20000 in
theorem ggX11_half_X2_has : GoodIn wsX11_half wsX2_has := goodIn_r _ [15, 16, 65, 66, 67, 68, 69, 70] (by decide +kernel) (by decide +kernel)
set_option maxRecDepth 20000 in
theorem gX11_half_X2_has : GoodIn wsX11_half (wsV RX11 137 RX2 yX2_has wsX2_has) := goodIn_app (goodIn_of _ (by decide +kernel)) ggX11_half_X2_has
set_option maxRecDepth 20000 in
theorem ggX12_sits_X12_mixed : GoodIn wsX12_sits wsX12_mixed := goodIn_r _ [14, 15, 16] (by decide +kernel) (by decide +kernel)
set_option maxRecDepth 20000 in
theorem gX12_sits_X12_mixed : GoodIn wsX12_sits (va_wsS RX12 227 yX12_mixed wsX12_mixed) := goodIn_app (goodIn_of _ (by decide +kernel)) ggX12_sits_X12_mixed
set_option maxRecDepth 20000 in
theorem ggX12_barred_X12_in : GoodIn wsX12_barred wsX12_in := goodIn_r _ [10] (by decide +kernel) (by decide +kernel)
set_option maxRecDepth 20000 in
theorem gX12_barred_X12_in : GoodIn wsX12_barred (va_wsS RX12 136 yX12_in wsX12_in) := goodIn_app (goodIn_of _ (by decide +kernel)) ggX12_barred_X12_in
set_option maxRecDepth 20000 in
theorem ggX12_moves_X12_in : GoodIn wsX12_moves wsX12_in := goodIn_r _ [12] (by decide +kernel) (by decide +kernel)
set_option maxRecDepth 20000 in
theorem gX12_moves_X12_in : GoodIn wsX12_moves (va_wsS RX12 136 yX12_in wsX12_in) := goodIn_app (goodIn_of _ (by decide +kernel)) ggX12_moves_X12_in
set_option maxRecDepth 20000 in
theorem ggX8_sumOf_X11_strewn : GoodIn wsX8_sumOf wsX11_strewn := goodIn_r _ [6, 7] (by decide +kernel) (by decide +kernel)
set_option maxRecDepth 20000 in
theorem gX8_sumOf_X11_strewn_n87 : GoodIn wsX8_sumOf (wsX11_strewn) := ggX8_sumOf_X11_strewn
