set_option maxRecDepth 20000 in
theorem ggX12_harm_X12_tries : GoodIn wsX12_harm wsX12_tries := goodIn_r _ [18, 2, 19, 20, 21, 4, 22, 23, 24, 25, 26, 27, 9, 28, 29, 30, 31, 32, 33, 34, 35, 36, 37, 38, 39, 40, 41, 42, 43, 44, 45, 46, 47, 48, 49, 50, 51, 52, 53, 54, 55, 56, 57, 58, 59, 60, 61, 12, 13, 14, 62, 63, 64, 65, 66, 67, 68, 69, 70, 71, 72, 73, 74, 75, 76, 77, 78, 79, 80, 81, 82, 83, 84, 85, 86, 87, 114, 115, 116, 117, 118, 119, 120, 121, 122, 123, 124, 125, 126, 127, 128, 129, 130, 131, 132, 133, 134, 135, 136, 137, 138, 139, 140, 141, 142, 143, 144, 145, 146, 147, 148, 149, 150, 151, 152, 153, 154, 155, 156, 157, 158, 159, 160, 161, 162, 163, 164, 165, 166, 167, 168, 169, 170, 171, 172] (by decide +kernel) (by decide +kernel)
set_option maxRecDepth 20000 in
theorem gX12_harm_X12_tries : GoodIn wsX12_harm (wsV RX12 319 RX12 yX12_tries wsX12_tries) := goodIn_app (goodIn_of _ (by decide +kernel)) ggX12_harm_X12_tries
set_option maxRecDepth 20000 in
theorem ggX12_keeperOf_X12_chooseName : GoodIn wsX12_keeperOf wsX12_chooseName := goodIn_r _ [20, 21, 22, 23, 24, 6, 25, 26, 27, 28, 29, 30, 31, 32, 1, 33, 34, 35, 36, 2, 37, 38, 39, 40, 41, 42, 43, 44, 45, 46, 47, 48, 49, 50, 51, 52, 53, 54, 55, 56, 57, 58, 59, 60, 61, 62, 63, 64, 65, 66, 67, 68, 69, 70, 71, 72, 73, 74, 75, 76, 77, 78, 79, 80, 81, 82, 83, 84, 85, 86, 87, 88, 89, 90, 91, 92, 93, 94, 95, 96, 97, 98, 99, 100, 101, 102, 103, 104, 105, 106, 107, 108, 109, 110, 111, 112, 113, 114, 115, 116, 117, 118, 119, 120, 121, 122, 123, 124, 125, 126, 127, 128, 129, 130] (by decide +kernel) (by decide +kernel)
set_option maxRecDepth 20000 in
theorem gX12_keeperOf_X12_chooseName : GoodIn wsX12_keeperOf (wsV RX12 269 RX12 yX12_chooseName wsX12_chooseName) := goodIn_app (goodIn_of _ (by decide +kernel)) ggX12_keeperOf_X12_chooseName
set_option maxRecDepth 20000 in
theorem ggX5_seatSet_X3_workOut : GoodIn wsX5_seatSet wsX3_workOut := goodIn_r _ [51, 52, 53, 54, 55, 56, 57, 58, 59, 60, 61, 62, 63, 50, 64, 65, 66, 67, 68, 69, 70, 71, 38, 35, 39, 72, 73, 74, 75, 76, 77, 78, 79, 80, 81, 82, 83, 84, 85, 86, 87, 88, 89, 90, 91, 92, 93, 94, 95, 96, 97, 98, 99, 100, 101, 102, 103, 104, 105, 106, 107, 108, 109, 110, 111, 112, 113, 114, 34, 36, 115, 116, 117, 118, 228, 229, 230, 231, 232, 233, 234, 235, 236, 237, 238, 239, 240, 260, 261, 262, 263, 264, 265, 266, 267, 254, 255, 256, 257, 258, 259] (by decide +kernel) (by decide +kernel)
set_option maxRecDepth 20000 in
theorem gX5_seatSet_X3_workOut : GoodIn wsX5_seatSet (wsV RX5 78 RX3 yX3_workOut wsX3_workOut) := goodIn_app (goodIn_of _ (by decide +kernel)) ggX5_seatSet_X3_workOut
set_option maxRecDepth 20000 in
theorem ggX11_moves_X1_choose : GoodIn wsX11_moves wsX1_choose := goodIn_r _ [32, 33, 34, 35, 36, 37, 38, 39, 40, 41, 42, 43, 44, 45, 46, 47, 48, 31, 49, 50, 51, 52, 53, 54, 55, 56, 57, 58, 59, 60, 16, 61, 62, 63, 19, 64, 9, 65, 66, 67, 68, 69, 70, 71, 72, 73, 74, 75, 76, 77, 78, 79, 80, 81, 82, 83, 84, 85, 86, 87, 88, 89, 90, 91, 92, 93, 94, 95, 96, 97, 98, 99, 100, 138, 139, 140, 141, 142, 143, 144, 145, 146, 125, 126, 127, 128, 129, 130, 131, 132, 133, 134, 135, 136, 137, 147, 148, 149, 150, 151, 152] (by decide +kernel) (by decide +kernel)
set_option maxRecDepth 20000 in
theorem gX11_moves_X1_choose : GoodIn wsX11_moves (wsV RX11 234 RX1 yX1_choose wsX1_choose) := goodIn_app (goodIn_of _ (by decide +kernel)) ggX11_moves_X1_choose
set_option maxRecDepth 20000 in
theorem ggX12_order_X12_movesBy : GoodIn wsX12_order wsX12_movesBy := goodIn_r _ [142, 1, 5, 3, 4, 17, 18, 19, 11, 20, 21, 22, 143, 144, 145, 150, 151, 152, 153, 154, 155, 156, 157, 158, 159, 160, 161, 162, 163, 164, 165, 166, 167, 168, 169, 170, 171, 172, 173, 174, 175, 176, 177, 178, 179, 180, 181, 182, 183, 184, 185, 186, 187, 188, 189, 190, 191, 192, 193, 194, 195, 196, 197, 198, 199, 200, 201, 202, 203, 204, 205, 206, 207, 208] (by decide +kernel) (by decide +kernel)
set_option maxRecDepth 20000 in
theorem gX12_order_X12_movesBy : GoodIn wsX12_order (wsV RX12 322 RX12 yX12_movesBy wsX12_movesBy) := goodIn_app (goodIn_of _ (by decide +kernel)) ggX12_order_X12_movesBy
set_option maxRecDepth 20000 in
theorem ggX12_tellsFrom_X12_movesFrom : GoodIn wsX12_tellsFrom wsX12_movesFrom := goodIn_r _ [24, 1, 2, 3, 4, 5, 6, 7, 8, 21, 22, 23, 13, 14, 15, 16, 17, 18, 19, 20, 28, 29, 30, 31, 32, 33, 34, 35, 36, 37, 38, 39, 40, 41, 42, 43, 44, 45, 46, 47, 48, 49, 50, 51, 52, 53, 54, 55, 56, 57, 58, 59, 60, 61, 62, 63, 64, 65, 66, 67, 68, 69, 70, 71, 72, 73, 74, 75, 76, 77, 78, 79, 80, 81, 82, 83, 84, 85, 86] (by decide +kernel) (by decide +kernel)
set_option maxRecDepth 20000 in
theorem gX12_tellsFrom_X12_movesFrom : GoodIn wsX12_tellsFrom (wsV RX12 349 RX12 yX12_movesFrom wsX12_movesFrom) := goodIn_app (goodIn_of _ (by decide +kernel)) ggX12_tellsFrom_X12_movesFrom
set_option maxRecDepth 20000 in
theorem ggX12_picked_X12_pick : GoodIn wsX12_picked wsX12_pick := goodIn_r _ [15, 1, 16, 17, 2, 18, 19, 20, 6, 21, 22, 23, 24, 25, 26, 27, 28, 29, 30, 31, 32, 33, 34, 35, 36, 37, 38, 39, 40, 41, 42, 43, 44, 45, 46, 47, 48, 49, 50, 51, 52, 53, 54, 55, 56, 57, 58, 59, 60, 61, 62, 63, 64, 65, 66, 67, 68, 69, 70, 71, 72, 73, 74, 75, 76, 77, 78, 79, 80, 81, 82, 83, 84, 85, 86, 87, 88, 89, 90, 91, 92, 93, 94, 95, 96, 97] (by decide +kernel) (by decide +kernel)
set_option maxRecDepth 20000 in
theorem gX12_picked_X12_pick : GoodIn wsX12_picked (wsV RX12 253 RX12 yX12_pick wsX12_pick) := goodIn_app (goodIn_of _ (by decide +kernel)) ggX12_picked_X12_pick
set_option maxRecDepth 20000 in
theorem ggX12_findsFrom_X12_findsFrom : GoodIn wsX12_findsFrom wsX12_findsFrom := goodIn_r _ [0, 1, 2, 3, 4, 5, 6, 7, 8, 9, 10, 11, 12, 13, 14, 15, 16, 17, 18, 19, 20, 21, 22, 23, 24, 25, 26, 27, 28, 29, 30, 31, 32, 33, 34, 35, 36, 37, 38, 39, 40, 41, 42, 43, 44, 45, 46, 47, 48, 49, 50, 51, 52, 53, 54, 55, 56, 57, 58, 59, 60, 61, 62, 63, 64, 65, 66, 67, 68, 69, 70, 71, 72, 73] (by decide +kernel) (by decide +kernel)
set_option maxRecDepth 20000 in
theorem gX12_findsFrom_X12_findsFrom : GoodIn wsX12_findsFrom (wsV RX12 340 RX12 yX12_findsFrom wsX12_findsFrom) := goodIn_app (goodIn_of _ (by decide +kernel)) ggX12_findsFrom_X12_findsFrom
set_option maxRecDepth 20000 in
theorem ggX12_mend_X12_hasRoom : GoodIn wsX12_mend wsX12_hasRoom := goodIn_r _ [78, 74, 4, 79, 80, 81, 10, 82, 83, 84, 85, 86, 87, 88, 89, 90, 91, 92, 93, 94, 95, 96, 97, 98, 99, 100, 101, 102, 103, 104, 105, 106, 107, 108, 109, 110, 111, 112, 113, 114, 115, 116, 117, 118, 119, 120, 121, 122, 123, 124, 125, 126, 127, 128, 129, 130, 131, 132, 133, 134, 135, 136, 137, 138, 139, 140, 141, 142] (by decide +kernel) (by decide +kernel)
set_option maxRecDepth 20000 in
theorem gX12_mend_X12_hasRoom : GoodIn wsX12_mend (wsV RX12 297 RX12 yX12_hasRoom wsX12_hasRoom) := goodIn_app (goodIn_of _ (by decide +kernel)) ggX12_mend_X12_hasRoom
set_option maxRecDepth 20000 in
theorem ggX12_tries_X12_countsNow : GoodIn wsX12_tries wsX12_countsNow := goodIn_r _ [17, 18, 19, 76, 77, 78, 79, 80, 81, 82, 83, 84, 85, 86, 87, 88, 89, 90, 91, 92, 93, 94, 95, 96, 97, 98, 99, 100, 101, 102, 103, 104, 105, 106, 107, 108, 109, 110, 111, 112, 113, 114, 115, 116, 117, 118, 119, 120, 121, 122, 123, 124, 125, 126, 127, 128, 129, 130, 131, 132, 133, 134] (by decide +kernel) (by decide +kernel)
set_option maxRecDepth 20000 in
theorem gX12_tries_X12_countsNow : GoodIn wsX12_tries (wsV RX12 170 RX12 yX12_countsNow wsX12_countsNow) := goodIn_app (goodIn_of _ (by decide +kernel)) ggX12_tries_X12_countsNow
set_option maxRecDepth 20000 in
theorem ggX12_trees_X12_areUnlike : GoodIn wsX12_trees wsX12_areUnlike := goodIn_r _ [17, 18, 19, 20, 4, 21, 22, 23, 24, 25, 26, 27, 28, 29, 30, 31, 32, 33, 34, 35, 36, 37, 38, 39, 40, 41, 42, 43, 44, 45, 46, 47, 48, 49, 50, 51, 52, 53, 54, 55, 56, 57, 58, 59, 60, 61, 62, 63, 64, 65, 66, 67, 68, 69, 70, 71, 72, 73, 74, 75, 76, 77, 78, 79, 80, 81, 82] (by decide +kernel) (by decide +kernel)
set_option maxRecDepth 20000 in
theorem gX12_trees_X12_areUnlike : GoodIn wsX12_trees (wsV RX12 303 RX12 yX12_areUnlike wsX12_areUnlike) := goodIn_app (goodIn_of _ (by decide +kernel)) ggX12_trees_X12_areUnlike
set_option maxRecDepth 20000 in
theorem ggX12_number_X12_numberOf : GoodIn wsX12_number wsX12_numberOf := goodIn_r _ [13, 14, 15, 16, 17, 18, 19, 20, 21, 22, 23, 24, 25, 26, 27, 28, 29, 30, 31, 32, 33, 34, 35, 36, 37, 38, 39, 40, 41, 42, 43, 44, 45, 46, 47, 48, 49, 50, 51, 52, 53, 54, 55, 56, 57, 58, 59, 60, 61, 62, 63, 64, 65, 66, 67, 68, 69, 70, 71, 72, 73, 74, 75] (by decide +kernel) (by decide +kernel)
set_option maxRecDepth 20000 in
theorem gX12_number_X12_numberOf : GoodIn wsX12_number (wsV RX12 162 RX12 yX12_numberOf wsX12_numberOf) := goodIn_app (goodIn_of _ (by decide +kernel)) ggX12_number_X12_numberOf
set_option maxRecDepth 20000 in
theorem ggX12_keepsFrom_X12_begins : GoodIn wsX12_keepsFrom wsX12_begins := goodIn_r _ [6, 7, 8, 24, 25, 26, 27, 28, 29, 30, 31, 32, 33, 34, 35, 36, 37, 38, 39, 40, 41, 42, 43, 44, 45, 46, 47, 48, 49, 50, 51, 52, 53, 54, 55, 56, 57, 58, 59, 60, 61, 62, 63, 64, 65, 66, 67, 68, 69, 70, 71, 72, 73, 74, 75, 76, 77, 78, 79, 80, 81, 82] (by decide +kernel) (by decide +kernel)
set_option maxRecDepth 20000 in
theorem gX12_keepsFrom_X12_begins : GoodIn wsX12_keepsFrom (wsV RX12 337 RX12 yX12_begins wsX12_begins) := goodIn_app (goodIn_of _ (by decide +kernel)) ggX12_keepsFrom_X12_begins
set_option maxRecDepth 20000 in
theorem ggX12_one_X12_eats : GoodIn wsX12_one wsX12_eats := goodIn_r _ [25, 1, 2, 8, 9, 10, 11, 12, 13, 14, 15, 34, 35, 36, 37, 38, 39, 40, 41, 42, 43, 44, 45, 46, 47, 48, 49, 50, 51, 52, 53, 54, 55, 56, 57, 58, 59, 60, 61, 62, 63, 64, 65, 66, 67, 68, 69, 70, 71, 72, 73, 74, 75, 76, 77, 78, 79, 80, 81, 82, 83, 84, 85, 86, 87, 88, 89, 90, 91, 92] (by decide +kernel) (by decide +kernel)
set_option maxRecDepth 20000 in
theorem gX12_one_X12_eats : GoodIn wsX12_one (wsV RX12 203 RX12 yX12_eats wsX12_eats) := goodIn_app (goodIn_of _ (by decide +kernel)) ggX12_one_X12_eats
set_option maxRecDepth 20000 in
theorem ggX12_names_X12_found : GoodIn wsX12_names wsX12_found := goodIn_r _ [17, 6, 18, 19, 5, 24, 25, 26, 27, 28, 29, 30, 31, 32, 33, 34, 35, 36, 37, 38, 39, 40, 41, 42, 43, 44, 45, 46, 47, 48, 49, 50, 51, 52, 53, 54, 55, 56, 57, 58, 59, 60, 61, 62, 63, 64, 65, 66, 67, 68, 69, 70, 71, 72, 73, 74, 75, 76, 77, 78, 79, 80, 81, 82] (by decide +kernel) (by decide +kernel)
set_option maxRecDepth 20000 in
theorem gX12_names_X12_found : GoodIn wsX12_names (wsV RX12 149 RX12 yX12_found wsX12_found) := goodIn_app (goodIn_of _ (by decide +kernel)) ggX12_names_X12_found
set_option maxRecDepth 20000 in
theorem ggX12_one_X12_here : GoodIn wsX12_one wsX12_here := goodIn_r _ [12, 2, 13, 14, 15, 34, 35, 36, 37, 38, 39, 40, 41, 42, 43, 44, 45, 46, 47, 48, 49, 50, 51, 52, 53, 54, 55, 56, 57, 58, 59, 60, 61, 62, 63, 64, 65, 66, 67, 68, 69, 70, 71, 72, 73, 74, 75, 76, 77, 78, 79, 80, 81, 82, 83, 84, 85, 86, 87, 88, 89, 90, 91, 92] (by decide +kernel) (by decide +kernel)
set_option maxRecDepth 20000 in
theorem gX12_one_X12_here : GoodIn wsX12_one (wsV RX12 187 RX12 yX12_here wsX12_here) := goodIn_app (goodIn_of _ (by decide +kernel)) ggX12_one_X12_here
set_option maxRecDepth 20000 in
theorem ggX6_mendAll_X6_receives : GoodIn wsX6_mendAll wsX6_receives := goodIn_r _ [113, 114, 115, 116, 11, 117, 7, 118, 15, 119, 120, 121, 122, 123, 124, 125, 126, 127, 128, 129, 130, 131, 132, 133, 134, 135, 136, 137, 138, 139, 140, 141, 168, 169, 170, 171, 172, 173] (by decide +kernel) (by decide +kernel)
set_option maxRecDepth 20000 in
theorem gX6_mendAll_X6_receives : GoodIn wsX6_mendAll (wsV RX6 93 RX6 yX6_receives wsX6_receives) := goodIn_app (goodIn_of _ (by decide +kernel)) ggX6_mendAll_X6_receives
set_option maxRecDepth 20000 in
theorem ggX10_leastHarm_X8_seatAll : GoodIn wsX10_leastHarm wsX8_seatAll := goodIn_r _ [34, 35, 36, 37, 38, 10, 39, 40, 41, 42, 43, 44, 45, 46, 47, 48, 49, 50, 7, 51, 52, 53, 54, 55, 56, 57, 58, 93, 94, 95, 96, 97, 98, 99, 100, 101, 102, 103, 104, 105] (by decide +kernel) (by decide +kernel)
set_option maxRecDepth 20000 in
theorem gX10_leastHarm_X8_seatAll : GoodIn wsX10_leastHarm (wsV RX10 35 RX8 yX8_seatAll wsX8_seatAll) := goodIn_app (goodIn_of _ (by decide +kernel)) ggX10_leastHarm_X8_seatAll
set_option maxRecDepth 20000 in
theorem ggX10_greatestShare_X8_firstFor : GoodIn wsX10_greatestShare wsX8_firstFor := goodIn_r _ [25, 26, 27, 28, 29, 30, 31, 32, 24, 33, 34, 35, 36, 37, 38, 39, 40, 50, 51, 52, 53, 54, 55, 56, 57, 58, 59, 60, 61, 62] (by decide +kernel) (by decide +kernel)
set_option maxRecDepth 20000 in
theorem gX10_greatestShare_X8_firstFor : GoodIn wsX10_greatestShare (wsV RX10 59 RX8 yX8_firstFor wsX8_firstFor) := goodIn_app (goodIn_of _ (by decide +kernel)) ggX10_greatestShare_X8_firstFor
set_option maxRecDepth 20000 in
theorem ggX0_tellsFrom_X0_tellsFrom : GoodIn wsX0_tellsFrom wsX0_tellsFrom := goodIn_r _ [0, 1, 2, 3, 4, 5, 6, 7, 8, 9, 10, 11, 12, 13, 14, 15, 16, 17, 18, 19, 20, 21, 22, 23, 24, 25, 26, 27, 28, 29, 30] (by decide +kernel) (by decide +kernel)
set_option maxRecDepth 20000 in
theorem gX0_tellsFrom_X0_tellsFrom : GoodIn wsX0_tellsFrom (wsV RX0 38 RX0 yX0_tellsFrom wsX0_tellsFrom) := goodIn_app (goodIn_of _ (by decide +kernel)) ggX0_tellsFrom_X0_tellsFrom
set_option maxRecDepth 20000 in
theorem ggX5_walk_X5_nextOf : GoodIn wsX5_walk wsX5_nextOf := goodIn_r _ [8, 2, 9, 10, 11, 12, 7, 13, 14, 15, 16, 17, 18, 19, 20, 21, 22, 23, 24, 25, 26, 27, 28, 29, 30, 31, 32, 33, 34, 35, 36, 37] (by decide +kernel) (by decide +kernel)
set_option maxRecDepth 20000 in
theorem gX5_walk_X5_nextOf : GoodIn wsX5_walk (wsV RX5 116 RX5 yX5_nextOf wsX5_nextOf) := goodIn_app (goodIn_of _ (by decide +kernel)) ggX5_walk_X5_nextOf
set_option maxRecDepth 20000 in
theorem ggX6_receives_X6_takesGreater : GoodIn wsX6_receives wsX6_takesGreater := goodIn_r _ [19, 8, 20, 21, 22, 23, 24, 25, 26, 27, 28, 29, 30, 31] (by decide +kernel) (by decide +kernel)
set_option maxRecDepth 20000 in
theorem gX6_receives_X6_takesGreater : GoodIn wsX6_receives (wsV RX6 100 RX6 yX6_takesGreater wsX6_takesGreater) := goodIn_app (goodIn_of _ (by decide +kernel)) ggX6_receives_X6_takesGreater
set_option maxRecDepth 20000 in
theorem ggX6_allCopies_X6_copiesOn : GoodIn wsX6_allCopies wsX6_copiesOn := goodIn_r _ [7, 8, 9, 10, 6, 11, 12, 13, 14, 15, 16, 17, 18, 19, 20, 21, 22, 23] (by decide +kernel) (by decide +kernel)
set_option maxRecDepth 20000 in
theorem gX6_allCopies_X6_copiesOn : GoodIn wsX6_allCopies (wsV RX6 103 RX6 yX6_copiesOn wsX6_copiesOn) := goodIn_app (goodIn_of _ (by decide +kernel)) ggX6_allCopies_X6_copiesOn
set_option maxRecDepth 20000 in
theorem ggX8_firstFor_X8_sumOf : GoodIn wsX8_firstFor wsX8_sumOf := goodIn_r _ [9, 10, 11, 12, 13, 14, 15, 16, 17, 18, 19, 20, 21, 22, 23, 24, 25, 26, 27, 28, 29] (by decide +kernel) (by decide +kernel)
set_option maxRecDepth 20000 in
theorem gX8_firstFor_X8_sumOf : GoodIn wsX8_firstFor (wsV RX8 99 RX8 yX8_sumOf wsX8_sumOf) := goodIn_app (goodIn_of _ (by decide +kernel)) ggX8_firstFor_X8_sumOf
set_option maxRecDepth 20000 in
theorem ggX1_pickRound_X1_takePick : GoodIn wsX1_pickRound wsX1_takePick := goodIn_r _ [14, 15, 16, 2, 33, 34, 35, 36, 37, 38, 39, 40, 41] (by decide +kernel) (by decide +kernel)
set_option maxRecDepth 20000 in
theorem gX1_pickRound_X1_takePick : GoodIn wsX1_pickRound (wsV RX1 74 RX1 yX1_takePick wsX1_takePick) := goodIn_app (goodIn_of _ (by decide +kernel)) ggX1_pickRound_X1_takePick
set_option maxRecDepth 20000 in
theorem ggX8_takeMembers_X2_counting : GoodIn wsX8_takeMembers wsX2_counting := goodIn_r _ [7, 8, 9, 23, 24, 25, 26, 27, 28] (by decide +kernel) (by decide +kernel)
set_option maxRecDepth 20000 in
theorem gX8_takeMembers_X2_counting : GoodIn wsX8_takeMembers (wsV RX8 55 RX2 yX2_counting wsX2_counting) := goodIn_app (goodIn_of _ (by decide +kernel)) ggX8_takeMembers_X2_counting
set_option maxRecDepth 20000 in
theorem ggX11_ofKeeper_X2_counting : GoodIn wsX11_ofKeeper wsX2_counting := goodIn_r _ [18, 19, 20, 48, 49, 50, 51, 52, 53] (by decide +kernel) (by decide +kernel)
set_option maxRecDepth 20000 in
theorem gX11_ofKeeper_X2_counting : GoodIn wsX11_ofKeeper (wsV RX11 156 RX2 yX2_counting wsX2_counting) := goodIn_app (goodIn_of _ (by decide +kernel)) ggX11_ofKeeper_X2_counting
set_option maxRecDepth 20000 in
theorem ggX3_readNumber_X3_sign : GoodIn wsX3_readNumber wsX3_sign := goodIn_r _ [6, 1, 7, 8, 12, 13, 14, 15, 16, 17, 18, 19] (by decide +kernel) (by decide +kernel)
set_option maxRecDepth 20000 in
theorem gX3_readNumber_X3_sign : GoodIn wsX3_readNumber (wsV RX3 62 RX3 yX3_sign wsX3_sign) := goodIn_app (goodIn_of _ (by decide +kernel)) ggX3_readNumber_X3_sign
set_option maxRecDepth 20000 in
theorem ggX11_number_X4_placeOf : GoodIn wsX11_number wsX4_placeOf := goodIn_r _ [11, 12, 13, 14, 28, 29, 30, 31] (by decide +kernel) (by decide +kernel)
set_option maxRecDepth 20000 in
theorem gX11_number_X4_placeOf : GoodIn wsX11_number (wsV RX11 127 RX4 yX4_placeOf wsX4_placeOf) := goodIn_app (goodIn_of _ (by decide +kernel)) ggX11_number_X4_placeOf
set_option maxRecDepth 20000 in
theorem ggX0_findsFrom_X0_begin : GoodIn wsX0_findsFrom wsX0_begin := goodIn_r _ [7, 8, 9, 13, 14, 15, 16, 17] (by decide +kernel) (by decide +kernel)
set_option maxRecDepth 20000 in
theorem gX0_findsFrom_X0_begin : GoodIn wsX0_findsFrom (wsV RX0 41 RX0 yX0_begin wsX0_begin) := goodIn_app (goodIn_of _ (by decide +kernel)) ggX0_findsFrom_X0_begin
set_option maxRecDepth 20000 in
theorem ggX3_readWay_X3_sign : GoodIn wsX3_readWay wsX3_sign := goodIn_r _ [7, 1, 8, 9, 10, 11, 12, 13, 14, 15, 16, 17] (by decide +kernel) (by decide +kernel)
set_option maxRecDepth 20000 in
theorem gX3_readWay_X3_sign : GoodIn wsX3_readWay (wsV RX3 62 RX3 yX3_sign wsX3_sign) := goodIn_app (goodIn_of _ (by decide +kernel)) ggX3_readWay_X3_sign
set_option maxRecDepth 20000 in
theorem ggX7_refusalAt_X7_isRow : GoodIn wsX7_refusalAt wsX7_isRow := goodIn_r _ [12, 7, 13, 14, 15, 16] (by decide +kernel) (by decide +kernel)
set_option maxRecDepth 20000 in
theorem gX7_refusalAt_X7_isRow : GoodIn wsX7_refusalAt (wsV RX7 39 RX7 yX7_isRow wsX7_isRow) := goodIn_app (goodIn_of _ (by decide +kernel)) ggX7_refusalAt_X7_isRow
set_option maxRecDepth 20000 in
theorem ggX11_shift_X7_isRow : GoodIn wsX11_shift wsX7_isRow := goodIn_r _ [22, 17, 41, 42, 43, 44] (by decide +kernel) (by decide +kernel)
set_option maxRecDepth 20000 in
theorem gX11_shift_X7_isRow : GoodIn wsX11_shift (wsV RX11 385 RX7 yX7_isRow wsX7_isRow) := goodIn_app (goodIn_of _ (by decide +kernel)) ggX11_shift_X7_isRow
set_option maxRecDepth 20000 in
theorem ggX6_copiesOn_X6_filled : GoodIn wsX6_copiesOn wsX6_filled := goodIn_r _ [5] (by decide +kernel) (by decide +kernel)
set_option maxRecDepth 20000 in
theorem gX6_copiesOn_X6_filled : GoodIn wsX6_copiesOn (va_wsS RX6 141 yX6_filled wsX6_filled) := goodIn_app (goodIn_of _ (by decide +kernel)) ggX6_copiesOn_X6_filled
set_option maxRecDepth 20000 in
theorem ggX11_lies_X11_upward : GoodIn wsX11_lies wsX11_upward := goodIn_r _ [16] (by decide +kernel) (by decide +kernel)
set_option maxRecDepth 20000 in
theorem gX11_lies_X11_upward : GoodIn wsX11_lies (va_wsS RX11 309 yX11_upward wsX11_upward) := goodIn_app (goodIn_of _ (by decide +kernel)) ggX11_lies_X11_upward
set_option maxRecDepth 20000 in
theorem ggX12_become_X12_in : GoodIn wsX12_become wsX12_in := goodIn_r _ [13] (by decide +kernel) (by decide +kernel)
set_option maxRecDepth 20000 in
theorem gX12_become_X12_in : GoodIn wsX12_become (va_wsS RX12 136 yX12_in wsX12_in) := goodIn_app (goodIn_of _ (by decide +kernel)) ggX12_become_X12_in
set_option maxRecDepth 20000 in
theorem ggX12_reads_X12_in : GoodIn wsX12_reads wsX12_in := goodIn_r _ [21] (by decide +kernel) (by decide +kernel)
set_option maxRecDepth 20000 in
theorem gX12_reads_X12_in : GoodIn wsX12_reads (va_wsS RX12 136 yX12_in wsX12_in) := goodIn_app (goodIn_of _ (by decide +kernel)) ggX12_reads_X12_in
set_option maxRecDepth 20000 in
theorem ggX12_act_X12_in : GoodIn wsX12_act wsX12_in := goodIn_r _ [11] (by decide +kernel) (by decide +kernel)
set_option maxRecDepth 20000 in
theorem gX12_act_X12_in : GoodIn wsX12_act (va_wsS RX12 136 yX12_in wsX12_in) := goodIn_app (goodIn_of _ (by decide +kernel)) ggX12_act_X12_in
