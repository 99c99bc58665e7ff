set_option maxRecDepth 20000 in
theorem ggX11_write_X6_spread : GoodIn wsX11_write wsX6_spread := goodIn_r _ [34, 35, 36, 37, 38, 39, 40, 41, 42, 43, 44, 14, 45, 46, 47, 48, 49, 50, 51, 52, 53, 54, 55, 56, 57, 58, 59, 60, 61, 62, 63, 64, 65, 66, 67, 68, 69, 70, 71, 72, 73, 74, 75, 76, 77, 78, 79, 80, 81, 82, 83, 84, 85, 86, 87, 20, 88, 89, 90, 91, 92, 93, 94, 95, 96, 97, 98, 99, 100, 101, 102, 103, 104, 105, 106, 107, 108, 109, 110, 111, 112, 113, 114, 115, 116, 117, 118, 119, 120, 121, 122, 123, 124, 125, 126, 33, 127, 128, 129, 130, 131, 132, 133, 134, 135, 136, 137, 138, 139, 140, 25, 26, 8, 27, 28, 29, 141, 142, 143, 144, 145, 146, 147, 148, 149, 150, 151, 152, 153, 154, 155, 156, 157, 158, 159, 160, 184, 185, 186, 187, 188, 189, 190, 191, 192, 193, 194, 195, 196, 197, 198, 199, 200, 201, 202, 203, 204, 205, 206, 207, 208, 209, 210, 211, 212, 213, 214, 215, 216, 217, 180, 181, 182, 183, 174, 175, 176, 177, 178, 179] (by decide +kernel) (by decide +kernel)
set_option maxRecDepth 20000 in
theorem gX11_write_X6_spread : GoodIn wsX11_write (wsV RX11 270 RX6 yX6_spread wsX6_spread) := goodIn_app (goodIn_of _ (by decide +kernel)) ggX11_write_X6_spread
set_option maxRecDepth 20000 in
theorem ggX12_read_X12_chooseName : GoodIn wsX12_read wsX12_chooseName := goodIn_r _ [28, 29, 30, 31, 32, 8, 33, 34, 35, 36, 37, 38, 39, 40, 2, 41, 42, 43, 44, 3, 45, 46, 47, 48, 49, 50, 51, 52, 53, 54, 10, 55, 56, 57, 58, 59, 60, 61, 62, 63, 64, 65, 66, 67, 68, 69, 70, 71, 72, 73, 74, 75, 76, 77, 78, 79, 80, 81, 82, 83, 84, 85, 86, 87, 88, 89, 90, 91, 92, 93, 94, 95, 96, 97, 98, 99, 100, 101, 102, 103, 104, 105, 106, 107, 108, 109, 110, 111, 112, 113, 114, 115, 116, 117, 118, 119, 120, 121, 122, 123, 124, 125, 126, 127, 128, 129, 130, 131, 132, 133, 134, 135, 136, 137] (by decide +kernel) (by decide +kernel)
set_option maxRecDepth 20000 in
theorem gX12_read_X12_chooseName : GoodIn wsX12_read (wsV RX12 269 RX12 yX12_chooseName wsX12_chooseName) := goodIn_app (goodIn_of _ (by decide +kernel)) ggX12_read_X12_chooseName
set_option maxRecDepth 20000 in
theorem ggX6_mendAll_X1_choose : GoodIn wsX6_mendAll wsX1_choose := goodIn_r _ [32, 33, 34, 35, 36, 37, 38, 39, 40, 18, 41, 42, 43, 44, 45, 46, 47, 31, 48, 49, 50, 51, 52, 53, 54, 55, 56, 57, 58, 59, 60, 61, 62, 63, 64, 65, 66, 67, 68, 69, 70, 71, 72, 73, 74, 75, 76, 77, 78, 79, 80, 81, 82, 83, 84, 85, 86, 87, 88, 89, 90, 91, 92, 93, 94, 95, 96, 97, 98, 99, 100, 101, 102, 159, 160, 161, 162, 163, 164, 165, 166, 167, 146, 147, 148, 149, 150, 151, 152, 153, 154, 155, 156, 157, 158, 168, 169, 170, 171, 172, 173] (by decide +kernel) (by decide +kernel)
set_option maxRecDepth 20000 in
theorem gX6_mendAll_X1_choose : GoodIn wsX6_mendAll (wsV RX6 65 RX1 yX1_choose wsX1_choose) := goodIn_app (goodIn_of _ (by decide +kernel)) ggX6_mendAll_X1_choose
set_option maxRecDepth 20000 in
theorem ggX12_ofTable_X12_even : GoodIn wsX12_ofTable wsX12_even := goodIn_r _ [18, 19, 20, 21, 22, 23, 9, 24, 25, 26, 27, 28, 29, 30, 1, 5, 31, 32, 33, 34, 35, 36, 37, 38, 39, 40, 41, 42, 43, 44, 45, 46, 47, 48, 49, 50, 51, 52, 53, 54, 55, 56, 57, 58, 59, 60, 61, 62, 63, 64, 65, 66, 67, 68, 69, 70, 71, 72, 73, 74, 75, 76, 77, 78, 79, 80, 81, 82, 83, 84, 85, 86, 87, 88, 89, 90, 91, 92, 93, 94, 95, 96, 97, 98, 99, 100, 101, 102, 103, 104, 105, 106, 107, 108, 109] (by decide +kernel) (by decide +kernel)
set_option maxRecDepth 20000 in
theorem gX12_ofTable_X12_even : GoodIn wsX12_ofTable (wsV RX12 278 RX12 yX12_even wsX12_even) := goodIn_app (goodIn_of _ (by decide +kernel)) ggX12_ofTable_X12_even
set_option maxRecDepth 20000 in
theorem ggX12_product_X12_one : GoodIn wsX12_product wsX12_one := goodIn_r _ [14, 1, 2, 15, 16, 17, 18, 19, 7, 8, 9, 6, 10, 11, 12, 13, 20, 21, 22, 23, 24, 25, 26, 27, 28, 29, 0, 3, 4, 5, 30, 31, 32, 33, 34, 35, 36, 37, 38, 39, 40, 41, 42, 43, 44, 45, 46, 47, 48, 49, 50, 51, 52, 53, 54, 55, 56, 57, 58, 59, 60, 61, 62, 63, 64, 65, 66, 67, 68, 69, 70, 71, 72, 73, 74, 75, 76, 77, 78, 79, 80, 81, 82, 83, 84, 85, 86, 87, 88, 89, 90, 91, 92] (by decide +kernel) (by decide +kernel)
set_option maxRecDepth 20000 in
theorem gX12_product_X12_one : GoodIn wsX12_product (wsV RX12 194 RX12 yX12_one wsX12_one) := goodIn_app (goodIn_of _ (by decide +kernel)) ggX12_product_X12_one
set_option maxRecDepth 20000 in
theorem ggX12_choose_X12_pick : GoodIn wsX12_choose wsX12_pick := goodIn_r _ [11, 2, 12, 13, 4, 14, 15, 16, 10, 17, 18, 19, 20, 21, 22, 23, 24, 25, 26, 27, 28, 29, 30, 31, 32, 33, 34, 44, 45, 46, 47, 48, 49, 50, 51, 52, 53, 54, 55, 56, 57, 58, 59, 60, 61, 62, 63, 64, 65, 66, 67, 68, 69, 70, 71, 72, 73, 74, 75, 76, 77, 78, 79, 80, 81, 82, 83, 84, 85, 86, 87, 88, 89, 90, 91, 92, 93, 94, 95, 96, 97, 98, 99, 100, 101, 102] (by decide +kernel) (by decide +kernel)
set_option maxRecDepth 20000 in
theorem gX12_choose_X12_pick : GoodIn wsX12_choose (wsV RX12 253 RX12 yX12_pick wsX12_pick) := goodIn_app (goodIn_of _ (by decide +kernel)) ggX12_choose_X12_pick
set_option maxRecDepth 20000 in
theorem ggX12_tries_X12_numbers : GoodIn wsX12_tries wsX12_numbers := goodIn_r _ [23, 24, 25, 26, 27, 5, 6, 7, 9, 10, 11, 12, 13, 1, 76, 77, 78, 79, 80, 81, 82, 83, 84, 85, 86, 87, 88, 89, 90, 91, 92, 93, 94, 95, 96, 97, 98, 99, 100, 101, 102, 103, 104, 105, 106, 107, 108, 109, 110, 111, 112, 113, 114, 115, 116, 117, 118, 119, 120, 121, 122, 123, 124, 125, 126, 127, 128, 129, 130, 131, 132, 133, 134] (by decide +kernel) (by decide +kernel)
set_option maxRecDepth 20000 in
theorem gX12_tries_X12_numbers : GoodIn wsX12_tries (wsV RX12 231 RX12 yX12_numbers wsX12_numbers) := goodIn_app (goodIn_of _ (by decide +kernel)) ggX12_tries_X12_numbers
set_option maxRecDepth 20000 in
theorem ggX12_act_X12_movesFrom : GoodIn wsX12_act wsX12_movesFrom := goodIn_r _ [32, 2, 17, 18, 19, 6, 20, 1, 21, 29, 30, 31, 12, 13, 14, 15, 16, 22, 23, 24, 37, 38, 39, 40, 41, 42, 43, 44, 45, 46, 47, 48, 49, 50, 51, 52, 53, 54, 55, 56, 57, 58, 59, 60, 61, 62, 63, 64, 65, 66, 67, 68, 69, 70, 71, 72, 73, 74, 75, 76, 77, 78, 79, 80, 81, 82, 83, 84, 85, 86, 87, 88, 89, 90, 91, 92, 93, 94, 95] (by decide +kernel) (by decide +kernel)
set_option maxRecDepth 20000 in
theorem gX12_act_X12_movesFrom : GoodIn wsX12_act (wsV RX12 349 RX12 yX12_movesFrom wsX12_movesFrom) := goodIn_app (goodIn_of _ (by decide +kernel)) ggX12_act_X12_movesFrom
set_option maxRecDepth 20000 in
theorem ggX12_keeperOf_X12_isName : GoodIn wsX12_keeperOf wsX12_isName := goodIn_r _ [15, 16, 9, 10, 6, 11, 72, 73, 74, 75, 76, 77, 78, 79, 80, 81, 82, 83, 84, 85, 86, 87, 88, 89, 90, 91, 92, 93, 94, 95, 96, 97, 98, 99, 100, 101, 102, 103, 104, 105, 106, 107, 108, 109, 110, 111, 112, 113, 114, 115, 116, 117, 118, 119, 120, 121, 122, 123, 124, 125, 126, 127, 128, 129, 130] (by decide +kernel) (by decide +kernel)
set_option maxRecDepth 20000 in
theorem gX12_keeperOf_X12_isName : GoodIn wsX12_keeperOf (wsV RX12 158 RX12 yX12_isName wsX12_isName) := goodIn_app (goodIn_of _ (by decide +kernel)) ggX12_keeperOf_X12_isName
set_option maxRecDepth 20000 in
theorem ggX12_write_X12_bits : GoodIn wsX12_write wsX12_bits := goodIn_r _ [84, 4, 5, 99, 100, 101, 102, 103, 104, 105, 106, 107, 108, 109, 110, 111, 112, 113, 114, 115, 116, 117, 118, 119, 120, 121, 122, 123, 124, 125, 126, 127, 128, 129, 130, 131, 132, 133, 134, 135, 136, 137, 138, 139, 140, 141, 142, 143, 144, 145, 146, 147, 148, 149, 150, 151, 152, 153, 154, 155, 156, 157] (by decide +kernel) (by decide +kernel)
set_option maxRecDepth 20000 in
theorem gX12_write_X12_bits : GoodIn wsX12_write (wsV RX12 281 RX12 yX12_bits wsX12_bits) := goodIn_app (goodIn_of _ (by decide +kernel)) ggX12_write_X12_bits
set_option maxRecDepth 20000 in
theorem ggX12_choose_X12_streetsOf : GoodIn wsX12_choose wsX12_streetsOf := goodIn_r _ [38, 1, 39, 6, 44, 45, 46, 47, 48, 49, 50, 51, 52, 53, 54, 55, 56, 57, 58, 59, 60, 61, 62, 63, 64, 65, 66, 67, 68, 69, 70, 71, 72, 73, 74, 75, 76, 77, 78, 79, 80, 81, 82, 83, 84, 85, 86, 87, 88, 89, 90, 91, 92, 93, 94, 95, 96, 97, 98, 99, 100, 101, 102] (by decide +kernel) (by decide +kernel)
set_option maxRecDepth 20000 in
theorem gX12_choose_X12_streetsOf : GoodIn wsX12_choose (wsV RX12 257 RX12 yX12_streetsOf wsX12_streetsOf) := goodIn_app (goodIn_of _ (by decide +kernel)) ggX12_choose_X12_streetsOf
set_option maxRecDepth 20000 in
theorem ggX12_choose_X12_isChosen : GoodIn wsX12_choose wsX12_isChosen := goodIn_r _ [43, 1, 6, 44, 45, 46, 47, 48, 49, 50, 51, 52, 53, 54, 55, 56, 57, 58, 59, 60, 61, 62, 63, 64, 65, 66, 67, 68, 69, 70, 71, 72, 73, 74, 75, 76, 77, 78, 79, 80, 81, 82, 83, 84, 85, 86, 87, 88, 89, 90, 91, 92, 93, 94, 95, 96, 97, 98, 99, 100, 101, 102] (by decide +kernel) (by decide +kernel)
set_option maxRecDepth 20000 in
theorem gX12_choose_X12_isChosen : GoodIn wsX12_choose (wsV RX12 260 RX12 yX12_isChosen wsX12_isChosen) := goodIn_app (goodIn_of _ (by decide +kernel)) ggX12_choose_X12_isChosen
set_option maxRecDepth 20000 in
theorem ggX12_reads_X12_eats : GoodIn wsX12_reads wsX12_eats := goodIn_r _ [18, 4, 2, 9, 10, 11, 12, 13, 8, 1, 14, 41, 42, 43, 44, 45, 46, 47, 48, 49, 50, 51, 52, 53, 54, 55, 56, 57, 58, 59, 60, 61, 62, 63, 64, 65, 66, 67, 68, 69, 70, 71, 72, 73, 74, 75, 76, 77, 78, 79, 80, 81, 82, 83, 84, 85, 86, 87, 88, 89, 90, 91, 92, 93, 94, 95, 96, 97, 98, 99] (by decide +kernel) (by decide +kernel)
set_option maxRecDepth 20000 in
theorem gX12_reads_X12_eats : GoodIn wsX12_reads (wsV RX12 203 RX12 yX12_eats wsX12_eats) := goodIn_app (goodIn_of _ (by decide +kernel)) ggX12_reads_X12_eats
set_option maxRecDepth 20000 in
theorem ggX12_keeps_X12_isAwake : GoodIn wsX12_keeps wsX12_isAwake := goodIn_r _ [9, 10, 11, 12, 13, 14, 15, 16, 17, 18, 19, 20, 21, 22, 23, 24, 25, 26, 27, 28, 29, 30, 31, 32, 33, 34, 35, 36, 37, 38, 39, 40, 41, 42, 43, 44, 45, 46, 47, 48, 49, 50, 51, 52, 53, 54, 55, 56, 57, 58, 59, 60, 61, 62, 63, 64, 65, 66, 67, 68, 69, 70] (by decide +kernel) (by decide +kernel)
set_option maxRecDepth 20000 in
theorem gX12_keeps_X12_isAwake : GoodIn wsX12_keeps (wsV RX12 287 RX12 yX12_isAwake wsX12_isAwake) := goodIn_app (goodIn_of _ (by decide +kernel)) ggX12_keeps_X12_isAwake
set_option maxRecDepth 20000 in
theorem ggX12_reads_X12_here : GoodIn wsX12_reads wsX12_here := goodIn_r _ [13, 2, 8, 1, 14, 41, 42, 43, 44, 45, 46, 47, 48, 49, 50, 51, 52, 53, 54, 55, 56, 57, 58, 59, 60, 61, 62, 63, 64, 65, 66, 67, 68, 69, 70, 71, 72, 73, 74, 75, 76, 77, 78, 79, 80, 81, 82, 83, 84, 85, 86, 87, 88, 89, 90, 91, 92, 93, 94, 95, 96, 97, 98, 99] (by decide +kernel) (by decide +kernel)
set_option maxRecDepth 20000 in
theorem gX12_reads_X12_here : GoodIn wsX12_reads (wsV RX12 187 RX12 yX12_here wsX12_here) := goodIn_app (goodIn_of _ (by decide +kernel)) ggX12_reads_X12_here
set_option maxRecDepth 20000 in
theorem ggX1_pickByJumps_X1_pickFirstFrom : GoodIn wsX1_pickByJumps wsX1_pickFirstFrom := goodIn_r _ [7, 8, 9, 10, 11, 12, 13, 6, 14, 1, 15, 16, 17, 18, 19, 20, 21, 22, 23, 33, 34, 35, 36, 37, 38, 39, 40, 41, 42, 43, 44, 45, 24, 25, 26, 27, 28, 29, 30, 31, 32] (by decide +kernel) (by decide +kernel)
set_option maxRecDepth 20000 in
theorem gX1_pickByJumps_X1_pickFirstFrom : GoodIn wsX1_pickByJumps (wsV RX1 82 RX1 yX1_pickFirstFrom wsX1_pickFirstFrom) := goodIn_app (goodIn_of _ (by decide +kernel)) ggX1_pickByJumps_X1_pickFirstFrom
set_option maxRecDepth 20000 in
theorem ggX1_pick_X1_pickByJumps : GoodIn wsX1_pick wsX1_pickByJumps := goodIn_r _ [27, 2, 9, 28, 29, 30, 7, 31, 32, 33, 34, 35, 36, 37, 38, 39, 40, 41, 42, 1, 11, 43, 21, 44, 49, 50, 51, 52, 53, 54, 55, 56, 57, 58, 59, 60, 61, 62, 63, 64, 65, 66, 67, 68, 69, 70] (by decide +kernel) (by decide +kernel)
set_option maxRecDepth 20000 in
theorem gX1_pick_X1_pickByJumps : GoodIn wsX1_pick (wsV RX1 50 RX1 yX1_pickByJumps wsX1_pickByJumps) := goodIn_app (goodIn_of _ (by decide +kernel)) ggX1_pick_X1_pickByJumps
set_option maxRecDepth 20000 in
theorem ggX3_workOut_X3_look : GoodIn wsX3_workOut wsX3_look := goodIn_r _ [14, 15, 16, 17, 18, 19, 20, 21, 22, 23, 24, 25, 26, 27, 28, 29, 30, 31, 32, 74, 75, 76, 77, 78, 79, 80, 81, 82, 83, 84, 85, 86, 87, 88, 89, 90, 91, 92, 93, 94, 95, 96, 97, 98, 99, 100] (by decide +kernel) (by decide +kernel)
set_option maxRecDepth 20000 in
theorem gX3_workOut_X3_look : GoodIn wsX3_workOut (wsV RX3 45 RX3 yX3_look wsX3_look) := goodIn_app (goodIn_of _ (by decide +kernel)) ggX3_workOut_X3_look
set_option maxRecDepth 20000 in
theorem ggX11_become_X6_handBack : GoodIn wsX11_become wsX6_handBack := goodIn_r _ [18, 19, 20, 21, 22, 23, 24, 25, 26, 27, 17, 28, 29, 49, 50, 51, 52, 53, 54, 55, 56, 57, 58, 59, 60, 43, 44, 45, 46, 47, 48, 61, 62, 63, 64] (by decide +kernel) (by decide +kernel)
set_option maxRecDepth 20000 in
theorem gX11_become_X6_handBack : GoodIn wsX11_become (wsV RX11 145 RX6 yX6_handBack wsX6_handBack) := goodIn_app (goodIn_of _ (by decide +kernel)) ggX11_become_X6_handBack
set_option maxRecDepth 20000 in
theorem ggX6_receives_X6_hasRoom : GoodIn wsX6_receives wsX6_hasRoom := goodIn_r _ [5, 6, 7, 8, 9, 10, 11, 4, 12, 13, 14, 15, 20, 21, 22, 23, 24, 25, 26, 27, 28, 29, 30, 31, 32, 33, 34, 35, 36, 37] (by decide +kernel) (by decide +kernel)
set_option maxRecDepth 20000 in
theorem gX6_receives_X6_hasRoom : GoodIn wsX6_receives (wsV RX6 97 RX6 yX6_hasRoom wsX6_hasRoom) := goodIn_app (goodIn_of _ (by decide +kernel)) ggX6_receives_X6_hasRoom
set_option maxRecDepth 20000 in
theorem ggX8_takeAll_X8_takeLaw : GoodIn wsX8_takeAll wsX8_takeLaw := goodIn_r _ [16, 17, 18, 19, 20, 21, 22, 23, 8, 7, 3, 4, 5, 6, 24, 25, 26, 27, 28, 29, 30, 31, 32, 33, 34, 35, 36] (by decide +kernel) (by decide +kernel)
set_option maxRecDepth 20000 in
theorem gX8_takeAll_X8_takeLaw : GoodIn wsX8_takeAll (wsV RX8 76 RX8 yX8_takeLaw wsX8_takeLaw) := goodIn_app (goodIn_of _ (by decide +kernel)) ggX8_takeAll_X8_takeLaw
set_option maxRecDepth 20000 in
theorem ggX11_ofKeeper_X6_copiesOn : GoodIn wsX11_ofKeeper wsX6_copiesOn := goodIn_r _ [25, 26, 27, 28, 24, 29, 54, 55, 56, 57, 58, 59, 60, 61, 62, 63, 64, 65] (by decide +kernel) (by decide +kernel)
set_option maxRecDepth 20000 in
theorem gX11_ofKeeper_X6_copiesOn : GoodIn wsX11_ofKeeper (wsV RX11 163 RX6 yX6_copiesOn wsX6_copiesOn) := goodIn_app (goodIn_of _ (by decide +kernel)) ggX11_ofKeeper_X6_copiesOn
set_option maxRecDepth 20000 in
theorem ggX0_findsFrom_X0_findsFrom : GoodIn wsX0_findsFrom wsX0_findsFrom := goodIn_r _ [0, 1, 2, 3, 4, 5, 6, 7, 8, 9, 10, 11, 12, 13, 14, 15, 16, 17] (by decide +kernel) (by decide +kernel)
set_option maxRecDepth 20000 in
theorem gX0_findsFrom_X0_findsFrom : GoodIn wsX0_findsFrom (wsV RX0 28 RX0 yX0_findsFrom wsX0_findsFrom) := goodIn_app (goodIn_of _ (by decide +kernel)) ggX0_findsFrom_X0_findsFrom
set_option maxRecDepth 20000 in
theorem ggX0_run_X0_movesFrom : GoodIn wsX0_run wsX0_movesFrom := goodIn_r _ [22, 3, 1, 9, 10, 11, 7, 12, 13, 14, 19, 20, 21, 4, 5, 6, 8, 2, 27, 28, 29, 30, 31] (by decide +kernel) (by decide +kernel)
set_option maxRecDepth 20000 in
theorem gX0_run_X0_movesFrom : GoodIn wsX0_run (wsV RX0 35 RX0 yX0_movesFrom wsX0_movesFrom) := goodIn_app (goodIn_of _ (by decide +kernel)) ggX0_run_X0_movesFrom
set_option maxRecDepth 20000 in
theorem ggX11_tooFew_J6_bitCount_0f7a4 : GoodIn wsX11_tooFew wsJ6_bitCount_0f7a4 := goodIn_r _ [100, 101, 102, 103] (by decide +kernel) (by decide +kernel)
set_option maxRecDepth 20000 in
theorem gX11_tooFew_J6_bitCount_0f7a4 : GoodIn wsX11_tooFew (va_wsS RX11 246 yJ6_bitCount_0f7a4 wsJ6_bitCount_0f7a4) := goodIn_app (goodIn_of _ (by decide +kernel)) ggX11_tooFew_J6_bitCount_0f7a4
set_option maxRecDepth 20000 in
theorem ggX6_greatestFor_X4_placeOf : GoodIn wsX6_greatestFor wsX4_placeOf := goodIn_r _ [16, 17, 18, 19, 136, 137, 138, 139] (by decide +kernel) (by decide +kernel)
set_option maxRecDepth 20000 in
theorem gX6_greatestFor_X4_placeOf : GoodIn wsX6_greatestFor (wsV RX6 59 RX4 yX4_placeOf wsX4_placeOf) := goodIn_app (goodIn_of _ (by decide +kernel)) ggX6_greatestFor_X4_placeOf
set_option maxRecDepth 20000 in
theorem ggX5_seatSet_X2_counting : GoodIn wsX5_seatSet wsX2_counting := goodIn_r _ [44, 45, 46, 254, 255, 256, 257, 258, 259] (by decide +kernel) (by decide +kernel)
set_option maxRecDepth 20000 in
theorem gX5_seatSet_X2_counting : GoodIn wsX5_seatSet (wsV RX5 73 RX2 yX2_counting wsX2_counting) := goodIn_app (goodIn_of _ (by decide +kernel)) ggX5_seatSet_X2_counting
set_option maxRecDepth 20000 in
theorem ggX11_strength_X11_isStrength : GoodIn wsX11_strength wsX11_isStrength := goodIn_r _ [12] (by decide +kernel) (by decide +kernel)
set_option maxRecDepth 20000 in
theorem gX11_strength_X11_isStrength : GoodIn wsX11_strength (va_wsS RX11 131 yX11_isStrength wsX11_isStrength) := goodIn_app (goodIn_of _ (by decide +kernel)) ggX11_strength_X11_isStrength
set_option maxRecDepth 20000 in
theorem ggX8_countOdds_J7_fill_53178 : GoodIn wsX8_countOdds wsJ7_fill_53178 := goodIn_r _ [6] (by decide +kernel) (by decide +kernel)
set_option maxRecDepth 20000 in
theorem gX8_countOdds_J7_fill_53178 : GoodIn wsX8_countOdds (va_wsS RX8 102 yJ7_fill_53178 wsJ7_fill_53178) := goodIn_app (goodIn_of _ (by decide +kernel)) ggX8_countOdds_J7_fill_53178
set_option maxRecDepth 20000 in
theorem ggX0_tellsFrom_X0_begin : GoodIn wsX0_tellsFrom wsX0_begin := goodIn_r _ [6, 7, 8, 26, 27, 28, 29, 30] (by decide +kernel) (by decide +kernel)
set_option maxRecDepth 20000 in
theorem gX0_tellsFrom_X0_begin : GoodIn wsX0_tellsFrom (wsV RX0 41 RX0 yX0_begin wsX0_begin) := goodIn_app (goodIn_of _ (by decide +kernel)) ggX0_tellsFrom_X0_begin
set_option maxRecDepth 20000 in
theorem ggX3_readOperand_X3_isDigit : GoodIn wsX3_readOperand wsX3_isDigit := goodIn_r _ [16] (by decide +kernel) (by decide +kernel)
set_option maxRecDepth 20000 in
theorem gX3_readOperand_X3_isDigit : GoodIn wsX3_readOperand (va_wsS RX3 106 yX3_isDigit wsX3_isDigit) := goodIn_app (goodIn_of _ (by decide +kernel)) ggX3_readOperand_X3_isDigit
set_option maxRecDepth 20000 in
theorem ggX11_name_X4_add : GoodIn wsX11_name wsX4_add := goodIn_r _ [20, 11, 13, 21, 22, 23, 24, 12, 40, 41, 42, 43] (by decide +kernel) (by decide +kernel)
set_option maxRecDepth 20000 in
theorem gX11_name_X4_add : GoodIn wsX11_name (wsV RX11 120 RX4 yX4_add wsX4_add) := goodIn_app (goodIn_of _ (by decide +kernel)) ggX11_name_X4_add
set_option maxRecDepth 20000 in
theorem ggX12_pickBest_X12_mixed : GoodIn wsX12_pickBest wsX12_mixed := goodIn_r _ [9, 10, 11] (by decide +kernel) (by decide +kernel)
set_option maxRecDepth 20000 in
theorem gX12_pickBest_X12_mixed : GoodIn wsX12_pickBest (va_wsS RX12 227 yX12_mixed wsX12_mixed) := goodIn_app (goodIn_of _ (by decide +kernel)) ggX12_pickBest_X12_mixed
set_option maxRecDepth 20000 in
theorem ggX12_movesBy_X12_ones : GoodIn wsX12_movesBy wsX12_ones := goodIn_r _ [14] (by decide +kernel) (by decide +kernel)
set_option maxRecDepth 20000 in
theorem gX12_movesBy_X12_ones : GoodIn wsX12_movesBy (va_wsS RX12 284 yX12_ones wsX12_ones) := goodIn_app (goodIn_of _ (by decide +kernel)) ggX12_movesBy_X12_ones
set_option maxRecDepth 20000 in
theorem ggX6_keptBy_X6_filled : GoodIn wsX6_keptBy wsX6_filled := goodIn_r _ [5] (by decide +kernel) (by decide +kernel)
set_option maxRecDepth 20000 in
theorem gX6_keptBy_X6_filled : GoodIn wsX6_keptBy (va_wsS RX6 141 yX6_filled wsX6_filled) := goodIn_app (goodIn_of _ (by decide +kernel)) ggX6_keptBy_X6_filled
set_option maxRecDepth 20000 in
theorem ggX12_reads_X12_held : GoodIn wsX12_reads wsX12_held := goodIn_r _ [40] (by decide +kernel) (by decide +kernel)
set_option maxRecDepth 20000 in
theorem gX12_reads_X12_held : GoodIn wsX12_reads (va_wsS RX12 218 yX12_held wsX12_held) := goodIn_app (goodIn_of _ (by decide +kernel)) ggX12_reads_X12_held
set_option maxRecDepth 20000 in
theorem ggX12_seat_X12_in : GoodIn wsX12_seat wsX12_in := goodIn_r _ [10] (by decide +kernel) (by decide +kernel)
set_option maxRecDepth 20000 in
theorem gX12_seat_X12_in : GoodIn wsX12_seat (va_wsS RX12 136 yX12_in wsX12_in) := goodIn_app (goodIn_of _ (by decide +kernel)) ggX12_seat_X12_in
set_option maxRecDepth 20000 in
theorem ggX12_lies_X12_in : GoodIn wsX12_lies wsX12_in := goodIn_r _ [10] (by decide +kernel) (by decide +kernel)
set_option maxRecDepth 20000 in
theorem gX12_lies_X12_in : GoodIn wsX12_lies (va_wsS RX12 136 yX12_in wsX12_in) := goodIn_app (goodIn_of _ (by decide +kernel)) ggX12_lies_X12_in
