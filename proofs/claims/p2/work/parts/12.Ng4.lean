set_option maxRecDepth 20000 in
theorem ggX11_read_X6_greatestFor : GoodIn wsX11_read wsX6_greatestFor := goodIn_r _ [34, 35, 36, 37, 38, 39, 40, 41, 42, 43, 44, 45, 46, 47, 48, 14, 49, 50, 51, 52, 53, 54, 55, 56, 57, 58, 59, 60, 61, 62, 63, 64, 65, 66, 67, 68, 69, 70, 71, 72, 73, 74, 75, 76, 77, 78, 79, 80, 81, 82, 83, 84, 85, 86, 87, 88, 89, 90, 20, 91, 92, 93, 94, 95, 96, 97, 98, 99, 100, 101, 102, 103, 104, 105, 106, 107, 108, 109, 110, 111, 112, 113, 114, 115, 116, 117, 118, 119, 120, 121, 122, 123, 124, 125, 126, 127, 25, 26, 8, 27, 28, 29, 151, 152, 153, 154, 155, 156, 157, 158, 159, 160, 161, 162, 163, 164, 165, 166, 167, 168, 169, 170, 171, 172, 173, 174, 175, 176, 177, 178, 179, 180, 181, 182, 183, 184, 147, 148, 149, 150, 141, 142, 143, 144, 145, 146] (by decide +kernel) (by decide +kernel)
set_option maxRecDepth 20000 in
theorem gX11_read_X6_greatestFor : GoodIn wsX11_read (wsV RX11 274 RX6 yX6_greatestFor wsX6_greatestFor) := goodIn_app (goodIn_of _ (by decide +kernel)) ggX11_read_X6_greatestFor
set_option maxRecDepth 20000 in
theorem ggX12_moves_X12_chooseName : GoodIn wsX12_moves wsX12_chooseName := goodIn_r _ [21, 22, 23, 24, 25, 7, 26, 27, 28, 29, 30, 31, 32, 33, 34, 35, 36, 37, 38, 39, 40, 41, 42, 43, 17, 44, 45, 46, 47, 48, 1, 2, 49, 50, 51, 52, 53, 13, 14, 15, 16, 54, 55, 56, 57, 58, 59, 60, 61, 62, 63, 64, 65, 66, 67, 75, 76, 77, 78, 79, 80, 81, 82, 83, 84, 85, 86, 87, 88, 89, 90, 91, 92, 93, 94, 95, 96, 97, 98, 99, 100, 101, 102, 103, 104, 105, 106, 107, 108, 109, 110, 111, 112, 113, 114, 115, 116, 117, 118, 119, 120, 121, 122, 123, 124, 125, 126, 127, 128, 129, 130, 131, 132, 133] (by decide +kernel) (by decide +kernel)
set_option maxRecDepth 20000 in
theorem gX12_moves_X12_chooseName : GoodIn wsX12_moves (wsV RX12 269 RX12 yX12_chooseName wsX12_chooseName) := goodIn_app (goodIn_of _ (by decide +kernel)) ggX12_moves_X12_chooseName
set_option maxRecDepth 20000 in
theorem ggX6_greatestFor_X1_choose : GoodIn wsX6_greatestFor wsX1_choose := goodIn_r _ [24, 25, 26, 27, 28, 29, 30, 31, 32, 10, 33, 34, 35, 36, 37, 38, 39, 23, 40, 41, 42, 43, 44, 45, 46, 47, 48, 49, 50, 51, 52, 53, 54, 55, 56, 57, 58, 59, 60, 61, 62, 63, 64, 65, 66, 67, 68, 69, 70, 71, 72, 73, 74, 75, 76, 77, 78, 79, 80, 81, 82, 83, 84, 85, 86, 87, 88, 89, 90, 91, 92, 93, 94, 127, 128, 129, 130, 131, 132, 133, 134, 135, 114, 115, 116, 117, 118, 119, 120, 121, 122, 123, 124, 125, 126, 140, 141, 142, 143, 144, 145] (by decide +kernel) (by decide +kernel)
set_option maxRecDepth 20000 in
theorem gX6_greatestFor_X1_choose : GoodIn wsX6_greatestFor (wsV RX6 65 RX1 yX1_choose wsX1_choose) := goodIn_app (goodIn_of _ (by decide +kernel)) ggX6_greatestFor_X1_choose
set_option maxRecDepth 20000 in
theorem ggX12_share_X12_shareOf : GoodIn wsX12_share wsX12_shareOf := goodIn_r _ [19, 20, 21, 22, 23, 24, 25, 5, 26, 27, 28, 29, 30, 31, 32, 33, 34, 35, 36, 37, 38, 39, 40, 15, 41, 42, 43, 44, 45, 46, 47, 48, 49, 50, 51, 52, 53, 54, 55, 60, 61, 62, 63, 64, 65, 66, 67, 68, 69, 70, 71, 72, 73, 74, 75, 76, 77, 78, 79, 80, 81, 82, 83, 84, 85, 86, 87, 88, 89, 90, 91, 92, 93, 94, 95, 96, 97, 98, 99, 100, 101, 102, 103, 104, 105, 106, 107, 108, 109, 110, 111, 112, 113, 114, 115, 116, 117, 118] (by decide +kernel) (by decide +kernel)
set_option maxRecDepth 20000 in
theorem gX12_share_X12_shareOf : GoodIn wsX12_share (wsV RX12 272 RX12 yX12_shareOf wsX12_shareOf) := goodIn_app (goodIn_of _ (by decide +kernel)) ggX12_share_X12_shareOf
set_option maxRecDepth 20000 in
theorem ggX6_spread_X6_reaches : GoodIn wsX6_spread wsX6_reaches := goodIn_r _ [96, 97, 98, 99, 2, 100, 101, 102, 95, 103, 3, 104, 105, 106, 107, 108, 89, 90, 19, 91, 22, 109, 110, 111, 112, 113, 114, 115, 116, 117, 118, 119, 120, 121, 122, 123, 124, 125, 126, 127, 128, 129, 130, 131, 132, 133, 134, 135, 136, 137, 138, 139, 140, 141, 142, 143, 144, 145, 146, 147, 174, 175, 176, 177, 178, 179, 161, 162, 163, 164, 165, 166, 167, 168, 169] (by decide +kernel) (by decide +kernel)
set_option maxRecDepth 20000 in
theorem gX6_spread_X6_reaches : GoodIn wsX6_spread (wsV RX6 77 RX6 yX6_reaches wsX6_reaches) := goodIn_app (goodIn_of _ (by decide +kernel)) ggX6_spread_X6_reaches
set_option maxRecDepth 20000 in
theorem ggX12_findOdds_X12_pick : GoodIn wsX12_findOdds wsX12_pick := goodIn_r _ [7, 8, 9, 10, 2, 11, 12, 13, 6, 14, 15, 16, 17, 18, 19, 20, 21, 22, 23, 24, 25, 26, 27, 28, 29, 30, 31, 32, 33, 34, 35, 36, 37, 38, 39, 40, 41, 42, 43, 44, 45, 46, 47, 48, 49, 50, 51, 52, 53, 54, 55, 56, 57, 58, 59, 60, 61, 62, 63, 64, 65, 66, 67, 68, 69, 70, 71, 72, 73, 74, 75, 76, 77, 78, 79, 80, 81, 82, 83, 84, 85, 86, 87, 88, 89, 90] (by decide +kernel) (by decide +kernel)
set_option maxRecDepth 20000 in
theorem gX12_findOdds_X12_pick : GoodIn wsX12_findOdds (wsV RX12 253 RX12 yX12_pick wsX12_pick) := goodIn_app (goodIn_of _ (by decide +kernel)) ggX12_findOdds_X12_pick
set_option maxRecDepth 20000 in
theorem ggX12_write_X12_hasRoom : GoodIn wsX12_write wsX12_hasRoom := goodIn_r _ [94, 7, 8, 95, 96, 97, 12, 98, 90, 99, 100, 101, 102, 103, 104, 105, 106, 107, 108, 109, 110, 111, 112, 113, 114, 115, 116, 117, 118, 119, 120, 121, 122, 123, 124, 125, 126, 127, 128, 129, 130, 131, 132, 133, 134, 135, 136, 137, 138, 139, 140, 141, 142, 143, 144, 145, 146, 147, 148, 149, 150, 151, 152, 153, 154, 155, 156, 157] (by decide +kernel) (by decide +kernel)
set_option maxRecDepth 20000 in
theorem gX12_write_X12_hasRoom : GoodIn wsX12_write (wsV RX12 297 RX12 yX12_hasRoom wsX12_hasRoom) := goodIn_app (goodIn_of _ (by decide +kernel)) ggX12_write_X12_hasRoom
set_option maxRecDepth 20000 in
theorem ggX10_leastHarm_X10_greatestShare : GoodIn wsX10_leastHarm wsX10_greatestShare := goodIn_r _ [63, 64, 65, 66, 67, 68, 29, 26, 30, 69, 70, 42, 71, 72, 73, 74, 75, 76, 77, 78, 79, 80, 81, 82, 7, 83, 19, 38, 58, 9, 84, 85, 86, 87, 39, 35, 10, 44, 45, 46, 47, 88, 89, 90, 91, 92, 106, 107, 108, 109, 93, 94, 95, 96, 97, 98, 99, 100, 101, 102, 103, 104, 105] (by decide +kernel) (by decide +kernel)
set_option maxRecDepth 20000 in
theorem gX10_leastHarm_X10_greatestShare : GoodIn wsX10_leastHarm (wsV RX10 39 RX10 yX10_greatestShare wsX10_greatestShare) := goodIn_app (goodIn_of _ (by decide +kernel)) ggX10_leastHarm_X10_greatestShare
set_option maxRecDepth 20000 in
theorem ggX12_wordsBelow_X12_areUnlike : GoodIn wsX12_wordsBelow wsX12_areUnlike := goodIn_r _ [5, 6, 7, 8, 4, 9, 10, 11, 15, 16, 17, 18, 19, 20, 21, 22, 23, 24, 25, 26, 27, 28, 29, 30, 31, 32, 33, 34, 35, 36, 37, 38, 39, 40, 41, 42, 43, 44, 45, 46, 47, 48, 49, 50, 51, 52, 53, 54, 55, 56, 57, 58, 59, 60, 61, 62, 63, 64, 65, 66, 67, 68, 69, 70, 71, 72, 73] (by decide +kernel) (by decide +kernel)
set_option maxRecDepth 20000 in
theorem gX12_wordsBelow_X12_areUnlike : GoodIn wsX12_wordsBelow (wsV RX12 303 RX12 yX12_areUnlike wsX12_areUnlike) := goodIn_app (goodIn_of _ (by decide +kernel)) ggX12_wordsBelow_X12_areUnlike
set_option maxRecDepth 20000 in
theorem ggX12_chooseName_X12_numberOf : GoodIn wsX12_chooseName wsX12_numberOf := goodIn_r _ [6, 7, 8, 9, 55, 56, 57, 58, 59, 60, 61, 62, 63, 64, 65, 66, 67, 68, 69, 70, 71, 72, 73, 74, 75, 76, 77, 78, 79, 80, 81, 82, 83, 84, 85, 86, 87, 88, 89, 90, 91, 92, 93, 94, 95, 96, 97, 98, 99, 100, 101, 102, 103, 104, 105, 106, 107, 108, 109, 110, 111, 112, 113] (by decide +kernel) (by decide +kernel)
set_option maxRecDepth 20000 in
theorem gX12_chooseName_X12_numberOf : GoodIn wsX12_chooseName (wsV RX12 162 RX12 yX12_numberOf wsX12_numberOf) := goodIn_app (goodIn_of _ (by decide +kernel)) ggX12_chooseName_X12_numberOf
set_option maxRecDepth 20000 in
theorem ggX12_harm_X12_isIn : GoodIn wsX12_harm wsX12_isIn := goodIn_r _ [28, 2, 114, 115, 116, 117, 118, 119, 120, 121, 122, 123, 124, 125, 126, 127, 128, 129, 130, 131, 132, 133, 134, 135, 136, 137, 138, 139, 140, 141, 142, 143, 144, 145, 146, 147, 148, 149, 150, 151, 152, 153, 154, 155, 156, 157, 158, 159, 160, 161, 162, 163, 164, 165, 166, 167, 168, 169, 170, 171, 172] (by decide +kernel) (by decide +kernel)
set_option maxRecDepth 20000 in
theorem gX12_harm_X12_isIn : GoodIn wsX12_harm (wsV RX12 223 RX12 yX12_isIn wsX12_isIn) := goodIn_app (goodIn_of _ (by decide +kernel)) ggX12_harm_X12_isIn
set_option maxRecDepth 20000 in
theorem ggX12_onShelf_X12_isName : GoodIn wsX12_onShelf wsX12_isName := goodIn_r _ [17, 18, 11, 12, 8, 13, 19, 20, 21, 22, 23, 24, 25, 26, 27, 28, 29, 30, 31, 32, 33, 34, 35, 36, 37, 38, 39, 40, 41, 42, 43, 44, 45, 46, 47, 48, 49, 50, 51, 52, 53, 54, 55, 56, 57, 58, 59, 60, 61, 62, 63, 64, 65, 66, 67, 68, 69, 70, 71, 72, 73, 74, 75, 76, 77] (by decide +kernel) (by decide +kernel)
set_option maxRecDepth 20000 in
theorem gX12_onShelf_X12_isName : GoodIn wsX12_onShelf (wsV RX12 158 RX12 yX12_isName wsX12_isName) := goodIn_app (goodIn_of _ (by decide +kernel)) ggX12_onShelf_X12_isName
set_option maxRecDepth 20000 in
theorem ggX12_movesFrom_X12_begins : GoodIn wsX12_movesFrom wsX12_begins := goodIn_r _ [6, 7, 8, 20, 21, 22, 23, 24, 25, 26, 27, 28, 29, 30, 31, 32, 33, 34, 35, 36, 37, 38, 39, 40, 41, 42, 43, 44, 45, 46, 47, 48, 49, 50, 51, 52, 53, 54, 55, 56, 57, 58, 59, 60, 61, 62, 63, 64, 65, 66, 67, 68, 69, 70, 71, 72, 73, 74, 75, 76, 77, 78] (by decide +kernel) (by decide +kernel)
set_option maxRecDepth 20000 in
theorem gX12_movesFrom_X12_begins : GoodIn wsX12_movesFrom (wsV RX12 337 RX12 yX12_begins wsX12_begins) := goodIn_app (goodIn_of _ (by decide +kernel)) ggX12_movesFrom_X12_begins
set_option maxRecDepth 20000 in
theorem ggX12_movesBy_X12_setBy : GoodIn wsX12_movesBy wsX12_setBy := goodIn_r _ [9, 10, 1, 11, 15, 16, 17, 18, 19, 20, 21, 22, 23, 24, 25, 26, 27, 28, 29, 30, 31, 32, 33, 34, 35, 36, 37, 38, 39, 40, 41, 42, 43, 44, 45, 46, 47, 48, 49, 50, 51, 52, 53, 54, 55, 56, 57, 58, 59, 60, 61, 62, 63, 64, 65, 66, 67, 68, 69, 70, 71, 72, 73] (by decide +kernel) (by decide +kernel)
set_option maxRecDepth 20000 in
theorem gX12_movesBy_X12_setBy : GoodIn wsX12_movesBy (wsV RX12 316 RX12 yX12_setBy wsX12_setBy) := goodIn_app (goodIn_of _ (by decide +kernel)) ggX12_movesBy_X12_setBy
set_option maxRecDepth 20000 in
theorem ggX12_numbers_X12_isIn : GoodIn wsX12_numbers wsX12_isIn := goodIn_r _ [12, 13, 14, 15, 16, 17, 18, 19, 20, 21, 22, 23, 24, 25, 26, 27, 28, 29, 30, 31, 32, 33, 34, 35, 36, 37, 38, 39, 40, 41, 42, 43, 44, 45, 46, 47, 48, 49, 50, 51, 52, 53, 54, 55, 56, 57, 58, 59, 60, 61, 62, 63, 64, 65, 66, 67, 68, 69, 70, 71, 72] (by decide +kernel) (by decide +kernel)
set_option maxRecDepth 20000 in
theorem gX12_numbers_X12_isIn : GoodIn wsX12_numbers (wsV RX12 223 RX12 yX12_isIn wsX12_isIn) := goodIn_app (goodIn_of _ (by decide +kernel)) ggX12_numbers_X12_isIn
set_option maxRecDepth 20000 in
theorem ggX12_sits_X12_isIn : GoodIn wsX12_sits wsX12_isIn := goodIn_r _ [10, 11, 17, 18, 19, 20, 21, 22, 23, 24, 25, 26, 27, 28, 29, 30, 31, 32, 33, 34, 35, 36, 37, 38, 39, 40, 41, 42, 43, 44, 45, 46, 47, 48, 49, 50, 51, 52, 53, 54, 55, 56, 57, 58, 59, 60, 61, 62, 63, 64, 65, 66, 67, 68, 69, 70, 71, 72, 73, 74, 75] (by decide +kernel) (by decide +kernel)
set_option maxRecDepth 20000 in
theorem gX12_sits_X12_isIn : GoodIn wsX12_sits (wsV RX12 223 RX12 yX12_isIn wsX12_isIn) := goodIn_app (goodIn_of _ (by decide +kernel)) ggX12_sits_X12_isIn
set_option maxRecDepth 20000 in
theorem ggX3_readSum_X3_readProduct : GoodIn wsX3_readSum wsX3_readProduct := goodIn_r _ [32, 1, 2, 33, 34, 35, 6, 7, 8, 9, 10, 11, 12, 13, 14, 15, 16, 17, 18, 19, 20, 21, 22, 23, 24, 25, 26, 27, 28, 29, 30, 31, 0, 3, 4, 5, 36, 37, 38, 39, 40, 41, 42, 43] (by decide +kernel) (by decide +kernel)
set_option maxRecDepth 20000 in
theorem gX3_readSum_X3_readProduct : GoodIn wsX3_readSum (wsV RX3 100 RX3 yX3_readProduct wsX3_readProduct) := goodIn_app (goodIn_of _ (by decide +kernel)) ggX3_readSum_X3_readProduct
set_option maxRecDepth 20000 in
theorem ggX11_share_X8_countOdds : GoodIn wsX11_share wsX8_countOdds := goodIn_r _ [23, 24, 25, 26, 27, 28, 29, 30, 31, 32, 22, 33, 34, 35, 36, 37, 38, 39, 40, 41, 42, 43, 44, 45, 9, 46, 47, 70, 71, 72, 73, 74, 75, 76, 77, 78, 79, 80, 81, 82] (by decide +kernel) (by decide +kernel)
set_option maxRecDepth 20000 in
theorem gX11_share_X8_countOdds : GoodIn wsX11_share (wsV RX11 251 RX8 yX8_countOdds wsX8_countOdds) := goodIn_app (goodIn_of _ (by decide +kernel)) ggX11_share_X8_countOdds
set_option maxRecDepth 20000 in
theorem ggX6_reaches_X6_receives : GoodIn wsX6_reaches wsX6_receives := goodIn_r _ [31, 32, 33, 34, 8, 35, 1, 3, 36, 37, 38, 39, 40, 41, 42, 43, 44, 45, 46, 47, 48, 49, 50, 51, 52, 53, 54, 55, 56, 57, 58, 59, 60, 61, 62, 63, 64, 65] (by decide +kernel) (by decide +kernel)
set_option maxRecDepth 20000 in
theorem gX6_reaches_X6_receives : GoodIn wsX6_reaches (wsV RX6 93 RX6 yX6_receives wsX6_receives) := goodIn_app (goodIn_of _ (by decide +kernel)) ggX6_reaches_X6_receives
set_option maxRecDepth 20000 in
theorem ggX11_trees_X6_compare : GoodIn wsX11_trees wsX6_compare := goodIn_r _ [13, 14, 15, 16, 17, 18, 12, 19, 20, 21, 22, 23, 24, 25, 26, 54, 55, 56, 57, 58, 59, 60, 61, 62, 63, 64, 65, 66, 67, 68, 69] (by decide +kernel) (by decide +kernel)
set_option maxRecDepth 20000 in
theorem gX11_trees_X6_compare : GoodIn wsX11_trees (wsV RX11 300 RX6 yX6_compare wsX6_compare) := goodIn_app (goodIn_of _ (by decide +kernel)) ggX11_trees_X6_compare
set_option maxRecDepth 20000 in
theorem ggX0_movesFrom_X0_movesFrom : GoodIn wsX0_movesFrom wsX0_movesFrom := goodIn_r _ [0, 1, 2, 3, 4, 5, 6, 7, 8, 9, 10, 11, 12, 13, 14, 15, 16, 17, 18, 19, 20, 21, 22] (by decide +kernel) (by decide +kernel)
set_option maxRecDepth 20000 in
theorem gX0_movesFrom_X0_movesFrom : GoodIn wsX0_movesFrom (wsV RX0 35 RX0 yX0_movesFrom wsX0_movesFrom) := goodIn_app (goodIn_of _ (by decide +kernel)) ggX0_movesFrom_X0_movesFrom
set_option maxRecDepth 20000 in
theorem ggX0_run_X0_keepsFrom : GoodIn wsX0_run wsX0_keepsFrom := goodIn_r _ [18, 3, 9, 10, 11, 7, 12, 13, 14, 15, 16, 17, 19, 20, 21, 22, 1, 4, 5, 6, 8, 2, 27, 28, 29, 30, 31] (by decide +kernel) (by decide +kernel)
set_option maxRecDepth 20000 in
theorem gX0_run_X0_keepsFrom : GoodIn wsX0_run (wsV RX0 32 RX0 yX0_keepsFrom wsX0_keepsFrom) := goodIn_app (goodIn_of _ (by decide +kernel)) ggX0_run_X0_keepsFrom
set_option maxRecDepth 20000 in
theorem ggX1_pickBySums_X8_sumOf : GoodIn wsX1_pickBySums wsX8_sumOf := goodIn_r _ [10, 11, 12, 13, 14, 15, 16, 17, 18, 19, 20, 21, 22, 23, 24, 25, 26, 27, 28, 29, 30] (by decide +kernel) (by decide +kernel)
set_option maxRecDepth 20000 in
theorem gX1_pickBySums_X8_sumOf : GoodIn wsX1_pickBySums (wsV RX1 85 RX8 yX8_sumOf wsX8_sumOf) := goodIn_app (goodIn_of _ (by decide +kernel)) ggX1_pickBySums_X8_sumOf
set_option maxRecDepth 20000 in
theorem ggX11_ofKeeper_X6_keptBy : GoodIn wsX11_ofKeeper wsX6_keptBy := goodIn_r _ [33, 34, 27, 28, 24, 29, 54, 55, 56, 57, 58, 59, 60, 61, 62, 63, 64, 65] (by decide +kernel) (by decide +kernel)
set_option maxRecDepth 20000 in
theorem gX11_ofKeeper_X6_keptBy : GoodIn wsX11_ofKeeper (wsV RX11 166 RX6 yX6_keptBy wsX6_keptBy) := goodIn_app (goodIn_of _ (by decide +kernel)) ggX11_ofKeeper_X6_keptBy
set_option maxRecDepth 20000 in
theorem ggX11_moves_X8_alikeIn : GoodIn wsX11_moves wsX8_alikeIn := goodIn_r _ [17, 18, 19, 125, 126, 127, 128, 129, 130, 131, 132, 133, 134, 135, 136, 137] (by decide +kernel) (by decide +kernel)
set_option maxRecDepth 20000 in
theorem gX11_moves_X8_alikeIn : GoodIn wsX11_moves (wsV RX11 260 RX8 yX8_alikeIn wsX8_alikeIn) := goodIn_app (goodIn_of _ (by decide +kernel)) ggX11_moves_X8_alikeIn
set_option maxRecDepth 20000 in
theorem ggX10_greatestShare_J7_fill_53178 : GoodIn wsX10_greatestShare wsJ7_fill_53178 := goodIn_r _ [12] (by decide +kernel) (by decide +kernel)
set_option maxRecDepth 20000 in
theorem gX10_greatestShare_J7_fill_53178 : GoodIn wsX10_greatestShare (va_wsS RX10 43 yJ7_fill_53178 wsJ7_fill_53178) := goodIn_app (goodIn_of _ (by decide +kernel)) ggX10_greatestShare_J7_fill_53178
set_option maxRecDepth 20000 in
theorem ggX3_readBracket_X3_sign : GoodIn wsX3_readBracket wsX3_sign := goodIn_r _ [10, 1, 11, 12, 36, 37, 38, 39, 40, 41, 42, 43] (by decide +kernel) (by decide +kernel)
set_option maxRecDepth 20000 in
theorem gX3_readBracket_X3_sign : GoodIn wsX3_readBracket (wsV RX3 62 RX3 yX3_sign wsX3_sign) := goodIn_app (goodIn_of _ (by decide +kernel)) ggX3_readBracket_X3_sign
set_option maxRecDepth 20000 in
theorem ggX11_comes_X5_isTold : GoodIn wsX11_comes wsX5_isTold := goodIn_r _ [15, 16, 17, 31, 32, 33, 34, 35, 36, 37, 38, 39, 40] (by decide +kernel) (by decide +kernel)
set_option maxRecDepth 20000 in
theorem gX11_comes_X5_isTold : GoodIn wsX11_comes (wsV RX11 317 RX5 yX5_isTold wsX5_isTold) := goodIn_app (goodIn_of _ (by decide +kernel)) ggX11_comes_X5_isTold
set_option maxRecDepth 20000 in
theorem ggX6_mendAll_X4_placeOf : GoodIn wsX6_mendAll wsX4_placeOf := goodIn_r _ [24, 25, 26, 27, 142, 143, 144, 145] (by decide +kernel) (by decide +kernel)
set_option maxRecDepth 20000 in
theorem gX6_mendAll_X4_placeOf : GoodIn wsX6_mendAll (wsV RX6 59 RX4 yX4_placeOf wsX4_placeOf) := goodIn_app (goodIn_of _ (by decide +kernel)) ggX6_mendAll_X4_placeOf
set_option maxRecDepth 20000 in
theorem ggX0_keepsFrom_X0_begin : GoodIn wsX0_keepsFrom wsX0_begin := goodIn_r _ [6, 7, 8, 22, 23, 24, 25, 26] (by decide +kernel) (by decide +kernel)
set_option maxRecDepth 20000 in
theorem gX0_keepsFrom_X0_begin : GoodIn wsX0_keepsFrom (wsV RX0 41 RX0 yX0_begin wsX0_begin) := goodIn_app (goodIn_of _ (by decide +kernel)) ggX0_keepsFrom_X0_begin
set_option maxRecDepth 20000 in
theorem ggX12_keepsFrom_X12_aboveOf : GoodIn wsX12_keepsFrom wsX12_aboveOf := goodIn_r _ [16] (by decide +kernel) (by decide +kernel)
set_option maxRecDepth 20000 in
theorem gX12_keepsFrom_X12_aboveOf : GoodIn wsX12_keepsFrom (va_wsS RX12 343 yX12_aboveOf wsX12_aboveOf) := goodIn_app (goodIn_of _ (by decide +kernel)) ggX12_keepsFrom_X12_aboveOf
set_option maxRecDepth 20000 in
theorem ggX11_write_X2_isUp : GoodIn wsX11_write wsX2_isUp := goodIn_r _ [27, 28, 29, 174, 175, 176, 177, 178, 179] (by decide +kernel) (by decide +kernel)
set_option maxRecDepth 20000 in
theorem gX11_write_X2_isUp : GoodIn wsX11_write (wsV RX11 267 RX2 yX2_isUp wsX2_isUp) := goodIn_app (goodIn_of _ (by decide +kernel)) ggX11_write_X2_isUp
set_option maxRecDepth 20000 in
theorem ggX11_onShelf_X4_has : GoodIn wsX11_onShelf wsX4_has := goodIn_r _ [18, 19, 51, 52, 53, 54] (by decide +kernel) (by decide +kernel)
set_option maxRecDepth 20000 in
theorem gX11_onShelf_X4_has : GoodIn wsX11_onShelf (wsV RX11 123 RX4 yX4_has wsX4_has) := goodIn_app (goodIn_of _ (by decide +kernel)) ggX11_onShelf_X4_has
set_option maxRecDepth 20000 in
theorem ggX11_become_X11_isKind : GoodIn wsX11_become wsX11_isKind := goodIn_r _ [13] (by decide +kernel) (by decide +kernel)
set_option maxRecDepth 20000 in
theorem gX11_become_X11_isKind : GoodIn wsX11_become (va_wsS RX11 138 yX11_isKind wsX11_isKind) := goodIn_app (goodIn_of _ (by decide +kernel)) ggX11_become_X11_isKind
set_option maxRecDepth 20000 in
theorem ggX1_pickFirstFrom_X11_placeBehind : GoodIn wsX1_pickFirstFrom wsX11_placeBehind := goodIn_r _ [18] (by decide +kernel) (by decide +kernel)
set_option maxRecDepth 20000 in
theorem gX1_pickFirstFrom_X11_placeBehind_n78 : GoodIn wsX1_pickFirstFrom (wsX11_placeBehind) := ggX1_pickFirstFrom_X11_placeBehind
set_option maxRecDepth 20000 in
theorem ggX12_moves_X12_ones : GoodIn wsX12_moves wsX12_ones := goodIn_r _ [74] (by decide +kernel) (by decide +kernel)
set_option maxRecDepth 20000 in
theorem gX12_moves_X12_ones : GoodIn wsX12_moves (va_wsS RX12 284 yX12_ones wsX12_ones) := goodIn_app (goodIn_of _ (by decide +kernel)) ggX12_moves_X12_ones
set_option maxRecDepth 20000 in
theorem ggX12_fall_X12_in : GoodIn wsX12_fall wsX12_in := goodIn_r _ [13] (by decide +kernel) (by decide +kernel)
set_option maxRecDepth 20000 in
theorem gX12_fall_X12_in : GoodIn wsX12_fall (va_wsS RX12 136 yX12_in wsX12_in) := goodIn_app (goodIn_of _ (by decide +kernel)) ggX12_fall_X12_in
set_option maxRecDepth 20000 in
theorem ggX12_one_X12_in : GoodIn wsX12_one wsX12_in := goodIn_r _ [18] (by decide +kernel) (by decide +kernel)
set_option maxRecDepth 20000 in
theorem gX12_one_X12_in : GoodIn wsX12_one (va_wsS RX12 136 yX12_in wsX12_in) := goodIn_app (goodIn_of _ (by decide +kernel)) ggX12_one_X12_in
