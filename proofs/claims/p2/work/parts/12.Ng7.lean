set_option maxRecDepth 20000 in
theorem ggX12_order_X12_chooseName : GoodIn wsX12_order wsX12_chooseName := goodIn_r _ [99, 2, 100, 101, 102, 11, 103, 104, 105, 106, 107, 108, 109, 110, 111, 112, 59, 113, 60, 114, 115, 116, 117, 118, 21, 61, 119, 120, 121, 122, 29, 30, 91, 92, 93, 94, 95, 33, 34, 35, 36, 123, 124, 125, 126, 89, 127, 128, 129, 130, 31, 131, 132, 133, 134, 150, 151, 152, 153, 154, 155, 156, 157, 158, 159, 160, 161, 162, 163, 164, 165, 166, 167, 168, 169, 170, 171, 172, 173, 174, 175, 176, 177, 178, 179, 180, 181, 182, 183, 184, 185, 186, 187, 188, 189, 190, 191, 192, 193, 194, 195, 196, 197, 198, 199, 200, 201, 202, 203, 204, 205, 206, 207, 208] (by decide +kernel) (by decide +kernel)
set_option maxRecDepth 20000 in
theorem gX12_order_X12_chooseName : GoodIn wsX12_order (wsV RX12 269 RX12 yX12_chooseName wsX12_chooseName) := goodIn_app (goodIn_of _ (by decide +kernel)) ggX12_order_X12_chooseName
set_option maxRecDepth 20000 in
theorem ggX12_write_X12_chooseName : GoodIn wsX12_write wsX12_chooseName := goodIn_r _ [30, 31, 32, 33, 34, 12, 35, 36, 37, 38, 39, 40, 41, 42, 4, 43, 44, 45, 46, 5, 47, 48, 49, 50, 51, 52, 53, 54, 55, 56, 14, 57, 58, 59, 60, 61, 62, 63, 64, 65, 66, 67, 68, 69, 70, 71, 72, 73, 74, 75, 76, 77, 78, 79, 80, 99, 100, 101, 102, 103, 104, 105, 106, 107, 108, 109, 110, 111, 112, 113, 114, 115, 116, 117, 118, 119, 120, 121, 122, 123, 124, 125, 126, 127, 128, 129, 130, 131, 132, 133, 134, 135, 136, 137, 138, 139, 140, 141, 142, 143, 144, 145, 146, 147, 148, 149, 150, 151, 152, 153, 154, 155, 156, 157] (by decide +kernel) (by decide +kernel)
set_option maxRecDepth 20000 in
theorem gX12_write_X12_chooseName : GoodIn wsX12_write (wsV RX12 269 RX12 yX12_chooseName wsX12_chooseName) := goodIn_app (goodIn_of _ (by decide +kernel)) ggX12_write_X12_chooseName
set_option maxRecDepth 20000 in
theorem ggX12_chooseName_X12_choose : GoodIn wsX12_chooseName wsX12_choose := goodIn_r _ [13, 14, 15, 16, 17, 18, 19, 20, 21, 22, 5, 23, 24, 25, 26, 27, 28, 29, 30, 1, 31, 32, 33, 34, 35, 36, 37, 38, 39, 40, 41, 42, 43, 44, 45, 46, 47, 48, 49, 50, 51, 52, 53, 54, 55, 56, 57, 58, 59, 60, 61, 62, 63, 64, 65, 66, 67, 68, 69, 70, 71, 72, 73, 74, 75, 76, 77, 78, 79, 80, 81, 82, 83, 84, 85, 86, 87, 88, 89, 90, 91, 92, 93, 94, 95, 96, 97, 98, 99, 100, 101, 102, 103, 104, 105, 106, 107, 108, 109, 110, 111, 112, 113] (by decide +kernel) (by decide +kernel)
set_option maxRecDepth 20000 in
theorem gX12_chooseName_X12_choose : GoodIn wsX12_chooseName (wsV RX12 263 RX12 yX12_choose wsX12_choose) := goodIn_app (goodIn_of _ (by decide +kernel)) ggX12_chooseName_X12_choose
set_option maxRecDepth 20000 in
theorem ggX12_tries_X12_reads : GoodIn wsX12_tries wsX12_reads := goodIn_r _ [31, 32, 33, 34, 35, 36, 37, 38, 3, 39, 40, 41, 12, 42, 4, 43, 44, 45, 46, 47, 48, 49, 50, 51, 52, 53, 54, 55, 56, 57, 24, 25, 26, 27, 58, 59, 60, 61, 62, 63, 64, 76, 77, 78, 79, 80, 81, 82, 83, 84, 85, 86, 87, 88, 89, 90, 91, 92, 93, 94, 95, 96, 97, 98, 99, 100, 101, 102, 103, 104, 105, 106, 107, 108, 109, 110, 111, 112, 113, 114, 115, 116, 117, 118, 119, 120, 121, 122, 123, 124, 125, 126, 127, 128, 129, 130, 131, 132, 133, 134] (by decide +kernel) (by decide +kernel)
set_option maxRecDepth 20000 in
theorem gX12_tries_X12_reads : GoodIn wsX12_tries (wsV RX12 234 RX12 yX12_reads wsX12_reads) := goodIn_app (goodIn_of _ (by decide +kernel)) ggX12_tries_X12_reads
set_option maxRecDepth 20000 in
theorem ggX12_tellsFrom_X12_keepsFrom : GoodIn wsX12_tellsFrom wsX12_keepsFrom := goodIn_r _ [12, 1, 2, 3, 4, 5, 6, 7, 8, 13, 14, 15, 16, 17, 18, 19, 20, 9, 10, 11, 21, 22, 23, 24, 28, 29, 30, 31, 32, 33, 34, 35, 36, 37, 38, 39, 40, 41, 42, 43, 44, 45, 46, 47, 48, 49, 50, 51, 52, 53, 54, 55, 56, 57, 58, 59, 60, 61, 62, 63, 64, 65, 66, 67, 68, 69, 70, 71, 72, 73, 74, 75, 76, 77, 78, 79, 80, 81, 82, 83, 84, 85, 86] (by decide +kernel) (by decide +kernel)
set_option maxRecDepth 20000 in
theorem gX12_tellsFrom_X12_keepsFrom : GoodIn wsX12_tellsFrom (wsV RX12 346 RX12 yX12_keepsFrom wsX12_keepsFrom) := goodIn_app (goodIn_of _ (by decide +kernel)) ggX12_tellsFrom_X12_keepsFrom
set_option maxRecDepth 20000 in
theorem ggX12_keepsFrom_X12_movesFrom : GoodIn wsX12_keepsFrom wsX12_movesFrom := goodIn_r _ [23, 1, 2, 3, 4, 5, 6, 7, 8, 20, 21, 22, 9, 10, 11, 12, 13, 14, 15, 16, 24, 25, 26, 27, 28, 29, 30, 31, 32, 33, 34, 35, 36, 37, 38, 39, 40, 41, 42, 43, 44, 45, 46, 47, 48, 49, 50, 51, 52, 53, 54, 55, 56, 57, 58, 59, 60, 61, 62, 63, 64, 65, 66, 67, 68, 69, 70, 71, 72, 73, 74, 75, 76, 77, 78, 79, 80, 81, 82] (by decide +kernel) (by decide +kernel)
set_option maxRecDepth 20000 in
theorem gX12_keepsFrom_X12_movesFrom : GoodIn wsX12_keepsFrom (wsV RX12 349 RX12 yX12_movesFrom wsX12_movesFrom) := goodIn_app (goodIn_of _ (by decide +kernel)) ggX12_keepsFrom_X12_movesFrom
set_option maxRecDepth 20000 in
theorem ggX12_one_X12_sum : GoodIn wsX12_one wsX12_sum := goodIn_r _ [30, 1, 2, 31, 32, 33, 11, 8, 9, 10, 12, 13, 14, 15, 0, 3, 4, 5, 6, 7, 16, 17, 18, 19, 20, 21, 22, 23, 24, 25, 26, 27, 28, 29, 34, 35, 36, 37, 38, 39, 40, 41, 42, 43, 44, 45, 46, 47, 48, 49, 50, 51, 52, 53, 54, 55, 56, 57, 58, 59, 60, 61, 62, 63, 64, 65, 66, 67, 68, 69, 70, 71, 72, 73, 74, 75, 76, 77, 78, 79, 80, 81, 82, 83, 84, 85, 86, 87, 88, 89, 90, 91, 92] (by decide +kernel) (by decide +kernel)
set_option maxRecDepth 20000 in
theorem gX12_one_X12_sum : GoodIn wsX12_one (wsV RX12 200 RX12 yX12_sum wsX12_sum) := goodIn_app (goodIn_of _ (by decide +kernel)) ggX12_one_X12_sum
set_option maxRecDepth 20000 in
theorem ggX12_keepsFrom_X12_findsFrom : GoodIn wsX12_keepsFrom wsX12_findsFrom := goodIn_r _ [12, 13, 2, 3, 4, 5, 6, 7, 8, 9, 10, 11, 14, 15, 16, 24, 25, 26, 27, 28, 29, 30, 31, 32, 33, 34, 35, 36, 37, 38, 39, 40, 41, 42, 43, 44, 45, 46, 47, 48, 49, 50, 51, 52, 53, 54, 55, 56, 57, 58, 59, 60, 61, 62, 63, 64, 65, 66, 67, 68, 69, 70, 71, 72, 73, 74, 75, 76, 77, 78, 79, 80, 81, 82] (by decide +kernel) (by decide +kernel)
set_option maxRecDepth 20000 in
theorem gX12_keepsFrom_X12_findsFrom : GoodIn wsX12_keepsFrom (wsV RX12 340 RX12 yX12_findsFrom wsX12_findsFrom) := goodIn_app (goodIn_of _ (by decide +kernel)) ggX12_keepsFrom_X12_findsFrom
set_option maxRecDepth 20000 in
theorem ggX12_write_X12_isAwake : GoodIn wsX12_write wsX12_isAwake := goodIn_r _ [26, 7, 6, 99, 100, 101, 102, 103, 104, 105, 106, 107, 108, 109, 110, 111, 112, 113, 114, 115, 116, 117, 118, 119, 120, 121, 122, 123, 124, 125, 126, 127, 128, 129, 130, 131, 132, 133, 134, 135, 136, 137, 138, 139, 140, 141, 142, 143, 144, 145, 146, 147, 148, 149, 150, 151, 152, 153, 154, 155, 156, 157] (by decide +kernel) (by decide +kernel)
set_option maxRecDepth 20000 in
theorem gX12_write_X12_isAwake : GoodIn wsX12_write (wsV RX12 287 RX12 yX12_isAwake wsX12_isAwake) := goodIn_app (goodIn_of _ (by decide +kernel)) ggX12_write_X12_isAwake
set_option maxRecDepth 20000 in
theorem ggX3_workOut_X3_readPart : GoodIn wsX3_workOut wsX3_readPart := goodIn_r _ [36, 5, 6, 7, 8, 9, 37, 38, 39, 13, 40, 4, 2, 41, 42, 43, 44, 45, 46, 47, 48, 49, 16, 25, 17, 18, 50, 51, 52, 53, 54, 55, 56, 57, 58, 59, 60, 61, 62, 63, 64, 65, 66, 67, 68, 23, 69, 21, 22, 24, 70, 71, 72, 73, 87, 88, 89, 90, 91, 92, 93, 94, 74, 75, 76, 77, 78, 79, 80, 81, 82, 83, 84, 85, 86] (by decide +kernel) (by decide +kernel)
set_option maxRecDepth 20000 in
theorem gX3_workOut_X3_readPart : GoodIn wsX3_workOut (wsV RX3 58 RX3 yX3_readPart wsX3_readPart) := goodIn_app (goodIn_of _ (by decide +kernel)) ggX3_workOut_X3_readPart
set_option maxRecDepth 20000 in
theorem ggX12_read_X12_isAwake : GoodIn wsX12_read wsX12_isAwake := goodIn_r _ [22, 23, 24, 79, 80, 81, 82, 83, 84, 85, 86, 87, 88, 89, 90, 91, 92, 93, 94, 95, 96, 97, 98, 99, 100, 101, 102, 103, 104, 105, 106, 107, 108, 109, 110, 111, 112, 113, 114, 115, 116, 117, 118, 119, 120, 121, 122, 123, 124, 125, 126, 127, 128, 129, 130, 131, 132, 133, 134, 135, 136, 137] (by decide +kernel) (by decide +kernel)
set_option maxRecDepth 20000 in
theorem gX12_read_X12_isAwake : GoodIn wsX12_read (wsV RX12 287 RX12 yX12_isAwake wsX12_isAwake) := goodIn_app (goodIn_of _ (by decide +kernel)) ggX12_read_X12_isAwake
set_option maxRecDepth 20000 in
theorem ggX11_picked_X1_pick : GoodIn wsX11_picked wsX1_pick := goodIn_r _ [18, 19, 20, 21, 22, 23, 24, 17, 25, 26, 27, 28, 29, 30, 31, 32, 33, 34, 35, 36, 37, 7, 38, 39, 40, 41, 42, 43, 44, 45, 46, 47, 48, 49, 50, 51, 52, 53, 54, 55, 56, 57, 58, 59, 60, 61, 62, 63, 64, 78, 79, 80, 81, 82, 83, 84, 85, 86, 87, 88, 89, 90, 91, 92, 93, 94, 95, 96, 97, 98, 99] (by decide +kernel) (by decide +kernel)
set_option maxRecDepth 20000 in
theorem gX11_picked_X1_pick : GoodIn wsX11_picked (wsV RX11 221 RX1 yX1_pick wsX1_pick) := goodIn_app (goodIn_of _ (by decide +kernel)) ggX11_picked_X1_pick
set_option maxRecDepth 20000 in
theorem ggX12_tries_X12_isIn : GoodIn wsX12_tries wsX12_isIn := goodIn_r _ [13, 1, 76, 77, 78, 79, 80, 81, 82, 83, 84, 85, 86, 87, 88, 89, 90, 91, 92, 93, 94, 95, 96, 97, 98, 99, 100, 101, 102, 103, 104, 105, 106, 107, 108, 109, 110, 111, 112, 113, 114, 115, 116, 117, 118, 119, 120, 121, 122, 123, 124, 125, 126, 127, 128, 129, 130, 131, 132, 133, 134] (by decide +kernel) (by decide +kernel)
set_option maxRecDepth 20000 in
theorem gX12_tries_X12_isIn : GoodIn wsX12_tries (wsV RX12 223 RX12 yX12_isIn wsX12_isIn) := goodIn_app (goodIn_of _ (by decide +kernel)) ggX12_tries_X12_isIn
set_option maxRecDepth 20000 in
theorem ggX12_pick_X12_pickNext : GoodIn wsX12_pick wsX12_pickNext := goodIn_r _ [25, 26, 4, 1, 27, 28, 29, 30, 31, 32, 33, 34, 35, 36, 37, 38, 39, 40, 41, 42, 43, 44, 45, 46, 47, 48, 49, 50, 51, 52, 53, 54, 55, 56, 57, 58, 59, 60, 61, 62, 63, 64, 65, 66, 67, 68, 69, 70, 71, 72, 73, 74, 75, 76, 77, 78, 79, 80, 81, 82, 83, 84, 85] (by decide +kernel) (by decide +kernel)
set_option maxRecDepth 20000 in
theorem gX12_pick_X12_pickNext : GoodIn wsX12_pick (wsV RX12 247 RX12 yX12_pickNext wsX12_pickNext) := goodIn_app (goodIn_of _ (by decide +kernel)) ggX12_pick_X12_pickNext
set_option maxRecDepth 20000 in
theorem ggX12_pickBest_X12_isIn : GoodIn wsX12_pickBest wsX12_isIn := goodIn_r _ [15, 16, 17, 18, 19, 20, 21, 22, 23, 24, 25, 26, 27, 28, 29, 30, 31, 32, 33, 34, 35, 36, 37, 38, 39, 40, 41, 42, 43, 44, 45, 46, 47, 48, 49, 50, 51, 52, 53, 54, 55, 56, 57, 58, 59, 60, 61, 62, 63, 64, 65, 66, 67, 68, 69, 70, 71, 72, 73, 74, 75] (by decide +kernel) (by decide +kernel)
set_option maxRecDepth 20000 in
theorem gX12_pickBest_X12_isIn : GoodIn wsX12_pickBest (wsV RX12 223 RX12 yX12_isIn wsX12_isIn) := goodIn_app (goodIn_of _ (by decide +kernel)) ggX12_pickBest_X12_isIn
set_option maxRecDepth 20000 in
theorem ggX11_ofTable_X8_unevenness : GoodIn wsX11_ofTable wsX8_unevenness := goodIn_r _ [17, 18, 19, 20, 21, 22, 23, 24, 25, 26, 27, 28, 29, 16, 30, 31, 32, 33, 34, 35, 36, 37, 38, 39, 40, 41, 42, 43, 44, 45, 46, 47, 48, 49, 50, 9, 51, 52, 53, 54, 55, 56, 57, 58, 59, 60, 61, 62, 63, 64, 65] (by decide +kernel) (by decide +kernel)
set_option maxRecDepth 20000 in
theorem gX11_ofTable_X8_unevenness : GoodIn wsX11_ofTable (wsV RX11 211 RX8 yX8_unevenness wsX8_unevenness) := goodIn_app (goodIn_of _ (by decide +kernel)) ggX11_ofTable_X8_unevenness
set_option maxRecDepth 20000 in
theorem ggX5_seatSet_X8_seatAll : GoodIn wsX5_seatSet wsX8_seatAll := goodIn_r _ [122, 123, 124, 125, 126, 19, 127, 128, 129, 130, 131, 132, 133, 134, 135, 136, 137, 138, 16, 139, 140, 141, 142, 143, 144, 145, 146, 228, 229, 230, 231, 232, 233, 234, 235, 236, 237, 238, 239, 240] (by decide +kernel) (by decide +kernel)
set_option maxRecDepth 20000 in
theorem gX5_seatSet_X8_seatAll : GoodIn wsX5_seatSet (wsV RX5 87 RX8 yX8_seatAll wsX8_seatAll) := goodIn_app (goodIn_of _ (by decide +kernel)) ggX5_seatSet_X8_seatAll
set_option maxRecDepth 20000 in
theorem ggX6_mendAll_X6_greatestAnywhere : GoodIn wsX6_mendAll wsX6_greatestAnywhere := goodIn_r _ [12, 7, 13, 14, 15, 16, 17, 18, 19, 130, 131, 132, 133, 134, 135, 136, 137, 138, 139, 140, 141, 168, 169, 170, 171, 172, 173] (by decide +kernel) (by decide +kernel)
set_option maxRecDepth 20000 in
theorem gX6_mendAll_X6_greatestAnywhere : GoodIn wsX6_mendAll (wsV RX6 135 RX6 yX6_greatestAnywhere wsX6_greatestAnywhere) := goodIn_app (goodIn_of _ (by decide +kernel)) ggX6_mendAll_X6_greatestAnywhere
set_option maxRecDepth 20000 in
theorem ggX1_pick_X1_pickRound : GoodIn wsX1_pick wsX1_pickRound := goodIn_r _ [48, 32, 2, 9, 33, 34, 35, 36, 37, 7, 38, 39, 40, 41, 42, 1, 11, 43, 21, 44, 58, 59, 60, 61, 62, 63, 64, 65, 66, 67, 68, 69, 70, 49, 50, 51, 52, 53, 54, 55, 56, 57] (by decide +kernel) (by decide +kernel)
set_option maxRecDepth 20000 in
theorem gX1_pick_X1_pickRound : GoodIn wsX1_pick (wsV RX1 53 RX1 yX1_pickRound wsX1_pickRound) := goodIn_app (goodIn_of _ (by decide +kernel)) ggX1_pick_X1_pickRound
set_option maxRecDepth 20000 in
theorem ggX0_tellsFrom_X0_keepsFrom : GoodIn wsX0_tellsFrom wsX0_keepsFrom := goodIn_r _ [15, 1, 2, 3, 4, 5, 6, 7, 8, 12, 13, 14, 16, 17, 18, 19, 20, 21, 22, 23, 24, 25, 26, 27, 28, 29, 30] (by decide +kernel) (by decide +kernel)
set_option maxRecDepth 20000 in
theorem gX0_tellsFrom_X0_keepsFrom : GoodIn wsX0_tellsFrom (wsV RX0 32 RX0 yX0_keepsFrom wsX0_keepsFrom) := goodIn_app (goodIn_of _ (by decide +kernel)) ggX0_tellsFrom_X0_keepsFrom
set_option maxRecDepth 20000 in
theorem ggX0_run_X0_tellsFrom : GoodIn wsX0_run wsX0_tellsFrom := goodIn_r _ [26, 3, 9, 10, 11, 7, 12, 13, 14, 23, 24, 25, 15, 16, 17, 18, 19, 20, 21, 22, 1, 4, 5, 6, 8, 2, 27, 28, 29, 30, 31] (by decide +kernel) (by decide +kernel)
set_option maxRecDepth 20000 in
theorem gX0_run_X0_tellsFrom : GoodIn wsX0_run (wsV RX0 38 RX0 yX0_tellsFrom wsX0_tellsFrom) := goodIn_app (goodIn_of _ (by decide +kernel)) ggX0_run_X0_tellsFrom
set_option maxRecDepth 20000 in
theorem ggX6_handBack_X6_takesGreater : GoodIn wsX6_handBack wsX6_takesGreater := goodIn_r _ [11, 12, 13, 14, 15, 16, 17, 18, 19, 20, 21, 22, 23, 24] (by decide +kernel) (by decide +kernel)
set_option maxRecDepth 20000 in
theorem gX6_handBack_X6_takesGreater : GoodIn wsX6_handBack (wsV RX6 100 RX6 yX6_takesGreater wsX6_takesGreater) := goodIn_app (goodIn_of _ (by decide +kernel)) ggX6_handBack_X6_takesGreater
set_option maxRecDepth 20000 in
theorem ggX1_pickFirstFrom_X1_takePick : GoodIn wsX1_pickFirstFrom wsX1_takePick := goodIn_r _ [13, 14, 15, 9, 32, 33, 34, 35, 36, 37, 38, 39, 40] (by decide +kernel) (by decide +kernel)
set_option maxRecDepth 20000 in
theorem gX1_pickFirstFrom_X1_takePick : GoodIn wsX1_pickFirstFrom (wsV RX1 74 RX1 yX1_takePick wsX1_takePick) := goodIn_app (goodIn_of _ (by decide +kernel)) ggX1_pickFirstFrom_X1_takePick
set_option maxRecDepth 20000 in
theorem ggX1_pickFirstFrom_X1_isPicked : GoodIn wsX1_pickFirstFrom wsX1_isPicked := goodIn_r _ [8, 9, 32, 33, 34, 35, 36, 37, 38, 39, 40] (by decide +kernel) (by decide +kernel)
set_option maxRecDepth 20000 in
theorem gX1_pickFirstFrom_X1_isPicked : GoodIn wsX1_pickFirstFrom (wsV RX1 70 RX1 yX1_isPicked wsX1_isPicked) := goodIn_app (goodIn_of _ (by decide +kernel)) ggX1_pickFirstFrom_X1_isPicked
set_option maxRecDepth 20000 in
theorem ggX11_trees_X6_wordsAsked : GoodIn wsX11_trees wsX6_wordsAsked := goodIn_r _ [30, 14, 15, 54, 55, 56, 57, 58, 59, 60, 61, 62, 63, 64, 65] (by decide +kernel) (by decide +kernel)
set_option maxRecDepth 20000 in
theorem gX11_trees_X6_wordsAsked : GoodIn wsX11_trees (wsV RX11 303 RX6 yX6_wordsAsked wsX6_wordsAsked) := goodIn_app (goodIn_of _ (by decide +kernel)) ggX11_trees_X6_wordsAsked
set_option maxRecDepth 20000 in
theorem ggX0_run_X0_findsFrom : GoodIn wsX0_run wsX0_findsFrom := goodIn_r _ [8, 2, 1, 9, 10, 11, 7, 12, 13, 14, 4, 5, 6, 27, 28, 29, 30, 31] (by decide +kernel) (by decide +kernel)
set_option maxRecDepth 20000 in
theorem gX0_run_X0_findsFrom : GoodIn wsX0_run (wsV RX0 28 RX0 yX0_findsFrom wsX0_findsFrom) := goodIn_app (goodIn_of _ (by decide +kernel)) ggX0_run_X0_findsFrom
set_option maxRecDepth 20000 in
theorem ggX3_readOperand_X3_sign : GoodIn wsX3_readOperand wsX3_sign := goodIn_r _ [11, 5, 12, 13, 36, 37, 38, 39, 40, 41, 42, 43] (by decide +kernel) (by decide +kernel)
set_option maxRecDepth 20000 in
theorem gX3_readOperand_X3_sign : GoodIn wsX3_readOperand (wsV RX3 62 RX3 yX3_sign wsX3_sign) := goodIn_app (goodIn_of _ (by decide +kernel)) ggX3_readOperand_X3_sign
set_option maxRecDepth 20000 in
theorem ggX1_choose_X1_isChosen : GoodIn wsX1_choose wsX1_isChosen := goodIn_r _ [72, 2, 73, 74, 75, 76, 77, 78, 79, 80, 81] (by decide +kernel) (by decide +kernel)
set_option maxRecDepth 20000 in
theorem gX1_choose_X1_isChosen : GoodIn wsX1_choose (wsV RX1 111 RX1 yX1_isChosen wsX1_isChosen) := goodIn_app (goodIn_of _ (by decide +kernel)) ggX1_choose_X1_isChosen
set_option maxRecDepth 20000 in
theorem ggX11_moves_X4_placeOf : GoodIn wsX11_moves wsX4_placeOf := goodIn_r _ [24, 25, 26, 27, 121, 122, 123, 124] (by decide +kernel) (by decide +kernel)
set_option maxRecDepth 20000 in
theorem gX11_moves_X4_placeOf : GoodIn wsX11_moves (wsV RX11 127 RX4 yX4_placeOf wsX4_placeOf) := goodIn_app (goodIn_of _ (by decide +kernel)) ggX11_moves_X4_placeOf
set_option maxRecDepth 20000 in
theorem ggX6_movePiece_X2_isUp : GoodIn wsX6_movePiece wsX2_isUp := goodIn_r _ [9, 10, 11, 29, 30, 31, 32, 33, 34] (by decide +kernel) (by decide +kernel)
set_option maxRecDepth 20000 in
theorem gX6_movePiece_X2_isUp : GoodIn wsX6_movePiece (wsV RX6 117 RX2 yX2_isUp wsX2_isUp) := goodIn_app (goodIn_of _ (by decide +kernel)) ggX6_movePiece_X2_isUp
set_option maxRecDepth 20000 in
theorem ggX4_addFrom_X4_find : GoodIn wsX4_addFrom wsX4_find := goodIn_r _ [7, 8, 9, 10, 11, 12, 6, 13, 22, 23, 24, 25] (by decide +kernel) (by decide +kernel)
set_option maxRecDepth 20000 in
theorem gX4_addFrom_X4_find : GoodIn wsX4_addFrom (wsV RX4 41 RX4 yX4_find wsX4_find) := goodIn_app (goodIn_of _ (by decide +kernel)) ggX4_addFrom_X4_find
set_option maxRecDepth 20000 in
theorem ggX8_seatAll_J7_fill_031fb : GoodIn wsX8_seatAll wsJ7_fill_031fb := goodIn_r _ [10] (by decide +kernel) (by decide +kernel)
set_option maxRecDepth 20000 in
theorem gX8_seatAll_J7_fill_031fb : GoodIn wsX8_seatAll (va_wsS RX8 80 yJ7_fill_031fb wsJ7_fill_031fb) := goodIn_app (goodIn_of _ (by decide +kernel)) ggX8_seatAll_J7_fill_031fb
set_option maxRecDepth 20000 in
theorem ggX11_shift_X7_spans : GoodIn wsX11_shift wsX7_spans := goodIn_r _ [26, 27, 41, 42, 43, 44] (by decide +kernel) (by decide +kernel)
set_option maxRecDepth 20000 in
theorem gX11_shift_X7_spans : GoodIn wsX11_shift (wsV RX11 388 RX7 yX7_spans wsX7_spans) := goodIn_app (goodIn_of _ (by decide +kernel)) ggX11_shift_X7_spans
set_option maxRecDepth 20000 in
theorem ggX11_seat_X11_isPlace : GoodIn wsX11_seat wsX11_isPlace := goodIn_r _ [11] (by decide +kernel) (by decide +kernel)
set_option maxRecDepth 20000 in
theorem gX11_seat_X11_isPlace : GoodIn wsX11_seat (va_wsS RX11 215 yX11_isPlace wsX11_isPlace) := goodIn_app (goodIn_of _ (by decide +kernel)) ggX11_seat_X11_isPlace
set_option maxRecDepth 20000 in
theorem ggX11_read_X4_has : GoodIn wsX11_read wsX4_has := goodIn_r _ [15, 16, 147, 148, 149, 150] (by decide +kernel) (by decide +kernel)
set_option maxRecDepth 20000 in
theorem gX11_read_X4_has : GoodIn wsX11_read (wsV RX11 123 RX4 yX4_has wsX4_has) := goodIn_app (goodIn_of _ (by decide +kernel)) ggX11_read_X4_has
set_option maxRecDepth 20000 in
theorem ggX12_picked_X12_in : GoodIn wsX12_picked wsX12_in := goodIn_r _ [11] (by decide +kernel) (by decide +kernel)
set_option maxRecDepth 20000 in
theorem gX12_picked_X12_in : GoodIn wsX12_picked (va_wsS RX12 136 yX12_in wsX12_in) := goodIn_app (goodIn_of _ (by decide +kernel)) ggX12_picked_X12_in
set_option maxRecDepth 20000 in
theorem ggX12_share_X12_in : GoodIn wsX12_share wsX12_in := goodIn_r _ [10] (by decide +kernel) (by decide +kernel)
set_option maxRecDepth 20000 in
theorem gX12_share_X12_in : GoodIn wsX12_share (va_wsS RX12 136 yX12_in wsX12_in) := goodIn_app (goodIn_of _ (by decide +kernel)) ggX12_share_X12_in
set_option maxRecDepth 20000 in
theorem ggX8_freeFrom_X11_placeBehind : GoodIn wsX8_freeFrom wsX11_placeBehind := goodIn_r _ [4] (by decide +kernel) (by decide +kernel)
set_option maxRecDepth 20000 in
theorem gX8_freeFrom_X11_placeBehind_n96 : GoodIn wsX8_freeFrom (wsX11_placeBehind) := ggX8_freeFrom_X11_placeBehind
