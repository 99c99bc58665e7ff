set_option maxRecDepth 20000 in
theorem ggX12_harm_X12_tries : GoodIn wsX12_harm wsX12_tries := goodIn_r2 csX12_harm ciX12_harm _ [(1, 17), (1, 1), (1, 18), (1, 19), (1, 20), (1, 3), (1, 21), (1, 22), (1, 23), (2, 0), (2, 1), (2, 2), (1, 8), (2, 3), (2, 4), (2, 5), (2, 6), (2, 7), (2, 8), (2, 9), (2, 10), (2, 11), (2, 12), (2, 13), (2, 14), (2, 15), (2, 16), (2, 17), (2, 18), (2, 19), (2, 20), (2, 21), (2, 22), (2, 23), (3, 0), (3, 1), (3, 2), (3, 3), (3, 4), (3, 5), (3, 6), (3, 7), (3, 8), (3, 9), (3, 10), (3, 11), (3, 12), (1, 11), (1, 12), (1, 13), (3, 13), (3, 14), (3, 15), (3, 16), (3, 17), (3, 18), (3, 19), (3, 20), (3, 21), (3, 22), (3, 23), (4, 0), (4, 1), (4, 2), (4, 3), (4, 4), (4, 5), (4, 6), (4, 7), (4, 8), (4, 9), (4, 10), (4, 11), (4, 12), (4, 13), (4, 14), (6, 0), (6, 1), (6, 2), (6, 3), (6, 4), (6, 5), (6, 6), (6, 7), (6, 8), (6, 9), (6, 10), (6, 11), (6, 12), (6, 13), (6, 14), (6, 15), (6, 16), (6, 17), (6, 18), (6, 19), (6, 20), (6, 21), (6, 22), (6, 23), (6, 24), (6, 25), (6, 26), (6, 27), (6, 28), (6, 29), (6, 30), (6, 31), (6, 32), (6, 33), (6, 34), (6, 35), (6, 36), (6, 37), (6, 38), (6, 39), (6, 40), (6, 41), (6, 42), (6, 43), (6, 44), (6, 45), (6, 46), (6, 47), (6, 48), (6, 49), (6, 50), (6, 51), (6, 52), (6, 53), (6, 54), (6, 55), (6, 56), (6, 57), (6, 58)] rfl rfl
set_option maxRecDepth 20000 in
theorem gX12_harm_X12_tries : GoodIn wsX12_harm (wsV RX12 319 RX12 yX12_tries wsX12_tries) := goodIn_app (goodIn_r2 csX12_harm ciX12_harm _ [(1, 14), (1, 15), (1, 16), (1, 8)] rfl rfl) ggX12_harm_X12_tries
set_option maxRecDepth 20000 in
theorem ggX12_keeperOf_X12_chooseName : GoodIn wsX12_keeperOf wsX12_chooseName := goodIn_r2 csX12_keeperOf ciX12_keeperOf _ [(1, 19), (1, 20), (1, 21), (1, 22), (1, 23), (1, 5), (2, 0), (2, 1), (2, 2), (2, 3), (2, 4), (2, 5), (2, 6), (2, 7), (1, 0), (2, 8), (2, 9), (2, 10), (2, 11), (1, 1), (2, 12), (2, 13), (2, 14), (2, 15), (2, 16), (2, 17), (2, 18), (2, 19), (2, 20), (2, 21), (2, 22), (2, 23), (3, 0), (3, 1), (3, 2), (3, 3), (3, 4), (3, 5), (3, 6), (3, 7), (3, 8), (3, 9), (3, 10), (3, 11), (3, 12), (3, 13), (3, 14), (3, 15), (3, 16), (3, 17), (3, 18), (3, 19), (3, 20), (3, 21), (3, 22), (4, 0), (4, 1), (4, 2), (4, 3), (4, 4), (4, 5), (4, 6), (4, 7), (4, 8), (4, 9), (4, 10), (4, 11), (4, 12), (4, 13), (4, 14), (4, 15), (4, 16), (4, 17), (4, 18), (4, 19), (4, 20), (4, 21), (4, 22), (4, 23), (4, 24), (4, 25), (4, 26), (4, 27), (4, 28), (4, 29), (4, 30), (4, 31), (4, 32), (4, 33), (4, 34), (4, 35), (4, 36), (4, 37), (4, 38), (4, 39), (4, 40), (4, 41), (4, 42), (4, 43), (4, 44), (4, 45), (4, 46), (4, 47), (4, 48), (4, 49), (4, 50), (4, 51), (4, 52), (4, 53), (4, 54), (4, 55), (4, 56), (4, 57), (4, 58)] rfl rfl
set_option maxRecDepth 20000 in
theorem gX12_keeperOf_X12_chooseName : GoodIn wsX12_keeperOf (wsV RX12 269 RX12 yX12_chooseName wsX12_chooseName) := goodIn_app (goodIn_r2 csX12_keeperOf ciX12_keeperOf _ [(1, 16), (1, 17), (1, 18), (1, 5)] rfl rfl) ggX12_keeperOf_X12_chooseName
set_option maxRecDepth 20000 in
theorem ggX5_seatSet_X3_workOut : GoodIn wsX5_seatSet wsX3_workOut := goodIn_r2 csX5_seatSet ciX5_seatSet _ [(3, 2), (3, 3), (3, 4), (3, 5), (3, 6), (3, 7), (3, 8), (3, 9), (3, 10), (3, 11), (3, 12), (3, 13), (3, 14), (3, 1), (3, 15), (3, 16), (3, 17), (3, 18), (3, 19), (3, 20), (3, 21), (3, 22), (2, 13), (2, 10), (2, 14), (3, 23), (4, 0), (4, 1), (4, 2), (4, 3), (4, 4), (4, 5), (4, 6), (4, 7), (4, 8), (4, 9), (4, 10), (4, 11), (4, 12), (4, 13), (4, 14), (4, 15), (4, 16), (4, 17), (4, 18), (4, 19), (4, 20), (4, 21), (4, 22), (4, 23), (5, 0), (5, 1), (5, 2), (5, 3), (5, 4), (5, 5), (5, 6), (5, 7), (5, 8), (5, 9), (5, 10), (5, 11), (5, 12), (5, 13), (5, 14), (5, 15), (5, 16), (5, 17), (2, 9), (2, 11), (5, 18), (5, 19), (5, 20), (5, 21), (12, 0), (12, 1), (12, 2), (12, 3), (12, 4), (12, 5), (12, 6), (12, 7), (12, 8), (12, 9), (12, 10), (12, 11), (12, 12), (16, 0), (16, 1), (16, 2), (16, 3), (16, 4), (16, 5), (16, 6), (16, 7), (15, 0), (15, 1), (15, 2), (15, 3), (15, 4), (15, 5)] rfl rfl
set_option maxRecDepth 20000 in
theorem gX5_seatSet_X3_workOut : GoodIn wsX5_seatSet (wsV RX5 78 RX3 yX3_workOut wsX3_workOut) := goodIn_app (goodIn_r2 csX5_seatSet ciX5_seatSet _ [(2, 22), (2, 23), (3, 0), (3, 1)] rfl rfl) ggX5_seatSet_X3_workOut
set_option maxRecDepth 20000 in
theorem ggX12_tries_X12_reads : GoodIn wsX12_tries wsX12_reads := goodIn_r2 csX12_tries ciX12_tries _ [(2, 6), (2, 7), (2, 8), (2, 9), (2, 10), (2, 11), (2, 12), (2, 13), (1, 2), (2, 14), (2, 15), (2, 16), (1, 11), (2, 17), (1, 3), (2, 18), (2, 19), (2, 20), (2, 21), (2, 22), (2, 23), (3, 0), (3, 1), (3, 2), (3, 3), (3, 4), (3, 5), (3, 6), (3, 7), (3, 8), (1, 23), (2, 0), (2, 1), (2, 2), (3, 9), (3, 10), (3, 11), (3, 12), (3, 13), (3, 14), (3, 15), (5, 0), (5, 1), (5, 2), (5, 3), (5, 4), (5, 5), (5, 6), (5, 7), (5, 8), (5, 9), (5, 10), (5, 11), (5, 12), (5, 13), (5, 14), (5, 15), (5, 16), (5, 17), (5, 18), (5, 19), (5, 20), (5, 21), (5, 22), (5, 23), (5, 24), (5, 25), (5, 26), (5, 27), (5, 28), (5, 29), (5, 30), (5, 31), (5, 32), (5, 33), (5, 34), (5, 35), (5, 36), (5, 37), (5, 38), (5, 39), (5, 40), (5, 41), (5, 42), (5, 43), (5, 44), (5, 45), (5, 46), (5, 47), (5, 48), (5, 49), (5, 50), (5, 51), (5, 52), (5, 53), (5, 54), (5, 55), (5, 56), (5, 57), (5, 58)] rfl rfl
set_option maxRecDepth 20000 in
theorem gX12_tries_X12_reads : GoodIn wsX12_tries (wsV RX12 234 RX12 yX12_reads wsX12_reads) := goodIn_app (goodIn_r2 csX12_tries ciX12_tries _ [(2, 3), (2, 4), (2, 5), (1, 11)] rfl rfl) ggX12_tries_X12_reads
set_option maxRecDepth 20000 in
theorem ggX12_even_X12_findOdds : GoodIn wsX12_even wsX12_findOdds := goodIn_r2 csX12_even ciX12_even _ [(1, 6), (1, 1), (1, 7), (1, 8), (1, 9), (1, 10), (1, 5), (1, 11), (1, 12), (1, 13), (1, 14), (1, 15), (1, 16), (1, 17), (1, 18), (1, 0), (1, 19), (1, 20), (1, 21), (1, 22), (1, 23), (2, 0), (2, 1), (2, 2), (2, 3), (2, 4), (2, 5), (2, 6), (2, 7), (2, 8), (2, 9), (2, 10), (3, 0), (3, 1), (3, 2), (3, 3), (3, 4), (3, 5), (3, 6), (3, 7), (3, 8), (3, 9), (3, 10), (3, 11), (3, 12), (3, 13), (3, 14), (3, 15), (3, 16), (3, 17), (3, 18), (3, 19), (3, 20), (3, 21), (3, 22), (3, 23), (3, 24), (3, 25), (3, 26), (3, 27), (3, 28), (3, 29), (3, 30), (3, 31), (3, 32), (3, 33), (3, 34), (3, 35), (3, 36), (3, 37), (3, 38), (3, 39), (3, 40), (3, 41), (3, 42), (3, 43), (3, 44), (3, 45), (3, 46), (3, 47), (3, 48), (3, 49), (3, 50), (3, 51), (3, 52), (3, 53), (3, 54), (3, 55), (3, 56), (3, 57), (3, 58)] rfl rfl
set_option maxRecDepth 20000 in
theorem gX12_even_X12_findOdds : GoodIn wsX12_even (wsV RX12 275 RX12 yX12_findOdds wsX12_findOdds) := goodIn_app (goodIn_r2 csX12_even ciX12_even _ [(1, 2), (1, 3), (1, 4), (1, 5)] rfl rfl) ggX12_even_X12_findOdds
set_option maxRecDepth 20000 in
theorem ggX12_tellsFrom_X12_movesFrom : GoodIn wsX12_tellsFrom wsX12_movesFrom := goodIn_r2 csX12_tellsFrom ciX12_tellsFrom _ [(1, 23), (1, 0), (1, 1), (1, 2), (1, 3), (1, 4), (1, 5), (1, 6), (1, 7), (1, 20), (1, 21), (1, 22), (1, 12), (1, 13), (1, 14), (1, 15), (1, 16), (1, 17), (1, 18), (1, 19), (3, 0), (3, 1), (3, 2), (3, 3), (3, 4), (3, 5), (3, 6), (3, 7), (3, 8), (3, 9), (3, 10), (3, 11), (3, 12), (3, 13), (3, 14), (3, 15), (3, 16), (3, 17), (3, 18), (3, 19), (3, 20), (3, 21), (3, 22), (3, 23), (3, 24), (3, 25), (3, 26), (3, 27), (3, 28), (3, 29), (3, 30), (3, 31), (3, 32), (3, 33), (3, 34), (3, 35), (3, 36), (3, 37), (3, 38), (3, 39), (3, 40), (3, 41), (3, 42), (3, 43), (3, 44), (3, 45), (3, 46), (3, 47), (3, 48), (3, 49), (3, 50), (3, 51), (3, 52), (3, 53), (3, 54), (3, 55), (3, 56), (3, 57), (3, 58)] rfl rfl
set_option maxRecDepth 20000 in
theorem gX12_tellsFrom_X12_movesFrom : GoodIn wsX12_tellsFrom (wsV RX12 349 RX12 yX12_movesFrom wsX12_movesFrom) := goodIn_app (goodIn_r2 csX12_tellsFrom ciX12_tellsFrom _ [(1, 20), (1, 21), (1, 22), (1, 4)] rfl rfl) ggX12_tellsFrom_X12_movesFrom
set_option maxRecDepth 20000 in
theorem ggX12_one_X12_sum : GoodIn wsX12_one wsX12_sum := goodIn_r2 csX12_one ciX12_one _ [(2, 5), (1, 0), (1, 1), (2, 6), (2, 7), (2, 8), (1, 10), (1, 7), (1, 8), (1, 9), (1, 11), (1, 12), (1, 13), (1, 14), (0, 0), (1, 2), (1, 3), (1, 4), (1, 5), (1, 6), (1, 15), (1, 16), (1, 17), (1, 18), (1, 19), (1, 20), (1, 21), (1, 22), (1, 23), (2, 0), (2, 1), (2, 2), (2, 3), (2, 4), (3, 0), (3, 1), (3, 2), (3, 3), (3, 4), (3, 5), (3, 6), (3, 7), (3, 8), (3, 9), (3, 10), (3, 11), (3, 12), (3, 13), (3, 14), (3, 15), (3, 16), (3, 17), (3, 18), (3, 19), (3, 20), (3, 21), (3, 22), (3, 23), (3, 24), (3, 25), (3, 26), (3, 27), (3, 28), (3, 29), (3, 30), (3, 31), (3, 32), (3, 33), (3, 34), (3, 35), (3, 36), (3, 37), (3, 38), (3, 39), (3, 40), (3, 41), (3, 42), (3, 43), (3, 44), (3, 45), (3, 46), (3, 47), (3, 48), (3, 49), (3, 50), (3, 51), (3, 52), (3, 53), (3, 54), (3, 55), (3, 56), (3, 57), (3, 58)] rfl rfl
set_option maxRecDepth 20000 in
theorem gX12_one_X12_sum : GoodIn wsX12_one (wsV RX12 200 RX12 yX12_sum wsX12_sum) := goodIn_app (goodIn_r2 csX12_one ciX12_one _ [(1, 18), (1, 19), (1, 20), (1, 10)] rfl rfl) ggX12_one_X12_sum
set_option maxRecDepth 20000 in
theorem ggX12_table_X12_sits : GoodIn wsX12_table wsX12_sits := goodIn_r2 csX12_table ciX12_table _ [(3, 22), (3, 23), (4, 0), (1, 0), (1, 4), (1, 3), (2, 2), (2, 3), (2, 4), (1, 14), (2, 5), (1, 2), (4, 1), (4, 2), (4, 3), (4, 4), (4, 5), (5, 0), (5, 1), (5, 2), (5, 3), (5, 4), (5, 5), (5, 6), (5, 7), (5, 8), (5, 9), (5, 10), (5, 11), (5, 12), (5, 13), (5, 14), (5, 15), (5, 16), (5, 17), (5, 18), (5, 19), (5, 20), (5, 21), (5, 22), (5, 23), (5, 24), (5, 25), (5, 26), (5, 27), (5, 28), (5, 29), (5, 30), (5, 31), (5, 32), (5, 33), (5, 34), (5, 35), (5, 36), (5, 37), (5, 38), (5, 39), (5, 40), (5, 41), (5, 42), (5, 43), (5, 44), (5, 45), (5, 46), (5, 47), (5, 48), (5, 49), (5, 50), (5, 51), (5, 52), (5, 53), (5, 54), (5, 55), (5, 56), (5, 57), (5, 58)] rfl rfl
set_option maxRecDepth 20000 in
theorem gX12_table_X12_sits : GoodIn wsX12_table (wsV RX12 237 RX12 yX12_sits wsX12_sits) := goodIn_app (goodIn_r2 csX12_table ciX12_table _ [(3, 19), (3, 20), (3, 21), (1, 14)] rfl rfl) ggX12_table_X12_sits
set_option maxRecDepth 20000 in
theorem ggX12_write_X12_isName : GoodIn wsX12_write wsX12_isName := goodIn_r2 csX12_write ciX12_write _ [(1, 20), (1, 21), (1, 14), (1, 15), (1, 11), (1, 16), (6, 0), (6, 1), (6, 2), (6, 3), (6, 4), (6, 5), (6, 6), (6, 7), (6, 8), (6, 9), (6, 10), (6, 11), (6, 12), (6, 13), (6, 14), (6, 15), (6, 16), (6, 17), (6, 18), (6, 19), (6, 20), (6, 21), (6, 22), (6, 23), (6, 24), (6, 25), (6, 26), (6, 27), (6, 28), (6, 29), (6, 30), (6, 31), (6, 32), (6, 33), (6, 34), (6, 35), (6, 36), (6, 37), (6, 38), (6, 39), (6, 40), (6, 41), (6, 42), (6, 43), (6, 44), (6, 45), (6, 46), (6, 47), (6, 48), (6, 49), (6, 50), (6, 51), (6, 52), (6, 53), (6, 54), (6, 55), (6, 56), (6, 57), (6, 58)] rfl rfl
set_option maxRecDepth 20000 in
theorem gX12_write_X12_isName : GoodIn wsX12_write (wsV RX12 158 RX12 yX12_isName wsX12_isName) := goodIn_app (goodIn_r2 csX12_write ciX12_write _ [(1, 17), (1, 18), (1, 19), (1, 11)] rfl rfl) ggX12_write_X12_isName
set_option maxRecDepth 20000 in
theorem ggX3_workOut_X3_readPart : GoodIn wsX3_workOut wsX3_readPart := goodIn_r2 csX3_workOut ciX3_workOut _ [(2, 11), (1, 4), (1, 5), (1, 6), (1, 7), (1, 8), (2, 12), (2, 13), (2, 14), (1, 12), (2, 15), (1, 3), (1, 1), (2, 16), (2, 17), (2, 18), (2, 19), (2, 20), (2, 21), (2, 22), (2, 23), (3, 0), (1, 15), (2, 0), (1, 16), (1, 17), (3, 1), (3, 2), (3, 3), (3, 4), (3, 5), (3, 6), (3, 7), (3, 8), (3, 9), (3, 10), (3, 11), (3, 12), (3, 13), (3, 14), (3, 15), (3, 16), (3, 17), (3, 18), (3, 19), (1, 22), (3, 20), (1, 20), (1, 21), (1, 23), (3, 21), (3, 22), (3, 23), (4, 0), (6, 0), (6, 1), (6, 2), (6, 3), (6, 4), (6, 5), (6, 6), (6, 7), (5, 0), (5, 1), (5, 2), (5, 3), (5, 4), (5, 5), (5, 6), (5, 7), (5, 8), (5, 9), (5, 10), (5, 11), (5, 12)] rfl rfl
set_option maxRecDepth 20000 in
theorem gX3_workOut_X3_readPart : GoodIn wsX3_workOut (wsV RX3 58 RX3 yX3_readPart wsX3_readPart) := goodIn_app (goodIn_r2 csX3_workOut ciX3_workOut _ [(2, 8), (2, 9), (2, 10), (1, 12)] rfl rfl) ggX3_workOut_X3_readPart
set_option maxRecDepth 20000 in
theorem ggX12_read_X12_isAwake : GoodIn wsX12_read wsX12_isAwake := goodIn_r2 csX12_read ciX12_read _ [(1, 21), (1, 22), (1, 23), (5, 0), (5, 1), (5, 2), (5, 3), (5, 4), (5, 5), (5, 6), (5, 7), (5, 8), (5, 9), (5, 10), (5, 11), (5, 12), (5, 13), (5, 14), (5, 15), (5, 16), (5, 17), (5, 18), (5, 19), (5, 20), (5, 21), (5, 22), (5, 23), (5, 24), (5, 25), (5, 26), (5, 27), (5, 28), (5, 29), (5, 30), (5, 31), (5, 32), (5, 33), (5, 34), (5, 35), (5, 36), (5, 37), (5, 38), (5, 39), (5, 40), (5, 41), (5, 42), (5, 43), (5, 44), (5, 45), (5, 46), (5, 47), (5, 48), (5, 49), (5, 50), (5, 51), (5, 52), (5, 53), (5, 54), (5, 55), (5, 56), (5, 57), (5, 58)] rfl rfl
set_option maxRecDepth 20000 in
theorem gX12_read_X12_isAwake : GoodIn wsX12_read (wsV RX12 287 RX12 yX12_isAwake wsX12_isAwake) := goodIn_app (goodIn_r2 csX12_read ciX12_read _ [(1, 18), (1, 19), (1, 20), (1, 7)] rfl rfl) ggX12_read_X12_isAwake
set_option maxRecDepth 20000 in
theorem ggX11_picked_X1_pick : GoodIn wsX11_picked wsX1_pick := goodIn_r2 csX11_picked ciX11_picked _ [(1, 17), (1, 18), (1, 19), (1, 20), (1, 21), (1, 22), (1, 23), (1, 16), (2, 0), (2, 1), (2, 2), (2, 3), (2, 4), (2, 5), (2, 6), (2, 7), (2, 8), (2, 9), (2, 10), (2, 11), (2, 12), (1, 6), (2, 13), (2, 14), (2, 15), (2, 16), (2, 17), (2, 18), (2, 19), (2, 20), (2, 21), (2, 22), (2, 23), (3, 0), (3, 1), (3, 2), (3, 3), (3, 4), (3, 5), (3, 6), (3, 7), (3, 8), (3, 9), (3, 10), (3, 11), (3, 12), (3, 13), (3, 14), (3, 15), (5, 0), (5, 1), (5, 2), (5, 3), (5, 4), (5, 5), (5, 6), (5, 7), (5, 8), (6, 0), (6, 1), (6, 2), (6, 3), (6, 4), (6, 5), (6, 6), (6, 7), (6, 8), (6, 9), (6, 10), (6, 11), (6, 12)] rfl rfl
set_option maxRecDepth 20000 in
theorem gX11_picked_X1_pick : GoodIn wsX11_picked (wsV RX11 221 RX1 yX1_pick wsX1_pick) := goodIn_app (goodIn_r2 csX11_picked ciX11_picked _ [(1, 13), (1, 14), (1, 15), (1, 16)] rfl rfl) ggX11_picked_X1_pick
set_option maxRecDepth 20000 in
theorem ggX12_half_X12_isKeeper : GoodIn wsX12_half wsX12_isKeeper := goodIn_r2 csX12_half ciX12_half _ [(1, 15), (1, 16), (1, 9), (1, 10), (1, 6), (1, 11), (2, 0), (2, 1), (2, 2), (2, 3), (2, 4), (2, 5), (2, 6), (2, 7), (2, 8), (2, 9), (2, 10), (2, 11), (2, 12), (2, 13), (2, 14), (2, 15), (2, 16), (2, 17), (2, 18), (2, 19), (2, 20), (2, 21), (2, 22), (2, 23), (2, 24), (2, 25), (2, 26), (2, 27), (2, 28), (2, 29), (2, 30), (2, 31), (2, 32), (2, 33), (2, 34), (2, 35), (2, 36), (2, 37), (2, 38), (2, 39), (2, 40), (2, 41), (2, 42), (2, 43), (2, 44), (2, 45), (2, 46), (2, 47), (2, 48), (2, 49), (2, 50), (2, 51), (2, 52), (2, 53), (2, 54), (2, 55), (2, 56), (2, 57), (2, 58)] rfl rfl
set_option maxRecDepth 20000 in
theorem gX12_half_X12_isKeeper : GoodIn wsX12_half (wsV RX12 166 RX12 yX12_isKeeper wsX12_isKeeper) := goodIn_app (goodIn_r2 csX12_half ciX12_half _ [(1, 12), (1, 13), (1, 14), (1, 6)] rfl rfl) ggX12_half_X12_isKeeper
set_option maxRecDepth 20000 in
theorem ggX12_comes_X12_isComing : GoodIn wsX12_comes wsX12_isComing := goodIn_r2 csX12_comes ciX12_comes _ [(1, 14), (1, 0), (1, 1), (2, 0), (2, 1), (2, 2), (2, 3), (2, 4), (2, 5), (2, 6), (2, 7), (2, 8), (2, 9), (2, 10), (2, 11), (2, 12), (2, 13), (2, 14), (2, 15), (2, 16), (2, 17), (2, 18), (2, 19), (2, 20), (2, 21), (2, 22), (2, 23), (2, 24), (2, 25), (2, 26), (2, 27), (2, 28), (2, 29), (2, 30), (2, 31), (2, 32), (2, 33), (2, 34), (2, 35), (2, 36), (2, 37), (2, 38), (2, 39), (2, 40), (2, 41), (2, 42), (2, 43), (2, 44), (2, 45), (2, 46), (2, 47), (2, 48), (2, 49), (2, 50), (2, 51), (2, 52), (2, 53), (2, 54), (2, 55), (2, 56), (2, 57), (2, 58)] rfl rfl
set_option maxRecDepth 20000 in
theorem gX12_comes_X12_isComing : GoodIn wsX12_comes (wsV RX12 313 RX12 yX12_isComing wsX12_isComing) := goodIn_app (goodIn_r2 csX12_comes ciX12_comes _ [(1, 11), (1, 12), (1, 13), (1, 5)] rfl rfl) ggX12_comes_X12_isComing
set_option maxRecDepth 20000 in
theorem ggX12_names_X12_found : GoodIn wsX12_names wsX12_found := goodIn_r2 csX12_names ciX12_names _ [(1, 16), (1, 5), (1, 17), (1, 18), (1, 4), (2, 0), (2, 1), (2, 2), (2, 3), (2, 4), (2, 5), (2, 6), (2, 7), (2, 8), (2, 9), (2, 10), (2, 11), (2, 12), (2, 13), (2, 14), (2, 15), (2, 16), (2, 17), (2, 18), (2, 19), (2, 20), (2, 21), (2, 22), (2, 23), (2, 24), (2, 25), (2, 26), (2, 27), (2, 28), (2, 29), (2, 30), (2, 31), (2, 32), (2, 33), (2, 34), (2, 35), (2, 36), (2, 37), (2, 38), (2, 39), (2, 40), (2, 41), (2, 42), (2, 43), (2, 44), (2, 45), (2, 46), (2, 47), (2, 48), (2, 49), (2, 50), (2, 51), (2, 52), (2, 53), (2, 54), (2, 55), (2, 56), (2, 57), (2, 58)] rfl rfl
set_option maxRecDepth 20000 in
theorem gX12_names_X12_found : GoodIn wsX12_names (wsV RX12 149 RX12 yX12_found wsX12_found) := goodIn_app (goodIn_r2 csX12_names ciX12_names _ [(1, 13), (1, 14), (1, 15), (1, 8)] rfl rfl) ggX12_names_X12_found
noncomputable def csX12_eats : List (List Cond) := [[.code yX12_eats cX12_eats 2 none], [.fieldLink RX12 183 "SeatsRoundModel" "isFaulty" "Z", .fieldLink RX12 177 "SeatsRoundModel" "at" "I", .methodLink RX12 187 yX12_here, .instanceMethod yX12_here, .selects RX12 yX12_here yX12_here, .initialized RX12, .code yX12_here cX12_here 1 (some .int), .fieldLink RX12 47 "SeatsRoundModel" "lawSize" "[I", .fieldLink RX12 180 "SeatsRoundModel" "lawTable" "I", .fieldLink RX12 50 "SeatsRoundModel" "lawByte" "[I"], wsX120]
set_option maxRecDepth 20000 in
theorem ciX12_eats : ∀ l ∈ csX12_eats, ∀ w ∈ l, w ∈ wsX12_eats := by
  unfold csX12_eats
  refine List.forall_mem_cons.mpr ⟨fun _ h => List.mem_cons.mpr (Or.inl (List.mem_singleton.mp h)), List.forall_mem_cons.mpr ⟨fun _ h => List.mem_cons_of_mem _ (List.mem_append_left _ h), List.forall_mem_cons.mpr ⟨fun _ h => List.mem_cons_of_mem _ (List.mem_append_right _ h), fun l h => absurd h List.not_mem_nil⟩⟩⟩
set_option maxRecDepth 20000 in
theorem ggX12_eats_X12_here : GoodIn wsX12_eats wsX12_here := goodIn_r2 csX12_eats ciX12_eats _ [(1, 6), (1, 1), (1, 7), (1, 8), (1, 9), (2, 0), (2, 1), (2, 2), (2, 3), (2, 4), (2, 5), (2, 6), (2, 7), (2, 8), (2, 9), (2, 10), (2, 11), (2, 12), (2, 13), (2, 14), (2, 15), (2, 16), (2, 17), (2, 18), (2, 19), (2, 20), (2, 21), (2, 22), (2, 23), (2, 24), (2, 25), (2, 26), (2, 27), (2, 28), (2, 29), (2, 30), (2, 31), (2, 32), (2, 33), (2, 34), (2, 35), (2, 36), (2, 37), (2, 38), (2, 39), (2, 40), (2, 41), (2, 42), (2, 43), (2, 44), (2, 45), (2, 46), (2, 47), (2, 48), (2, 49), (2, 50), (2, 51), (2, 52), (2, 53), (2, 54), (2, 55), (2, 56), (2, 57), (2, 58)] rfl rfl
set_option maxRecDepth 20000 in
theorem gX12_eats_X12_here : GoodIn wsX12_eats (wsV RX12 187 RX12 yX12_here wsX12_here) := goodIn_app (goodIn_r2 csX12_eats ciX12_eats _ [(1, 2), (1, 3), (1, 4), (1, 5)] rfl rfl) ggX12_eats_X12_here
set_option maxRecDepth 20000 in
theorem ggX3_readOperand_X3_readBracket : GoodIn wsX3_readOperand wsX3_readBracket := goodIn_r2 csX3_readOperand ciX3_readOperand _ [(1, 23), (1, 4), (1, 5), (2, 0), (2, 1), (2, 2), (1, 9), (1, 6), (1, 7), (1, 8), (1, 10), (1, 11), (1, 12), (0, 0), (1, 0), (1, 1), (1, 2), (1, 3), (1, 13), (1, 14), (1, 15), (1, 16), (1, 17), (1, 18), (1, 19), (1, 20), (1, 21), (1, 22), (2, 3), (2, 4), (2, 5), (2, 6), (2, 7), (2, 8), (2, 9), (2, 10), (3, 0), (3, 1), (3, 2), (3, 3), (3, 4), (3, 5), (3, 6), (3, 7)] rfl rfl
set_option maxRecDepth 20000 in
theorem gX3_readOperand_X3_readBracket : GoodIn wsX3_readOperand (wsV RX3 113 RX3 yX3_readBracket wsX3_readBracket) := goodIn_app (goodIn_r2 csX3_readOperand ciX3_readOperand _ [(1, 20), (1, 21), (1, 22), (1, 9)] rfl rfl) ggX3_readOperand_X3_readBracket
set_option maxRecDepth 20000 in
theorem ggX6_mendAll_X6_greatestAnywhere : GoodIn wsX6_mendAll wsX6_greatestAnywhere := goodIn_r2 csX6_mendAll ciX6_mendAll _ [(1, 11), (1, 6), (1, 12), (1, 13), (1, 14), (1, 15), (1, 16), (1, 17), (1, 18), (7, 0), (7, 1), (7, 2), (7, 3), (7, 4), (7, 5), (7, 6), (7, 7), (7, 8), (7, 9), (7, 10), (7, 11), (11, 0), (11, 1), (11, 2), (11, 3), (11, 4), (11, 5)] rfl rfl
set_option maxRecDepth 20000 in
theorem gX6_mendAll_X6_greatestAnywhere : GoodIn wsX6_mendAll (wsV RX6 135 RX6 yX6_greatestAnywhere wsX6_greatestAnywhere) := goodIn_app (goodIn_r2 csX6_mendAll ciX6_mendAll _ [(1, 7), (1, 8), (1, 9), (1, 10)] rfl rfl) ggX6_mendAll_X6_greatestAnywhere
set_option maxRecDepth 20000 in
theorem ggX10_greatestShare_X8_firstFor : GoodIn wsX10_greatestShare wsX8_firstFor := goodIn_r2 csX10_greatestShare ciX10_greatestShare _ [(2, 0), (2, 1), (2, 2), (2, 3), (2, 4), (2, 5), (2, 6), (2, 7), (1, 23), (2, 8), (2, 9), (2, 10), (2, 11), (2, 12), (2, 13), (2, 14), (2, 15), (5, 0), (5, 1), (5, 2), (5, 3), (5, 4), (5, 5), (5, 6), (5, 7), (5, 8), (5, 9), (5, 10), (5, 11), (5, 12)] rfl rfl
set_option maxRecDepth 20000 in
theorem gX10_greatestShare_X8_firstFor : GoodIn wsX10_greatestShare (wsV RX10 59 RX8 yX8_firstFor wsX8_firstFor) := goodIn_app (goodIn_r2 csX10_greatestShare ciX10_greatestShare _ [(1, 20), (1, 21), (1, 22), (1, 23)] rfl rfl) ggX10_greatestShare_X8_firstFor
set_option maxRecDepth 20000 in
theorem ggX11_become_X6_handBack : GoodIn wsX11_become wsX6_handBack := goodIn_r2 csX11_become ciX11_become _ [(1, 17), (1, 18), (1, 19), (1, 20), (1, 21), (1, 22), (1, 23), (2, 0), (2, 1), (2, 2), (1, 16), (2, 3), (2, 4), (5, 0), (5, 1), (5, 2), (5, 3), (5, 4), (5, 5), (5, 6), (5, 7), (5, 8), (5, 9), (5, 10), (5, 11), (4, 0), (4, 1), (4, 2), (4, 3), (4, 4), (4, 5), (6, 0), (6, 1), (6, 2), (6, 3)] rfl rfl
set_option maxRecDepth 20000 in
theorem gX11_become_X6_handBack : GoodIn wsX11_become (wsV RX11 145 RX6 yX6_handBack wsX6_handBack) := goodIn_app (goodIn_r2 csX11_become ciX11_become _ [(1, 13), (1, 14), (1, 15), (1, 16)] rfl rfl) ggX11_become_X6_handBack
set_option maxRecDepth 20000 in
theorem ggX11_table_X8_takeLaw : GoodIn wsX11_table wsX8_takeLaw := goodIn_r2 csX11_table ciX11_table _ [(2, 4), (2, 5), (2, 6), (2, 7), (2, 8), (2, 9), (2, 10), (2, 11), (2, 12), (2, 13), (2, 14), (2, 15), (2, 16), (2, 17), (11, 0), (11, 1), (11, 2), (11, 3), (11, 4), (11, 5), (11, 6), (11, 7), (11, 8), (11, 9), (11, 10), (11, 11), (11, 12)] rfl rfl
set_option maxRecDepth 20000 in
theorem gX11_table_X8_takeLaw : GoodIn wsX11_table (wsV RX11 177 RX8 yX8_takeLaw wsX8_takeLaw) := goodIn_app (goodIn_r2 csX11_table ciX11_table _ [(2, 1), (2, 2), (2, 3), (1, 10)] rfl rfl) ggX11_table_X8_takeLaw
set_option maxRecDepth 20000 in
theorem ggX11_names_X4_addFrom : GoodIn wsX11_names wsX4_addFrom := goodIn_r2 csX11_names ciX11_names _ [(2, 0), (2, 1), (2, 2), (2, 3), (2, 4), (2, 5), (1, 23), (2, 6), (2, 7), (2, 8), (2, 9), (2, 10), (2, 11), (2, 12), (2, 13), (2, 14), (2, 15), (2, 16), (2, 17), (2, 18), (2, 19), (2, 20), (5, 0), (5, 1), (5, 2), (5, 3)] rfl rfl
set_option maxRecDepth 20000 in
theorem gX11_names_X4_addFrom : GoodIn wsX11_names (wsV RX11 407 RX4 yX4_addFrom wsX4_addFrom) := goodIn_app (goodIn_r2 csX11_names ciX11_names _ [(1, 20), (1, 21), (1, 22), (1, 23)] rfl rfl) ggX11_names_X4_addFrom
set_option maxRecDepth 20000 in
theorem ggX11_act_X0_run : GoodIn wsX11_act wsX0_run := goodIn_r2 csX11_act ciX11_act _ [(1, 15), (1, 16), (1, 17), (1, 18), (1, 19), (1, 20), (1, 21), (1, 14), (1, 22), (1, 23), (2, 0), (2, 1), (2, 2), (2, 3), (2, 4), (2, 5), (2, 6), (2, 7), (2, 8), (2, 9), (2, 10), (2, 11), (2, 12), (2, 13), (2, 14), (2, 15), (2, 16), (4, 0), (4, 1), (4, 2), (4, 3), (4, 4)] rfl rfl
set_option maxRecDepth 20000 in
theorem gX11_act_X0_run : GoodIn wsX11_act (wsV RX11 347 RX0 yX0_run wsX0_run) := goodIn_app (goodIn_r2 csX11_act ciX11_act _ [(1, 11), (1, 12), (1, 13), (1, 14)] rfl rfl) ggX11_act_X0_run
set_option maxRecDepth 20000 in
theorem ggX8_seatAll_X8_linkPlaces : GoodIn wsX8_seatAll wsX8_linkPlaces := goodIn_r2 csX8_seatAll ciX8_seatAll _ [(2, 0), (1, 3), (2, 1), (3, 0), (3, 1), (3, 2), (3, 3), (3, 4), (3, 5), (3, 6), (3, 7), (3, 8), (3, 9), (3, 10), (3, 11), (3, 12)] rfl rfl
set_option maxRecDepth 20000 in
theorem gX8_seatAll_X8_linkPlaces : GoodIn wsX8_seatAll (wsV RX8 93 RX8 yX8_linkPlaces wsX8_linkPlaces) := goodIn_app (goodIn_r2 csX8_seatAll ciX8_seatAll _ [(1, 21), (1, 22), (1, 23), (1, 17)] rfl rfl) ggX8_seatAll_X8_linkPlaces
noncomputable def csX6_compare : List (List Cond) := [[.code yX6_compare cX6_compare 3 none], [.fieldLink RX6 32 "SeatsRound$Parcels" "oneTree" "[I", .fieldLink RX6 35 "SeatsRound$Parcels" "otherTree" "[I", .methodLink RX6 138 yX6_grow, .instanceMethod yX6_grow, .selects RX6 yX6_grow yX6_grow, .initialized RX6, .code yX6_grow cX6_grow 4 none, .fieldLink RX6 46 "SeatsRound$Parcels" "nameList" "LSeatsRound$NameList;", .fieldLink RX6 123 "SeatsRound$NameList" "count" "I", .fieldLink RX6 11 "SeatsRound$Parcels" "version" "[[I", .methodLink RX6 124 yJ7_fill_53178, .static yJ7_fill_53178, .initialized RJ7, .code yJ7_fill_53178 cJ7_fill_53178 4 none], wsX60, wsX40]
set_option maxRecDepth 20000 in
theorem ciX6_compare : ∀ l ∈ csX6_compare, ∀ w ∈ l, w ∈ wsX6_compare := by
  unfold csX6_compare
  refine List.forall_mem_cons.mpr ⟨fun _ h => List.mem_cons.mpr (Or.inl (List.mem_singleton.mp h)), List.forall_mem_cons.mpr ⟨fun _ h => List.mem_cons_of_mem _ (List.mem_append_left _ (List.mem_append_left _ h)), List.forall_mem_cons.mpr ⟨fun _ h => List.mem_cons_of_mem _ (List.mem_append_left _ (List.mem_append_right _ h)), List.forall_mem_cons.mpr ⟨fun _ h => List.mem_cons_of_mem _ (List.mem_append_right _ h), fun l h => absurd h List.not_mem_nil⟩⟩⟩⟩
set_option maxRecDepth 20000 in
theorem ggX6_compare_X6_grow : GoodIn wsX6_compare wsX6_grow := goodIn_r2 csX6_compare ciX6_compare _ [(1, 6), (1, 7), (1, 8), (1, 9), (1, 10), (1, 11), (1, 12), (1, 13), (2, 0), (2, 1), (2, 2), (2, 3), (2, 4), (2, 5), (2, 6), (2, 7), (2, 8), (2, 9), (2, 10), (2, 11), (3, 0), (3, 1), (3, 2), (3, 3)] rfl rfl
set_option maxRecDepth 20000 in
theorem gX6_compare_X6_grow : GoodIn wsX6_compare (wsV RX6 138 RX6 yX6_grow wsX6_grow) := goodIn_app (goodIn_r2 csX6_compare ciX6_compare _ [(1, 2), (1, 3), (1, 4), (1, 5)] rfl rfl) ggX6_compare_X6_grow
set_option maxRecDepth 20000 in
theorem ggX3_readPart_X3_readWay : GoodIn wsX3_readPart wsX3_readWay := goodIn_r2 csX3_readPart ciX3_readPart _ [(3, 4), (1, 0), (1, 1), (1, 5), (1, 6), (1, 7), (1, 8), (1, 9), (1, 10), (1, 11), (4, 0), (4, 1), (4, 2), (4, 3), (4, 4), (4, 5), (4, 6), (4, 7)] rfl rfl
set_option maxRecDepth 20000 in
theorem gX3_readPart_X3_readWay : GoodIn wsX3_readPart (wsV RX3 94 RX3 yX3_readWay wsX3_readWay) := goodIn_app (goodIn_r2 csX3_readPart ciX3_readPart _ [(3, 1), (3, 2), (3, 3), (1, 8)] rfl rfl) ggX3_readPart_X3_readWay
set_option maxRecDepth 20000 in
theorem ggX6_greatestFor_X4_placeOf : GoodIn wsX6_greatestFor wsX4_placeOf := goodIn_r2 csX6_greatestFor ciX6_greatestFor _ [(1, 15), (1, 16), (1, 17), (1, 18), (9, 0), (9, 1), (9, 2), (9, 3)] rfl rfl
set_option maxRecDepth 20000 in
theorem gX6_greatestFor_X4_placeOf : GoodIn wsX6_greatestFor (wsV RX6 59 RX4 yX4_placeOf wsX4_placeOf) := goodIn_app (goodIn_r2 csX6_greatestFor ciX6_greatestFor _ [(1, 11), (1, 12), (1, 13), (1, 14)] rfl rfl) ggX6_greatestFor_X4_placeOf
set_option maxRecDepth 20000 in
theorem ggX5_seatSet_X2_counting : GoodIn wsX5_seatSet wsX2_counting := goodIn_r2 csX5_seatSet ciX5_seatSet _ [(2, 19), (2, 20), (2, 21), (15, 0), (15, 1), (15, 2), (15, 3), (15, 4), (15, 5)] rfl rfl
set_option maxRecDepth 20000 in
theorem gX5_seatSet_X2_counting : GoodIn wsX5_seatSet (wsV RX5 73 RX2 yX2_counting wsX2_counting) := goodIn_app (goodIn_r2 csX5_seatSet ciX5_seatSet _ [(2, 15), (2, 16), (2, 17), (2, 18)] rfl rfl) ggX5_seatSet_X2_counting
set_option maxRecDepth 20000 in
theorem ggX11_strength_X11_isStrength : GoodIn wsX11_strength wsX11_isStrength := goodIn_r2 csX11_strength ciX11_strength _ [(1, 11)] rfl rfl
set_option maxRecDepth 20000 in
theorem gX11_strength_X11_isStrength : GoodIn wsX11_strength (va_wsS RX11 131 yX11_isStrength wsX11_isStrength) := goodIn_app (goodIn_r2 csX11_strength ciX11_strength _ [(1, 8), (1, 9), (1, 10)] rfl rfl) ggX11_strength_X11_isStrength
set_option maxRecDepth 20000 in
theorem ggX3_readSum_X3_sign : GoodIn wsX3_readSum wsX3_sign := goodIn_r2 csX3_readSum ciX3_readSum _ [(1, 9), (1, 1), (1, 10), (1, 11), (3, 0), (3, 1), (3, 2), (3, 3), (3, 4), (3, 5), (3, 6), (3, 7)] rfl rfl
set_option maxRecDepth 20000 in
theorem gX3_readSum_X3_sign : GoodIn wsX3_readSum (wsV RX3 62 RX3 yX3_sign wsX3_sign) := goodIn_app (goodIn_r2 csX3_readSum ciX3_readSum _ [(1, 6), (1, 7), (1, 8), (1, 5)] rfl rfl) ggX3_readSum_X3_sign
set_option maxRecDepth 20000 in
theorem ggX6_mendAll_X2_isUp : GoodIn wsX6_mendAll wsX2_isUp := goodIn_r2 csX6_mendAll ciX6_mendAll _ [(5, 10), (5, 11), (5, 12), (11, 0), (11, 1), (11, 2), (11, 3), (11, 4), (11, 5)] rfl rfl
set_option maxRecDepth 20000 in
theorem gX6_mendAll_X2_isUp : GoodIn wsX6_mendAll (wsV RX6 117 RX2 yX2_isUp wsX2_isUp) := goodIn_app (goodIn_r2 csX6_mendAll ciX6_mendAll _ [(5, 6), (5, 7), (5, 8), (5, 9)] rfl rfl) ggX6_mendAll_X2_isUp
set_option maxRecDepth 20000 in
theorem ggX12_findsFrom_X12_aboveOf : GoodIn wsX12_findsFrom wsX12_aboveOf := goodIn_r2 csX12_findsFrom ciX12_findsFrom _ [(1, 13)] rfl rfl
set_option maxRecDepth 20000 in
theorem gX12_findsFrom_X12_aboveOf : GoodIn wsX12_findsFrom (va_wsS RX12 343 yX12_aboveOf wsX12_aboveOf) := goodIn_app (goodIn_r2 csX12_findsFrom ciX12_findsFrom _ [(1, 11), (1, 12), (1, 4)] rfl rfl) ggX12_findsFrom_X12_aboveOf
noncomputable def csX11_name : List (List Cond) := [[.code yX11_name cX11_name 2 (some .int)], [.fieldLink RX11 10 "SeatsRound" "tape" "LSeatsRound$Tape;", .fieldLink RX11 102 "SeatsRound$Tape" "length" "I", .fieldLink RX11 19 "SeatsRound" "nameList" "LSeatsRound$NameList;", .fieldLink RX11 109 "SeatsRound$Tape" "bytes" "[B", .fieldLink RX11 117 "SeatsRound$NameList" "count" "I", .methodLink RX11 113 yX4_find, .instanceMethod yX4_find, .selects RX4 yX4_find yX4_find, .initialized RX4, .code yX4_find cX4_find 5 (some .int), .fieldLink RX4 24 "SeatsRound$NameList" "count" "I", .fieldLink RX4 16 "SeatsRound$NameList" "size" "[I", .fieldLink RX4 11 "SeatsRound$NameList" "bytes" "[[B", .methodLink RX4 28 yX4_isAlike, .static yX4_isAlike, .code yX4_isAlike cX4_isAlike 5 (some .boolean), .methodLink RX11 120 yX4_add, .instanceMethod yX4_add, .selects RX4 yX4_add yX4_add, .code yX4_add cX4_add 4 (some .int), .methodLink RX4 32 arraycopyName, .native arraycopyName, .static arraycopyName, .initialized "java/lang/System"], wsX110, wsX90, wsX40]
set_option maxRecDepth 20000 in
theorem ciX11_name : ∀ l ∈ csX11_name, ∀ w ∈ l, w ∈ wsX11_name := by
  unfold csX11_name
  refine List.forall_mem_cons.mpr ⟨fun _ h => List.mem_cons.mpr (Or.inl (List.mem_singleton.mp h)), List.forall_mem_cons.mpr ⟨fun _ h => List.mem_cons_of_mem _ (List.mem_append_left _ (List.mem_append_left _ (List.mem_append_left _ h))), List.forall_mem_cons.mpr ⟨fun _ h => List.mem_cons_of_mem _ (List.mem_append_left _ (List.mem_append_left _ (List.mem_append_right _ h))), List.forall_mem_cons.mpr ⟨fun _ h => List.mem_cons_of_mem _ (List.mem_append_left _ (List.mem_append_right _ h)), List.forall_mem_cons.mpr ⟨fun _ h => List.mem_cons_of_mem _ (List.mem_append_right _ h), fun l h => absurd h List.not_mem_nil⟩⟩⟩⟩⟩
set_option maxRecDepth 20000 in
theorem ggX11_name_X4_find : GoodIn wsX11_name wsX4_find := goodIn_r2 csX11_name ciX11_name _ [(1, 9), (1, 10), (1, 11), (1, 12), (1, 13), (1, 14), (1, 8), (1, 15), (4, 0), (4, 1), (4, 2), (4, 3)] rfl rfl
set_option maxRecDepth 20000 in
theorem gX11_name_X4_find : GoodIn wsX11_name (wsV RX11 113 RX4 yX4_find wsX4_find) := goodIn_app (goodIn_r2 csX11_name ciX11_name _ [(1, 5), (1, 6), (1, 7), (1, 8)] rfl rfl) ggX11_name_X4_find
set_option maxRecDepth 20000 in
theorem ggX11_onShelf_X4_has : GoodIn wsX11_onShelf wsX4_has := goodIn_r2 csX11_onShelf ciX11_onShelf _ [(1, 17), (1, 18), (5, 0), (5, 1), (5, 2), (5, 3)] rfl rfl
set_option maxRecDepth 20000 in
theorem gX11_onShelf_X4_has : GoodIn wsX11_onShelf (wsV RX11 123 RX4 yX4_has wsX4_has) := goodIn_app (goodIn_r2 csX11_onShelf ciX11_onShelf _ [(1, 13), (1, 14), (1, 15), (1, 16)] rfl rfl) ggX11_onShelf_X4_has
set_option maxRecDepth 20000 in
theorem ggX11_taken_X2_has : GoodIn wsX11_taken wsX2_has := goodIn_r2 csX11_taken ciX11_taken _ [(1, 22), (1, 23), (5, 0), (5, 1), (5, 2), (5, 3), (5, 4), (5, 5)] rfl rfl
set_option maxRecDepth 20000 in
theorem gX11_taken_X2_has : GoodIn wsX11_taken (wsV RX11 137 RX2 yX2_has wsX2_has) := goodIn_app (goodIn_r2 csX11_taken ciX11_taken _ [(1, 18), (1, 19), (1, 20), (1, 21)] rfl rfl) ggX11_taken_X2_has
set_option maxRecDepth 20000 in
theorem ggX12_keeperOf_X12_in : GoodIn wsX12_keeperOf wsX12_in := goodIn_r2 csX12_keeperOf ciX12_keeperOf _ [(1, 10)] rfl rfl
set_option maxRecDepth 20000 in
theorem gX12_keeperOf_X12_in : GoodIn wsX12_keeperOf (va_wsS RX12 136 yX12_in wsX12_in) := goodIn_app (goodIn_r2 csX12_keeperOf ciX12_keeperOf _ [(1, 8), (1, 9), (1, 5)] rfl rfl) ggX12_keeperOf_X12_in
set_option maxRecDepth 20000 in
theorem ggX12_picked_X12_in : GoodIn wsX12_picked wsX12_in := goodIn_r2 csX12_picked ciX12_picked _ [(1, 10)] rfl rfl
set_option maxRecDepth 20000 in
theorem gX12_picked_X12_in : GoodIn wsX12_picked (va_wsS RX12 136 yX12_in wsX12_in) := goodIn_app (goodIn_r2 csX12_picked ciX12_picked _ [(1, 8), (1, 9), (1, 5)] rfl rfl) ggX12_picked_X12_in
set_option maxRecDepth 20000 in
theorem ggX12_moves_X12_in : GoodIn wsX12_moves wsX12_in := goodIn_r2 csX12_moves ciX12_moves _ [(1, 11)] rfl rfl
set_option maxRecDepth 20000 in
theorem gX12_moves_X12_in : GoodIn wsX12_moves (va_wsS RX12 136 yX12_in wsX12_in) := goodIn_app (goodIn_r2 csX12_moves ciX12_moves _ [(1, 9), (1, 10), (1, 6)] rfl rfl) ggX12_moves_X12_in
set_option maxRecDepth 20000 in
theorem ggX8_seatAll_X11_strewn : GoodIn wsX8_seatAll wsX11_strewn := goodIn_r2 csX8_seatAll ciX8_seatAll _ [(1, 12), (1, 13)] rfl rfl
set_option maxRecDepth 20000 in
theorem gX8_seatAll_X11_strewn_n87 : GoodIn wsX8_seatAll (wsX11_strewn) := ggX8_seatAll_X11_strewn
