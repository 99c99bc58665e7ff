set_option maxRecDepth 20000 in
theorem ggX12_order_X12_chooseName : GoodIn wsX12_order wsX12_chooseName := goodIn_r2 csX12_order ciX12_order _ [(5, 2), (1, 1), (5, 3), (5, 4), (5, 5), (1, 10), (5, 6), (5, 7), (5, 8), (5, 9), (5, 10), (5, 11), (5, 12), (5, 13), (5, 14), (5, 15), (3, 10), (5, 16), (3, 11), (5, 17), (5, 18), (5, 19), (5, 20), (5, 21), (1, 20), (3, 12), (5, 22), (5, 23), (6, 0), (6, 1), (2, 4), (2, 5), (4, 18), (4, 19), (4, 20), (4, 21), (4, 22), (2, 8), (2, 9), (2, 10), (2, 11), (6, 2), (6, 3), (6, 4), (6, 5), (4, 16), (6, 6), (6, 7), (6, 8), (6, 9), (2, 6), (6, 10), (6, 11), (6, 12), (6, 13), (8, 0), (8, 1), (8, 2), (8, 3), (8, 4), (8, 5), (8, 6), (8, 7), (8, 8), (8, 9), (8, 10), (8, 11), (8, 12), (8, 13), (8, 14), (8, 15), (8, 16), (8, 17), (8, 18), (8, 19), (8, 20), (8, 21), (8, 22), (8, 23), (8, 24), (8, 25), (8, 26), (8, 27), (8, 28), (8, 29), (8, 30), (8, 31), (8, 32), (8, 33), (8, 34), (8, 35), (8, 36), (8, 37), (8, 38), (8, 39), (8, 40), (8, 41), (8, 42), (8, 43), (8, 44), (8, 45), (8, 46), (8, 47), (8, 48), (8, 49), (8, 50), (8, 51), (8, 52), (8, 53), (8, 54), (8, 55), (8, 56), (8, 57), (8, 58)] rfl rfl
set_option maxRecDepth 20000 in
theorem gX12_order_X12_chooseName : GoodIn wsX12_order (wsV RX12 269 RX12 yX12_chooseName wsX12_chooseName) := goodIn_app (goodIn_r2 csX12_order ciX12_order _ [(4, 23), (5, 0), (5, 1), (1, 10)] rfl rfl) ggX12_order_X12_chooseName
set_option maxRecDepth 20000 in
theorem ggX12_write_X12_chooseName : GoodIn wsX12_write wsX12_chooseName := goodIn_r2 csX12_write ciX12_write _ [(2, 5), (2, 6), (2, 7), (2, 8), (2, 9), (1, 11), (2, 10), (2, 11), (2, 12), (2, 13), (2, 14), (2, 15), (2, 16), (2, 17), (1, 3), (2, 18), (2, 19), (2, 20), (2, 21), (1, 4), (2, 22), (2, 23), (3, 0), (3, 1), (3, 2), (3, 3), (3, 4), (3, 5), (3, 6), (3, 7), (1, 13), (3, 8), (3, 9), (3, 10), (3, 11), (3, 12), (3, 13), (3, 14), (3, 15), (3, 16), (3, 17), (3, 18), (3, 19), (3, 20), (3, 21), (3, 22), (3, 23), (4, 0), (4, 1), (4, 2), (4, 3), (4, 4), (4, 5), (4, 6), (4, 7), (6, 0), (6, 1), (6, 2), (6, 3), (6, 4), (6, 5), (6, 6), (6, 7), (6, 8), (6, 9), (6, 10), (6, 11), (6, 12), (6, 13), (6, 14), (6, 15), (6, 16), (6, 17), (6, 18), (6, 19), (6, 20), (6, 21), (6, 22), (6, 23), (6, 24), (6, 25), (6, 26), (6, 27), (6, 28), (6, 29), (6, 30), (6, 31), (6, 32), (6, 33), (6, 34), (6, 35), (6, 36), (6, 37), (6, 38), (6, 39), (6, 40), (6, 41), (6, 42), (6, 43), (6, 44), (6, 45), (6, 46), (6, 47), (6, 48), (6, 49), (6, 50), (6, 51), (6, 52), (6, 53), (6, 54), (6, 55), (6, 56), (6, 57), (6, 58)] rfl rfl
set_option maxRecDepth 20000 in
theorem gX12_write_X12_chooseName : GoodIn wsX12_write (wsV RX12 269 RX12 yX12_chooseName wsX12_chooseName) := goodIn_app (goodIn_r2 csX12_write ciX12_write _ [(2, 2), (2, 3), (2, 4), (1, 11)] rfl rfl) ggX12_write_X12_chooseName
set_option maxRecDepth 20000 in
theorem ggX12_chooseName_X12_choose : GoodIn wsX12_chooseName wsX12_choose := goodIn_r2 csX12_chooseName ciX12_chooseName _ [(1, 12), (1, 13), (1, 14), (1, 15), (1, 16), (1, 17), (1, 18), (1, 19), (1, 20), (1, 21), (1, 4), (1, 22), (1, 23), (2, 0), (2, 1), (2, 2), (2, 3), (2, 4), (2, 5), (1, 0), (2, 6), (2, 7), (2, 8), (2, 9), (2, 10), (2, 11), (2, 12), (2, 13), (2, 14), (2, 15), (2, 16), (2, 17), (2, 18), (2, 19), (2, 20), (2, 21), (2, 22), (2, 23), (3, 0), (3, 1), (3, 2), (3, 3), (3, 4), (3, 5), (4, 0), (4, 1), (4, 2), (4, 3), (4, 4), (4, 5), (4, 6), (4, 7), (4, 8), (4, 9), (4, 10), (4, 11), (4, 12), (4, 13), (4, 14), (4, 15), (4, 16), (4, 17), (4, 18), (4, 19), (4, 20), (4, 21), (4, 22), (4, 23), (4, 24), (4, 25), (4, 26), (4, 27), (4, 28), (4, 29), (4, 30), (4, 31), (4, 32), (4, 33), (4, 34), (4, 35), (4, 36), (4, 37), (4, 38), (4, 39), (4, 40), (4, 41), (4, 42), (4, 43), (4, 44), (4, 45), (4, 46), (4, 47), (4, 48), (4, 49), (4, 50), (4, 51), (4, 52), (4, 53), (4, 54), (4, 55), (4, 56), (4, 57), (4, 58)] rfl rfl
set_option maxRecDepth 20000 in
theorem gX12_chooseName_X12_choose : GoodIn wsX12_chooseName (wsV RX12 263 RX12 yX12_choose wsX12_choose) := goodIn_app (goodIn_r2 csX12_chooseName ciX12_chooseName _ [(1, 9), (1, 10), (1, 11), (1, 4)] rfl rfl) ggX12_chooseName_X12_choose
set_option maxRecDepth 20000 in
theorem ggX11_tooFew_X1_choose : GoodIn wsX11_tooFew wsX1_choose := goodIn_r2 csX11_tooFew ciX11_tooFew _ [(2, 1), (2, 2), (2, 3), (2, 4), (2, 5), (2, 6), (2, 7), (2, 8), (2, 9), (2, 10), (2, 11), (2, 12), (2, 13), (2, 14), (2, 15), (2, 16), (2, 17), (2, 0), (2, 18), (2, 19), (2, 20), (2, 21), (2, 22), (2, 23), (3, 0), (3, 1), (3, 2), (3, 3), (3, 4), (3, 5), (3, 6), (3, 7), (3, 8), (3, 9), (3, 10), (3, 11), (1, 9), (3, 12), (3, 13), (3, 14), (3, 15), (3, 16), (3, 17), (3, 18), (3, 19), (3, 20), (3, 21), (3, 22), (3, 23), (4, 0), (4, 1), (4, 2), (4, 3), (4, 4), (4, 5), (4, 6), (4, 7), (4, 8), (4, 9), (4, 10), (4, 11), (4, 12), (4, 13), (4, 14), (4, 15), (4, 16), (4, 17), (4, 18), (4, 19), (4, 20), (4, 21), (4, 22), (4, 23), (9, 0), (9, 1), (9, 2), (9, 3), (9, 4), (9, 5), (9, 6), (9, 7), (9, 8), (8, 0), (8, 1), (8, 2), (8, 3), (8, 4), (8, 5), (8, 6), (8, 7), (8, 8), (8, 9), (8, 10), (8, 11), (8, 12), (10, 0), (10, 1), (10, 2), (10, 3), (10, 4), (10, 5)] rfl rfl
set_option maxRecDepth 20000 in
theorem gX11_tooFew_X1_choose : GoodIn wsX11_tooFew (wsV RX11 234 RX1 yX1_choose wsX1_choose) := goodIn_app (goodIn_r2 csX11_tooFew ciX11_tooFew _ [(1, 21), (1, 22), (1, 23), (2, 0)] rfl rfl) ggX11_tooFew_X1_choose
set_option maxRecDepth 20000 in
theorem ggX12_order_X12_movesBy : GoodIn wsX12_order wsX12_movesBy := goodIn_r2 csX12_order ciX12_order _ [(6, 21), (1, 0), (1, 4), (1, 2), (1, 3), (1, 16), (1, 17), (1, 18), (1, 10), (1, 19), (1, 20), (1, 21), (6, 22), (6, 23), (7, 0), (8, 0), (8, 1), (8, 2), (8, 3), (8, 4), (8, 5), (8, 6), (8, 7), (8, 8), (8, 9), (8, 10), (8, 11), (8, 12), (8, 13), (8, 14), (8, 15), (8, 16), (8, 17), (8, 18), (8, 19), (8, 20), (8, 21), (8, 22), (8, 23), (8, 24), (8, 25), (8, 26), (8, 27), (8, 28), (8, 29), (8, 30), (8, 31), (8, 32), (8, 33), (8, 34), (8, 35), (8, 36), (8, 37), (8, 38), (8, 39), (8, 40), (8, 41), (8, 42), (8, 43), (8, 44), (8, 45), (8, 46), (8, 47), (8, 48), (8, 49), (8, 50), (8, 51), (8, 52), (8, 53), (8, 54), (8, 55), (8, 56), (8, 57), (8, 58)] rfl rfl
set_option maxRecDepth 20000 in
theorem gX12_order_X12_movesBy : GoodIn wsX12_order (wsV RX12 322 RX12 yX12_movesBy wsX12_movesBy) := goodIn_app (goodIn_r2 csX12_order ciX12_order _ [(6, 18), (6, 19), (6, 20), (1, 10)] rfl rfl) ggX12_order_X12_movesBy
set_option maxRecDepth 20000 in
theorem ggX12_reads_X12_sum : GoodIn wsX12_reads wsX12_sum := goodIn_r2 csX12_reads ciX12_reads _ [(2, 0), (1, 3), (1, 1), (2, 1), (2, 2), (2, 3), (1, 11), (1, 8), (1, 9), (1, 10), (1, 12), (1, 7), (1, 0), (1, 13), (2, 4), (1, 2), (2, 5), (2, 6), (2, 7), (2, 8), (1, 18), (1, 19), (1, 20), (1, 21), (1, 22), (1, 23), (1, 14), (1, 15), (1, 16), (1, 17), (2, 9), (2, 10), (2, 11), (2, 12), (3, 0), (3, 1), (3, 2), (3, 3), (3, 4), (3, 5), (3, 6), (3, 7), (3, 8), (3, 9), (3, 10), (3, 11), (3, 12), (3, 13), (3, 14), (3, 15), (3, 16), (3, 17), (3, 18), (3, 19), (3, 20), (3, 21), (3, 22), (3, 23), (3, 24), (3, 25), (3, 26), (3, 27), (3, 28), (3, 29), (3, 30), (3, 31), (3, 32), (3, 33), (3, 34), (3, 35), (3, 36), (3, 37), (3, 38), (3, 39), (3, 40), (3, 41), (3, 42), (3, 43), (3, 44), (3, 45), (3, 46), (3, 47), (3, 48), (3, 49), (3, 50), (3, 51), (3, 52), (3, 53), (3, 54), (3, 55), (3, 56), (3, 57), (3, 58)] rfl rfl
set_option maxRecDepth 20000 in
theorem gX12_reads_X12_sum : GoodIn wsX12_reads (wsV RX12 200 RX12 yX12_sum wsX12_sum) := goodIn_app (goodIn_r2 csX12_reads ciX12_reads _ [(1, 21), (1, 22), (1, 23), (1, 11)] rfl rfl) ggX12_reads_X12_sum
set_option maxRecDepth 20000 in
theorem ggX12_wordsBelow_X12_wordsBelow : GoodIn wsX12_wordsBelow wsX12_wordsBelow := goodIn_r2 csX12_wordsBelow ciX12_wordsBelow _ [(0, 0), (1, 0), (1, 1), (1, 2), (1, 3), (1, 4), (1, 5), (1, 6), (1, 7), (1, 8), (1, 9), (1, 10), (1, 11), (1, 12), (1, 13), (2, 0), (2, 1), (2, 2), (2, 3), (2, 4), (2, 5), (2, 6), (2, 7), (2, 8), (2, 9), (2, 10), (2, 11), (2, 12), (2, 13), (2, 14), (2, 15), (2, 16), (2, 17), (2, 18), (2, 19), (2, 20), (2, 21), (2, 22), (2, 23), (2, 24), (2, 25), (2, 26), (2, 27), (2, 28), (2, 29), (2, 30), (2, 31), (2, 32), (2, 33), (2, 34), (2, 35), (2, 36), (2, 37), (2, 38), (2, 39), (2, 40), (2, 41), (2, 42), (2, 43), (2, 44), (2, 45), (2, 46), (2, 47), (2, 48), (2, 49), (2, 50), (2, 51), (2, 52), (2, 53), (2, 54), (2, 55), (2, 56), (2, 57), (2, 58)] rfl rfl
set_option maxRecDepth 20000 in
theorem gX12_wordsBelow_X12_wordsBelow : GoodIn wsX12_wordsBelow (wsV RX12 307 RX12 yX12_wordsBelow wsX12_wordsBelow) := goodIn_app (goodIn_r2 csX12_wordsBelow ciX12_wordsBelow _ [(1, 11), (1, 12), (1, 13), (1, 3)] rfl rfl) ggX12_wordsBelow_X12_wordsBelow
set_option maxRecDepth 20000 in
theorem ggX12_keepsFrom_X12_findsFrom : GoodIn wsX12_keepsFrom wsX12_findsFrom := goodIn_r2 csX12_keepsFrom ciX12_keepsFrom _ [(1, 11), (1, 12), (1, 1), (1, 2), (1, 3), (1, 4), (1, 5), (1, 6), (1, 7), (1, 8), (1, 9), (1, 10), (1, 13), (1, 14), (1, 15), (2, 0), (2, 1), (2, 2), (2, 3), (2, 4), (2, 5), (2, 6), (2, 7), (2, 8), (2, 9), (2, 10), (2, 11), (2, 12), (2, 13), (2, 14), (2, 15), (2, 16), (2, 17), (2, 18), (2, 19), (2, 20), (2, 21), (2, 22), (2, 23), (2, 24), (2, 25), (2, 26), (2, 27), (2, 28), (2, 29), (2, 30), (2, 31), (2, 32), (2, 33), (2, 34), (2, 35), (2, 36), (2, 37), (2, 38), (2, 39), (2, 40), (2, 41), (2, 42), (2, 43), (2, 44), (2, 45), (2, 46), (2, 47), (2, 48), (2, 49), (2, 50), (2, 51), (2, 52), (2, 53), (2, 54), (2, 55), (2, 56), (2, 57), (2, 58)] rfl rfl
set_option maxRecDepth 20000 in
theorem gX12_keepsFrom_X12_findsFrom : GoodIn wsX12_keepsFrom (wsV RX12 340 RX12 yX12_findsFrom wsX12_findsFrom) := goodIn_app (goodIn_r2 csX12_keepsFrom ciX12_keepsFrom _ [(1, 8), (1, 9), (1, 10), (1, 4)] rfl rfl) ggX12_keepsFrom_X12_findsFrom
set_option maxRecDepth 20000 in
theorem ggX12_mend_X12_hasRoom : GoodIn wsX12_mend wsX12_hasRoom := goodIn_r2 csX12_mend ciX12_mend _ [(4, 5), (4, 1), (1, 3), (4, 6), (4, 7), (4, 8), (1, 9), (4, 9), (4, 10), (5, 0), (5, 1), (5, 2), (5, 3), (5, 4), (5, 5), (5, 6), (5, 7), (5, 8), (5, 9), (5, 10), (5, 11), (5, 12), (5, 13), (5, 14), (5, 15), (5, 16), (5, 17), (5, 18), (5, 19), (5, 20), (5, 21), (5, 22), (5, 23), (5, 24), (5, 25), (5, 26), (5, 27), (5, 28), (5, 29), (5, 30), (5, 31), (5, 32), (5, 33), (5, 34), (5, 35), (5, 36), (5, 37), (5, 38), (5, 39), (5, 40), (5, 41), (5, 42), (5, 43), (5, 44), (5, 45), (5, 46), (5, 47), (5, 48), (5, 49), (5, 50), (5, 51), (5, 52), (5, 53), (5, 54), (5, 55), (5, 56), (5, 57), (5, 58)] rfl rfl
set_option maxRecDepth 20000 in
theorem gX12_mend_X12_hasRoom : GoodIn wsX12_mend (wsV RX12 297 RX12 yX12_hasRoom wsX12_hasRoom) := goodIn_app (goodIn_r2 csX12_mend ciX12_mend _ [(4, 2), (4, 3), (4, 4), (1, 9)] rfl rfl) ggX12_mend_X12_hasRoom
set_option maxRecDepth 20000 in
theorem ggX12_act_X12_findsFrom : GoodIn wsX12_act wsX12_findsFrom := goodIn_r2 csX12_act ciX12_act _ [(1, 14), (1, 15), (1, 16), (1, 17), (1, 18), (1, 5), (1, 19), (1, 0), (1, 20), (1, 11), (1, 12), (1, 13), (1, 21), (1, 22), (1, 23), (3, 0), (3, 1), (3, 2), (3, 3), (3, 4), (3, 5), (3, 6), (3, 7), (3, 8), (3, 9), (3, 10), (3, 11), (3, 12), (3, 13), (3, 14), (3, 15), (3, 16), (3, 17), (3, 18), (3, 19), (3, 20), (3, 21), (3, 22), (3, 23), (3, 24), (3, 25), (3, 26), (3, 27), (3, 28), (3, 29), (3, 30), (3, 31), (3, 32), (3, 33), (3, 34), (3, 35), (3, 36), (3, 37), (3, 38), (3, 39), (3, 40), (3, 41), (3, 42), (3, 43), (3, 44), (3, 45), (3, 46), (3, 47), (3, 48), (3, 49), (3, 50), (3, 51), (3, 52), (3, 53), (3, 54), (3, 55), (3, 56), (3, 57), (3, 58)] rfl rfl
set_option maxRecDepth 20000 in
theorem gX12_act_X12_findsFrom : GoodIn wsX12_act (wsV RX12 340 RX12 yX12_findsFrom wsX12_findsFrom) := goodIn_app (goodIn_r2 csX12_act ciX12_act _ [(1, 11), (1, 12), (1, 13), (1, 5)] rfl rfl) ggX12_act_X12_findsFrom
set_option maxRecDepth 20000 in
theorem ggX12_share_X12_isKeeper : GoodIn wsX12_share wsX12_isKeeper := goodIn_r2 csX12_share ciX12_share _ [(1, 13), (1, 14), (1, 7), (1, 8), (1, 4), (1, 9), (4, 0), (4, 1), (4, 2), (4, 3), (4, 4), (4, 5), (4, 6), (4, 7), (4, 8), (4, 9), (4, 10), (4, 11), (4, 12), (4, 13), (4, 14), (4, 15), (4, 16), (4, 17), (4, 18), (4, 19), (4, 20), (4, 21), (4, 22), (4, 23), (4, 24), (4, 25), (4, 26), (4, 27), (4, 28), (4, 29), (4, 30), (4, 31), (4, 32), (4, 33), (4, 34), (4, 35), (4, 36), (4, 37), (4, 38), (4, 39), (4, 40), (4, 41), (4, 42), (4, 43), (4, 44), (4, 45), (4, 46), (4, 47), (4, 48), (4, 49), (4, 50), (4, 51), (4, 52), (4, 53), (4, 54), (4, 55), (4, 56), (4, 57), (4, 58)] rfl rfl
set_option maxRecDepth 20000 in
theorem gX12_share_X12_isKeeper : GoodIn wsX12_share (wsV RX12 166 RX12 yX12_isKeeper wsX12_isKeeper) := goodIn_app (goodIn_r2 csX12_share ciX12_share _ [(1, 10), (1, 11), (1, 12), (1, 4)] rfl rfl) ggX12_share_X12_isKeeper
set_option maxRecDepth 20000 in
theorem ggX12_moves_X12_bits : GoodIn wsX12_moves wsX12_bits := goodIn_r2 csX12_moves ciX12_moves _ [(3, 22), (2, 9), (2, 14), (5, 0), (5, 1), (5, 2), (5, 3), (5, 4), (5, 5), (5, 6), (5, 7), (5, 8), (5, 9), (5, 10), (5, 11), (5, 12), (5, 13), (5, 14), (5, 15), (5, 16), (5, 17), (5, 18), (5, 19), (5, 20), (5, 21), (5, 22), (5, 23), (5, 24), (5, 25), (5, 26), (5, 27), (5, 28), (5, 29), (5, 30), (5, 31), (5, 32), (5, 33), (5, 34), (5, 35), (5, 36), (5, 37), (5, 38), (5, 39), (5, 40), (5, 41), (5, 42), (5, 43), (5, 44), (5, 45), (5, 46), (5, 47), (5, 48), (5, 49), (5, 50), (5, 51), (5, 52), (5, 53), (5, 54), (5, 55), (5, 56), (5, 57), (5, 58)] rfl rfl
set_option maxRecDepth 20000 in
theorem gX12_moves_X12_bits : GoodIn wsX12_moves (wsV RX12 281 RX12 yX12_bits wsX12_bits) := goodIn_app (goodIn_r2 csX12_moves ciX12_moves _ [(3, 19), (3, 20), (3, 21), (1, 6)] rfl rfl) ggX12_moves_X12_bits
set_option maxRecDepth 20000 in
theorem ggX12_tries_X12_isIn : GoodIn wsX12_tries wsX12_isIn := goodIn_r2 csX12_tries ciX12_tries _ [(1, 12), (1, 0), (5, 0), (5, 1), (5, 2), (5, 3), (5, 4), (5, 5), (5, 6), (5, 7), (5, 8), (5, 9), (5, 10), (5, 11), (5, 12), (5, 13), (5, 14), (5, 15), (5, 16), (5, 17), (5, 18), (5, 19), (5, 20), (5, 21), (5, 22), (5, 23), (5, 24), (5, 25), (5, 26), (5, 27), (5, 28), (5, 29), (5, 30), (5, 31), (5, 32), (5, 33), (5, 34), (5, 35), (5, 36), (5, 37), (5, 38), (5, 39), (5, 40), (5, 41), (5, 42), (5, 43), (5, 44), (5, 45), (5, 46), (5, 47), (5, 48), (5, 49), (5, 50), (5, 51), (5, 52), (5, 53), (5, 54), (5, 55), (5, 56), (5, 57), (5, 58)] rfl rfl
set_option maxRecDepth 20000 in
theorem gX12_tries_X12_isIn : GoodIn wsX12_tries (wsV RX12 223 RX12 yX12_isIn wsX12_isIn) := goodIn_app (goodIn_r2 csX12_tries ciX12_tries _ [(1, 8), (1, 9), (1, 10), (1, 11)] rfl rfl) ggX12_tries_X12_isIn
set_option maxRecDepth 20000 in
theorem ggX12_pick_X12_pickNext : GoodIn wsX12_pick wsX12_pickNext := goodIn_r2 csX12_pick ciX12_pick _ [(2, 0), (2, 1), (1, 3), (1, 0), (3, 0), (3, 1), (3, 2), (3, 3), (3, 4), (3, 5), (3, 6), (3, 7), (3, 8), (3, 9), (3, 10), (3, 11), (3, 12), (3, 13), (3, 14), (3, 15), (3, 16), (3, 17), (3, 18), (3, 19), (3, 20), (3, 21), (3, 22), (3, 23), (3, 24), (3, 25), (3, 26), (3, 27), (3, 28), (3, 29), (3, 30), (3, 31), (3, 32), (3, 33), (3, 34), (3, 35), (3, 36), (3, 37), (3, 38), (3, 39), (3, 40), (3, 41), (3, 42), (3, 43), (3, 44), (3, 45), (3, 46), (3, 47), (3, 48), (3, 49), (3, 50), (3, 51), (3, 52), (3, 53), (3, 54), (3, 55), (3, 56), (3, 57), (3, 58)] rfl rfl
set_option maxRecDepth 20000 in
theorem gX12_pick_X12_pickNext : GoodIn wsX12_pick (wsV RX12 247 RX12 yX12_pickNext wsX12_pickNext) := goodIn_app (goodIn_r2 csX12_pick ciX12_pick _ [(1, 21), (1, 22), (1, 23), (1, 7)] rfl rfl) ggX12_pick_X12_pickNext
set_option maxRecDepth 20000 in
theorem ggX12_half_X12_isAwake : GoodIn wsX12_half wsX12_isAwake := goodIn_r2 csX12_half ciX12_half _ [(1, 20), (1, 21), (1, 22), (2, 0), (2, 1), (2, 2), (2, 3), (2, 4), (2, 5), (2, 6), (2, 7), (2, 8), (2, 9), (2, 10), (2, 11), (2, 12), (2, 13), (2, 14), (2, 15), (2, 16), (2, 17), (2, 18), (2, 19), (2, 20), (2, 21), (2, 22), (2, 23), (2, 24), (2, 25), (2, 26), (2, 27), (2, 28), (2, 29), (2, 30), (2, 31), (2, 32), (2, 33), (2, 34), (2, 35), (2, 36), (2, 37), (2, 38), (2, 39), (2, 40), (2, 41), (2, 42), (2, 43), (2, 44), (2, 45), (2, 46), (2, 47), (2, 48), (2, 49), (2, 50), (2, 51), (2, 52), (2, 53), (2, 54), (2, 55), (2, 56), (2, 57), (2, 58)] rfl rfl
set_option maxRecDepth 20000 in
theorem gX12_half_X12_isAwake : GoodIn wsX12_half (wsV RX12 287 RX12 yX12_isAwake wsX12_isAwake) := goodIn_app (goodIn_r2 csX12_half ciX12_half _ [(1, 17), (1, 18), (1, 19), (1, 6)] rfl rfl) ggX12_half_X12_isAwake
set_option maxRecDepth 20000 in
theorem ggX12_sum_X12_here : GoodIn wsX12_sum wsX12_here := goodIn_r2 csX12_sum ciX12_sum _ [(1, 9), (1, 1), (1, 10), (1, 11), (1, 12), (3, 0), (3, 1), (3, 2), (3, 3), (3, 4), (3, 5), (3, 6), (3, 7), (3, 8), (3, 9), (3, 10), (3, 11), (3, 12), (3, 13), (3, 14), (3, 15), (3, 16), (3, 17), (3, 18), (3, 19), (3, 20), (3, 21), (3, 22), (3, 23), (3, 24), (3, 25), (3, 26), (3, 27), (3, 28), (3, 29), (3, 30), (3, 31), (3, 32), (3, 33), (3, 34), (3, 35), (3, 36), (3, 37), (3, 38), (3, 39), (3, 40), (3, 41), (3, 42), (3, 43), (3, 44), (3, 45), (3, 46), (3, 47), (3, 48), (3, 49), (3, 50), (3, 51), (3, 52), (3, 53), (3, 54), (3, 55), (3, 56), (3, 57), (3, 58)] rfl rfl
set_option maxRecDepth 20000 in
theorem gX12_sum_X12_here : GoodIn wsX12_sum (wsV RX12 187 RX12 yX12_here wsX12_here) := goodIn_app (goodIn_r2 csX12_sum ciX12_sum _ [(1, 6), (1, 7), (1, 8), (1, 5)] rfl rfl) ggX12_sum_X12_here
set_option maxRecDepth 20000 in
theorem ggX3_readProduct_X3_readOperand : GoodIn wsX3_readProduct wsX3_readOperand := goodIn_r2 csX3_readProduct ciX3_readProduct _ [(1, 16), (1, 17), (1, 18), (1, 19), (1, 20), (1, 1), (1, 0), (1, 6), (1, 7), (1, 8), (1, 5), (1, 9), (1, 10), (1, 11), (1, 21), (1, 22), (1, 23), (2, 0), (2, 1), (2, 2), (2, 3), (2, 4), (2, 5), (2, 6), (1, 12), (1, 13), (1, 14), (1, 15), (0, 0), (1, 2), (1, 3), (1, 4), (2, 7), (2, 8), (2, 9), (2, 10), (3, 0), (3, 1), (3, 2), (3, 3), (3, 4), (3, 5), (3, 6), (3, 7)] rfl rfl
set_option maxRecDepth 20000 in
theorem gX3_readProduct_X3_readOperand : GoodIn wsX3_readProduct (wsV RX3 103 RX3 yX3_readOperand wsX3_readOperand) := goodIn_app (goodIn_r2 csX3_readProduct ciX3_readProduct _ [(1, 2), (1, 3), (1, 4), (1, 5)] rfl rfl) ggX3_readProduct_X3_readOperand
set_option maxRecDepth 20000 in
theorem ggX10_leastHarm_X8_seatAll : GoodIn wsX10_leastHarm wsX8_seatAll := goodIn_r2 csX10_leastHarm ciX10_leastHarm _ [(2, 9), (2, 10), (2, 11), (2, 12), (2, 13), (1, 9), (2, 14), (2, 15), (2, 16), (2, 17), (2, 18), (2, 19), (2, 20), (2, 21), (2, 22), (2, 23), (3, 0), (3, 1), (1, 6), (3, 2), (3, 3), (3, 4), (3, 5), (3, 6), (3, 7), (3, 8), (3, 9), (6, 0), (6, 1), (6, 2), (6, 3), (6, 4), (6, 5), (6, 6), (6, 7), (6, 8), (6, 9), (6, 10), (6, 11), (6, 12)] rfl rfl
set_option maxRecDepth 20000 in
theorem gX10_leastHarm_X8_seatAll : GoodIn wsX10_leastHarm (wsV RX10 35 RX8 yX8_seatAll wsX8_seatAll) := goodIn_app (goodIn_r2 csX10_leastHarm ciX10_leastHarm _ [(2, 6), (2, 7), (2, 8), (1, 6)] rfl rfl) ggX10_leastHarm_X8_seatAll
set_option maxRecDepth 20000 in
theorem ggX11_table_X8_takeAll : GoodIn wsX11_table wsX8_takeAll := goodIn_r2 csX11_table ciX11_table _ [(6, 14), (1, 16), (1, 17), (2, 14), (2, 15), (2, 16), (2, 17), (2, 13), (2, 12), (6, 0), (6, 1), (6, 2), (6, 15), (2, 2), (2, 3), (1, 10), (2, 4), (2, 5), (2, 6), (2, 7), (2, 8), (2, 9), (2, 10), (2, 11), (11, 0), (11, 1), (11, 2), (11, 3), (11, 4), (11, 5), (11, 6), (11, 7), (11, 8), (11, 9), (11, 10), (11, 11), (11, 12)] rfl rfl
set_option maxRecDepth 20000 in
theorem gX11_table_X8_takeAll : GoodIn wsX11_table (wsV RX11 185 RX8 yX8_takeAll wsX8_takeAll) := goodIn_app (goodIn_r2 csX11_table ciX11_table _ [(6, 11), (6, 12), (6, 13), (1, 10)] rfl rfl) ggX11_table_X8_takeAll
set_option maxRecDepth 20000 in
theorem ggX11_half_X6_movePiece : GoodIn wsX11_half wsX6_movePiece := goodIn_r2 csX11_half ciX11_half _ [(1, 20), (1, 21), (1, 22), (1, 23), (2, 0), (2, 1), (2, 2), (2, 3), (1, 13), (2, 4), (2, 5), (2, 6), (2, 7), (2, 8), (2, 9), (1, 19), (2, 10), (4, 0), (4, 1), (4, 2), (4, 3), (4, 4), (4, 5), (4, 6), (4, 7), (4, 8), (4, 9), (4, 10), (4, 11), (6, 0), (6, 1), (6, 2), (6, 3), (6, 4), (6, 5)] rfl rfl
set_option maxRecDepth 20000 in
theorem gX11_half_X6_movePiece : GoodIn wsX11_half (wsV RX11 293 RX6 yX6_movePiece wsX6_movePiece) := goodIn_app (goodIn_r2 csX11_half ciX11_half _ [(1, 16), (1, 17), (1, 18), (1, 19)] rfl rfl) ggX11_half_X6_movePiece
set_option maxRecDepth 20000 in
theorem ggX0_keepsFrom_X0_keepsFrom : GoodIn wsX0_keepsFrom wsX0_keepsFrom := goodIn_r2 csX0_keepsFrom ciX0_keepsFrom _ [(0, 0), (1, 0), (1, 1), (1, 2), (1, 3), (1, 4), (1, 5), (1, 6), (1, 7), (1, 8), (1, 9), (1, 10), (1, 11), (1, 12), (1, 13), (1, 14), (1, 15), (1, 16), (1, 17), (1, 18), (1, 19), (1, 20), (2, 0), (2, 1), (2, 2), (2, 3), (2, 4)] rfl rfl
set_option maxRecDepth 20000 in
theorem gX0_keepsFrom_X0_keepsFrom : GoodIn wsX0_keepsFrom (wsV RX0 32 RX0 yX0_keepsFrom wsX0_keepsFrom) := goodIn_app (goodIn_r2 csX0_keepsFrom ciX0_keepsFrom _ [(1, 8), (1, 9), (1, 10), (1, 4)] rfl rfl) ggX0_keepsFrom_X0_keepsFrom
noncomputable def csX5_walk : List (List Cond) := [[.code yX5_walk cX5_walk 5 none], [.fieldLink RX5 22 "SeatsRound$Orders" "pathLength" "I", .fieldLink RX5 15 "SeatsRound$Orders" "toldCount" "I", .fieldLink RX5 19 "SeatsRound$Orders" "path" "[I", .methodLink RX5 116 yX5_nextOf, .instanceMethod yX5_nextOf, .selects RX5 yX5_nextOf yX5_nextOf, .initialized RX5, .code yX5_nextOf cX5_nextOf 3 (some .int), .fieldLink RX5 30 "SeatsRound$Orders" "least" "[I", .methodLink RX5 108 yX5_sumOver, .instanceMethod yX5_sumOver, .selects RX5 yX5_sumOver yX5_sumOver, .code yX5_sumOver cX5_sumOver 6 (some .int), .fieldLink RX5 37 "SeatsRound$Orders" "nameList" "LSeatsRound$NameList;", .fieldLink RX5 90 "SeatsRound$NameList" "count" "I", .fieldLink RX5 27 "SeatsRound$Orders" "holders" "[[I", .methodLink RX5 111 yJ6_bitCount_0f7a4, .static yJ6_bitCount_0f7a4, .initialized RJ6, .code yJ6_bitCount_0f7a4 cJ6_bitCount_0f7a4 1 (some .int), .constant RJ6 265 (1431655765), .constant RJ6 266 (858993459), .constant RJ6 267 (252645135)], wsX50, wsX40]
set_option maxRecDepth 20000 in
theorem ciX5_walk : ∀ l ∈ csX5_walk, ∀ w ∈ l, w ∈ wsX5_walk := by
  unfold csX5_walk
  refine List.forall_mem_cons.mpr ⟨fun _ h => List.mem_cons.mpr (Or.inl (List.mem_singleton.mp h)), List.forall_mem_cons.mpr ⟨fun _ h => List.mem_cons_of_mem _ (List.mem_append_left _ (List.mem_append_left _ h)), List.forall_mem_cons.mpr ⟨fun _ h => List.mem_cons_of_mem _ (List.mem_append_left _ (List.mem_append_right _ h)), List.forall_mem_cons.mpr ⟨fun _ h => List.mem_cons_of_mem _ (List.mem_append_right _ h), fun l h => absurd h List.not_mem_nil⟩⟩⟩⟩
set_option maxRecDepth 20000 in
theorem ggX5_walk_X5_nextOf : GoodIn wsX5_walk wsX5_nextOf := goodIn_r2 csX5_walk ciX5_walk _ [(1, 7), (1, 1), (1, 8), (1, 9), (1, 10), (1, 11), (1, 6), (1, 12), (1, 13), (1, 14), (1, 15), (1, 16), (1, 17), (1, 18), (1, 19), (1, 20), (1, 21), (1, 22), (2, 0), (2, 1), (2, 2), (2, 3), (2, 4), (2, 5), (2, 6), (2, 7), (2, 8), (2, 9), (3, 0), (3, 1), (3, 2), (3, 3)] rfl rfl
set_option maxRecDepth 20000 in
theorem gX5_walk_X5_nextOf : GoodIn wsX5_walk (wsV RX5 116 RX5 yX5_nextOf wsX5_nextOf) := goodIn_app (goodIn_r2 csX5_walk ciX5_walk _ [(1, 3), (1, 4), (1, 5), (1, 6)] rfl rfl) ggX5_walk_X5_nextOf
set_option maxRecDepth 20000 in
theorem ggX11_ofKeeper_X6_copiesOn : GoodIn wsX11_ofKeeper wsX6_copiesOn := goodIn_r2 csX11_ofKeeper ciX11_ofKeeper _ [(2, 0), (2, 1), (2, 2), (2, 3), (1, 23), (2, 4), (5, 0), (5, 1), (5, 2), (5, 3), (5, 4), (5, 5), (5, 6), (5, 7), (5, 8), (5, 9), (5, 10), (5, 11)] rfl rfl
set_option maxRecDepth 20000 in
theorem gX11_ofKeeper_X6_copiesOn : GoodIn wsX11_ofKeeper (wsV RX11 163 RX6 yX6_copiesOn wsX6_copiesOn) := goodIn_app (goodIn_r2 csX11_ofKeeper ciX11_ofKeeper _ [(1, 20), (1, 21), (1, 22), (1, 23)] rfl rfl) ggX11_ofKeeper_X6_copiesOn
set_option maxRecDepth 20000 in
theorem ggX11_write_X11_tableAt : GoodIn wsX11_write wsX11_tableAt := goodIn_r2 csX11_write ciX11_write _ [(1, 20), (1, 21), (1, 22), (8, 0), (8, 1), (8, 2), (8, 3), (8, 4), (8, 5), (8, 6), (8, 7), (8, 8), (8, 9), (8, 10), (8, 11), (8, 12)] rfl rfl
set_option maxRecDepth 20000 in
theorem gX11_write_X11_tableAt : GoodIn wsX11_write (wsV RX11 192 RX11 yX11_tableAt wsX11_tableAt) := goodIn_app (goodIn_r2 csX11_write ciX11_write _ [(1, 16), (1, 17), (1, 18), (1, 19)] rfl rfl) ggX11_write_X11_tableAt
noncomputable def csX8_firstFor : List (List Cond) := [[.code yX8_firstFor cX8_firstFor 6 (some .int)], [.fieldLink RX8 24 "SeatsRound$Table" "way" "I", .fieldLink RX8 48 "SeatsRound$Table" "owner" "[B", .fieldLink RX8 51 "SeatsRound$Table" "ahead" "[S", .fieldLink RX8 9 "SeatsRound$Table" "members" "I", .methodLink RX8 99 yX8_sumOf, .instanceMethod yX8_sumOf, .selects RX8 yX8_sumOf yX8_sumOf, .initialized RX8, .code yX8_sumOf cX8_sumOf 3 (some .int), .constant RX8 86 (104729), .fieldLink RX8 15 "SeatsRound$Table" "turn" "I", .fieldLink RX8 37 "SeatsRound$Table" "weight" "[I", .static yX11_strewn, .initialized RX11, .code yX11_strewn cX11_strewn 1 (some .int), .constant RX11 423 (1103515245)], wsX80]
set_option maxRecDepth 20000 in
theorem ciX8_firstFor : ∀ l ∈ csX8_firstFor, ∀ w ∈ l, w ∈ wsX8_firstFor := by
  unfold csX8_firstFor
  refine List.forall_mem_cons.mpr ⟨fun _ h => List.mem_cons.mpr (Or.inl (List.mem_singleton.mp h)), List.forall_mem_cons.mpr ⟨fun _ h => List.mem_cons_of_mem _ (List.mem_append_left _ h), List.forall_mem_cons.mpr ⟨fun _ h => List.mem_cons_of_mem _ (List.mem_append_right _ h), fun l h => absurd h List.not_mem_nil⟩⟩⟩
set_option maxRecDepth 20000 in
theorem ggX8_firstFor_X8_sumOf : GoodIn wsX8_firstFor wsX8_sumOf := goodIn_r2 csX8_firstFor ciX8_firstFor _ [(1, 8), (1, 9), (1, 10), (1, 11), (1, 12), (1, 13), (1, 14), (1, 15), (2, 0), (2, 1), (2, 2), (2, 3), (2, 4), (2, 5), (2, 6), (2, 7), (2, 8), (2, 9), (2, 10), (2, 11), (2, 12)] rfl rfl
set_option maxRecDepth 20000 in
theorem gX8_firstFor_X8_sumOf : GoodIn wsX8_firstFor (wsV RX8 99 RX8 yX8_sumOf wsX8_sumOf) := goodIn_app (goodIn_r2 csX8_firstFor ciX8_firstFor _ [(1, 4), (1, 5), (1, 6), (1, 7)] rfl rfl) ggX8_firstFor_X8_sumOf
set_option maxRecDepth 20000 in
theorem ggX10_greatestShare_X4_placeOf : GoodIn wsX10_greatestShare wsX4_placeOf := goodIn_r2 csX10_greatestShare ciX10_greatestShare _ [(1, 16), (1, 17), (1, 18), (1, 19), (4, 0), (4, 1), (4, 2), (4, 3)] rfl rfl
set_option maxRecDepth 20000 in
theorem gX10_greatestShare_X4_placeOf : GoodIn wsX10_greatestShare (wsV RX10 55 RX4 yX4_placeOf wsX4_placeOf) := goodIn_app (goodIn_r2 csX10_greatestShare ciX10_greatestShare _ [(1, 12), (1, 13), (1, 14), (1, 15)] rfl rfl) ggX10_greatestShare_X4_placeOf
noncomputable def csX5_sumOver : List (List Cond) := [[.code yX5_sumOver cX5_sumOver 6 (some .int)], [.fieldLink RX5 30 "SeatsRound$Orders" "least" "[I", .fieldLink RX5 37 "SeatsRound$Orders" "nameList" "LSeatsRound$NameList;", .fieldLink RX5 90 "SeatsRound$NameList" "count" "I", .fieldLink RX5 27 "SeatsRound$Orders" "holders" "[[I", .methodLink RX5 111 yJ6_bitCount_0f7a4, .static yJ6_bitCount_0f7a4, .initialized RJ6, .code yJ6_bitCount_0f7a4 cJ6_bitCount_0f7a4 1 (some .int), .constant RJ6 265 (1431655765), .constant RJ6 266 (858993459), .constant RJ6 267 (252645135)], wsX50, wsX40]
set_option maxRecDepth 20000 in
theorem ciX5_sumOver : ∀ l ∈ csX5_sumOver, ∀ w ∈ l, w ∈ wsX5_sumOver := by
  unfold csX5_sumOver
  refine List.forall_mem_cons.mpr ⟨fun _ h => List.mem_cons.mpr (Or.inl (List.mem_singleton.mp h)), List.forall_mem_cons.mpr ⟨fun _ h => List.mem_cons_of_mem _ (List.mem_append_left _ (List.mem_append_left _ h)), List.forall_mem_cons.mpr ⟨fun _ h => List.mem_cons_of_mem _ (List.mem_append_left _ (List.mem_append_right _ h)), List.forall_mem_cons.mpr ⟨fun _ h => List.mem_cons_of_mem _ (List.mem_append_right _ h), fun l h => absurd h List.not_mem_nil⟩⟩⟩⟩
set_option maxRecDepth 20000 in
theorem ggX5_sumOver_J6_bitCount_0f7a4 : GoodIn wsX5_sumOver wsJ6_bitCount_0f7a4 := goodIn_r2 csX5_sumOver ciX5_sumOver _ [(1, 7), (1, 8), (1, 9), (1, 10)] rfl rfl
set_option maxRecDepth 20000 in
theorem gX5_sumOver_J6_bitCount_0f7a4 : GoodIn wsX5_sumOver (va_wsS RX5 111 yJ6_bitCount_0f7a4 wsJ6_bitCount_0f7a4) := goodIn_app (goodIn_r2 csX5_sumOver ciX5_sumOver _ [(1, 4), (1, 5), (1, 6)] rfl rfl) ggX5_sumOver_J6_bitCount_0f7a4
set_option maxRecDepth 20000 in
theorem ggX11_noon_J6_bitCount_0f7a4 : GoodIn wsX11_noon wsJ6_bitCount_0f7a4 := goodIn_r2 csX11_noon ciX11_noon _ [(1, 11), (1, 12), (1, 13), (1, 14)] rfl rfl
set_option maxRecDepth 20000 in
theorem gX11_noon_J6_bitCount_0f7a4 : GoodIn wsX11_noon (va_wsS RX11 246 yJ6_bitCount_0f7a4 wsJ6_bitCount_0f7a4) := goodIn_app (goodIn_r2 csX11_noon ciX11_noon _ [(1, 8), (1, 9), (1, 10)] rfl rfl) ggX11_noon_J6_bitCount_0f7a4
set_option maxRecDepth 20000 in
theorem ggX5_seatSet_X4_placeOf : GoodIn wsX5_seatSet wsX4_placeOf := goodIn_r2 csX5_seatSet ciX5_seatSet _ [(7, 6), (7, 7), (7, 8), (7, 9), (13, 0), (13, 1), (13, 2), (13, 3)] rfl rfl
set_option maxRecDepth 20000 in
theorem gX5_seatSet_X4_placeOf : GoodIn wsX5_seatSet (wsV RX5 95 RX4 yX4_placeOf wsX4_placeOf) := goodIn_app (goodIn_r2 csX5_seatSet ciX5_seatSet _ [(7, 2), (7, 3), (7, 4), (7, 5)] rfl rfl) ggX5_seatSet_X4_placeOf
set_option maxRecDepth 20000 in
theorem ggX11_number_X4_placeOf : GoodIn wsX11_number wsX4_placeOf := goodIn_r2 csX11_number ciX11_number _ [(1, 10), (1, 11), (1, 12), (1, 13), (3, 0), (3, 1), (3, 2), (3, 3)] rfl rfl
set_option maxRecDepth 20000 in
theorem gX11_number_X4_placeOf : GoodIn wsX11_number (wsV RX11 127 RX4 yX4_placeOf wsX4_placeOf) := goodIn_app (goodIn_r2 csX11_number ciX11_number _ [(1, 7), (1, 8), (1, 9), (1, 4)] rfl rfl) ggX11_number_X4_placeOf
set_option maxRecDepth 20000 in
theorem ggX0_tellsFrom_X0_begin : GoodIn wsX0_tellsFrom wsX0_begin := goodIn_r2 csX0_tellsFrom ciX0_tellsFrom _ [(1, 5), (1, 6), (1, 7), (3, 0), (3, 1), (3, 2), (3, 3), (3, 4)] rfl rfl
set_option maxRecDepth 20000 in
theorem gX0_tellsFrom_X0_begin : GoodIn wsX0_tellsFrom (wsV RX0 41 RX0 yX0_begin wsX0_begin) := goodIn_app (goodIn_r2 csX0_tellsFrom ciX0_tellsFrom _ [(1, 1), (1, 2), (1, 3), (1, 4)] rfl rfl) ggX0_tellsFrom_X0_begin
set_option maxRecDepth 20000 in
theorem ggX3_readOperand_X3_isDigit : GoodIn wsX3_readOperand wsX3_isDigit := goodIn_r2 csX3_readOperand ciX3_readOperand _ [(1, 15)] rfl rfl
set_option maxRecDepth 20000 in
theorem gX3_readOperand_X3_isDigit : GoodIn wsX3_readOperand (va_wsS RX3 106 yX3_isDigit wsX3_isDigit) := goodIn_app (goodIn_r2 csX3_readOperand ciX3_readOperand _ [(1, 13), (1, 14), (1, 9)] rfl rfl) ggX3_readOperand_X3_isDigit
set_option maxRecDepth 20000 in
theorem ggX11_name_X4_add : GoodIn wsX11_name wsX4_add := goodIn_r2 csX11_name ciX11_name _ [(1, 19), (1, 10), (1, 12), (1, 20), (1, 21), (1, 22), (1, 23), (1, 11), (4, 0), (4, 1), (4, 2), (4, 3)] rfl rfl
set_option maxRecDepth 20000 in
theorem gX11_name_X4_add : GoodIn wsX11_name (wsV RX11 120 RX4 yX4_add wsX4_add) := goodIn_app (goodIn_r2 csX11_name ciX11_name _ [(1, 16), (1, 17), (1, 18), (1, 8)] rfl rfl) ggX11_name_X4_add
set_option maxRecDepth 20000 in
theorem ggX11_picked_X11_isPlace : GoodIn wsX11_picked wsX11_isPlace := goodIn_r2 csX11_picked ciX11_picked _ [(1, 12)] rfl rfl
set_option maxRecDepth 20000 in
theorem gX11_picked_X11_isPlace : GoodIn wsX11_picked (va_wsS RX11 215 yX11_isPlace wsX11_isPlace) := goodIn_app (goodIn_r2 csX11_picked ciX11_picked _ [(1, 10), (1, 11), (1, 6)] rfl rfl) ggX11_picked_X11_isPlace
noncomputable def csX6_copiesOn : List (List Cond) := [[.code yX6_copiesOn cX6_copiesOn 2 (some .int)], [.fieldLink RX6 11 "SeatsRound$Parcels" "version" "[[I", .methodLink RX6 141 yX6_filled, .static yX6_filled, .initialized RX6, .code yX6_filled cX6_filled 6 (some .int)], wsX60]
set_option maxRecDepth 20000 in
theorem ciX6_copiesOn : ∀ l ∈ csX6_copiesOn, ∀ w ∈ l, w ∈ wsX6_copiesOn := by
  unfold csX6_copiesOn
  refine List.forall_mem_cons.mpr ⟨fun _ h => List.mem_cons.mpr (Or.inl (List.mem_singleton.mp h)), List.forall_mem_cons.mpr ⟨fun _ h => List.mem_cons_of_mem _ (List.mem_append_left _ h), List.forall_mem_cons.mpr ⟨fun _ h => List.mem_cons_of_mem _ (List.mem_append_right _ h), fun l h => absurd h List.not_mem_nil⟩⟩⟩
set_option maxRecDepth 20000 in
theorem ggX6_copiesOn_X6_filled : GoodIn wsX6_copiesOn wsX6_filled := goodIn_r2 csX6_copiesOn ciX6_copiesOn _ [(1, 4)] rfl rfl
set_option maxRecDepth 20000 in
theorem gX6_copiesOn_X6_filled : GoodIn wsX6_copiesOn (va_wsS RX6 141 yX6_filled wsX6_filled) := goodIn_app (goodIn_r2 csX6_copiesOn ciX6_copiesOn _ [(1, 1), (1, 2), (1, 3)] rfl rfl) ggX6_copiesOn_X6_filled
set_option maxRecDepth 20000 in
theorem ggX1_pickFirstFrom_X11_placeBehind : GoodIn wsX1_pickFirstFrom wsX11_placeBehind := goodIn_r2 csX1_pickFirstFrom ciX1_pickFirstFrom _ [(1, 17)] rfl rfl
set_option maxRecDepth 20000 in
theorem gX1_pickFirstFrom_X11_placeBehind_n78 : GoodIn wsX1_pickFirstFrom (wsX11_placeBehind) := ggX1_pickFirstFrom_X11_placeBehind
set_option maxRecDepth 20000 in
theorem ggX12_moves_X12_ones : GoodIn wsX12_moves wsX12_ones := goodIn_r2 csX12_moves ciX12_moves _ [(4, 1)] rfl rfl
set_option maxRecDepth 20000 in
theorem gX12_moves_X12_ones : GoodIn wsX12_moves (va_wsS RX12 284 yX12_ones wsX12_ones) := goodIn_app (goodIn_r2 csX12_moves ciX12_moves _ [(3, 23), (4, 0), (1, 6)] rfl rfl) ggX12_moves_X12_ones
set_option maxRecDepth 20000 in
theorem ggX12_fall_X12_in : GoodIn wsX12_fall wsX12_in := goodIn_r2 csX12_fall ciX12_fall _ [(1, 12)] rfl rfl
set_option maxRecDepth 20000 in
theorem gX12_fall_X12_in : GoodIn wsX12_fall (va_wsS RX12 136 yX12_in wsX12_in) := goodIn_app (goodIn_r2 csX12_fall ciX12_fall _ [(1, 10), (1, 11), (1, 7)] rfl rfl) ggX12_fall_X12_in
set_option maxRecDepth 20000 in
theorem ggX12_act_X12_in : GoodIn wsX12_act wsX12_in := goodIn_r2 csX12_act ciX12_act _ [(1, 10)] rfl rfl
set_option maxRecDepth 20000 in
theorem gX12_act_X12_in : GoodIn wsX12_act (va_wsS RX12 136 yX12_in wsX12_in) := goodIn_app (goodIn_r2 csX12_act ciX12_act _ [(1, 8), (1, 9), (1, 5)] rfl rfl) ggX12_act_X12_in
