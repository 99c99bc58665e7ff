set_option maxRecDepth 20000 in
theorem ggX11_write_X6_spread : GoodIn wsX11_write wsX6_spread := goodIn_r2 csX11_write ciX11_write _ [(2, 9), (2, 10), (2, 11), (2, 12), (2, 13), (2, 14), (2, 15), (2, 16), (2, 17), (2, 18), (2, 19), (1, 13), (2, 20), (2, 21), (2, 22), (2, 23), (3, 0), (3, 1), (3, 2), (3, 3), (3, 4), (3, 5), (3, 6), (3, 7), (3, 8), (3, 9), (3, 10), (3, 11), (3, 12), (3, 13), (3, 14), (3, 15), (3, 16), (3, 17), (3, 18), (3, 19), (3, 20), (3, 21), (3, 22), (3, 23), (4, 0), (4, 1), (4, 2), (4, 3), (4, 4), (4, 5), (4, 6), (4, 7), (4, 8), (4, 9), (4, 10), (4, 11), (4, 12), (4, 13), (4, 14), (1, 19), (4, 15), (4, 16), (4, 17), (4, 18), (4, 19), (4, 20), (4, 21), (4, 22), (4, 23), (5, 0), (5, 1), (5, 2), (5, 3), (5, 4), (5, 5), (5, 6), (5, 7), (5, 8), (5, 9), (5, 10), (5, 11), (5, 12), (5, 13), (5, 14), (5, 15), (5, 16), (5, 17), (5, 18), (5, 19), (5, 20), (5, 21), (5, 22), (5, 23), (6, 0), (6, 1), (6, 2), (6, 3), (6, 4), (6, 5), (2, 8), (6, 6), (6, 7), (6, 8), (6, 9), (6, 10), (6, 11), (6, 12), (6, 13), (6, 14), (6, 15), (6, 16), (6, 17), (6, 18), (6, 19), (2, 0), (2, 1), (1, 7), (2, 2), (2, 3), (2, 4), (6, 20), (6, 21), (6, 22), (6, 23), (7, 0), (7, 1), (7, 2), (7, 3), (7, 4), (7, 5), (7, 6), (7, 7), (7, 8), (7, 9), (7, 10), (7, 11), (7, 12), (7, 13), (7, 14), (7, 15), (11, 0), (11, 1), (11, 2), (11, 3), (11, 4), (11, 5), (11, 6), (11, 7), (11, 8), (11, 9), (11, 10), (11, 11), (12, 0), (12, 1), (12, 2), (12, 3), (12, 4), (12, 5), (12, 6), (12, 7), (12, 8), (12, 9), (12, 10), (12, 11), (12, 12), (13, 0), (13, 1), (13, 2), (13, 3), (13, 4), (13, 5), (13, 6), (13, 7), (13, 8), (10, 0), (10, 1), (10, 2), (10, 3), (9, 0), (9, 1), (9, 2), (9, 3), (9, 4), (9, 5)] rfl rfl
set_option maxRecDepth 20000 in
theorem gX11_write_X6_spread : GoodIn wsX11_write (wsV RX11 270 RX6 yX6_spread wsX6_spread) := goodIn_app (goodIn_r2 csX11_write ciX11_write _ [(2, 5), (2, 6), (2, 7), (2, 8)] rfl rfl) ggX11_write_X6_spread
set_option maxRecDepth 20000 in
theorem ggX12_read_X12_chooseName : GoodIn wsX12_read wsX12_chooseName := goodIn_r2 csX12_read ciX12_read _ [(2, 3), (2, 4), (2, 5), (2, 6), (2, 7), (1, 7), (2, 8), (2, 9), (2, 10), (2, 11), (2, 12), (2, 13), (2, 14), (2, 15), (1, 1), (2, 16), (2, 17), (2, 18), (2, 19), (1, 2), (2, 20), (2, 21), (2, 22), (2, 23), (3, 0), (3, 1), (3, 2), (3, 3), (3, 4), (3, 5), (1, 9), (3, 6), (3, 7), (3, 8), (3, 9), (3, 10), (3, 11), (3, 12), (3, 13), (3, 14), (3, 15), (3, 16), (3, 17), (3, 18), (3, 19), (3, 20), (3, 21), (3, 22), (3, 23), (4, 0), (4, 1), (4, 2), (4, 3), (4, 4), (4, 5), (5, 0), (5, 1), (5, 2), (5, 3), (5, 4), (5, 5), (5, 6), (5, 7), (5, 8), (5, 9), (5, 10), (5, 11), (5, 12), (5, 13), (5, 14), (5, 15), (5, 16), (5, 17), (5, 18), (5, 19), (5, 20), (5, 21), (5, 22), (5, 23), (5, 24), (5, 25), (5, 26), (5, 27), (5, 28), (5, 29), (5, 30), (5, 31), (5, 32), (5, 33), (5, 34), (5, 35), (5, 36), (5, 37), (5, 38), (5, 39), (5, 40), (5, 41), (5, 42), (5, 43), (5, 44), (5, 45), (5, 46), (5, 47), (5, 48), (5, 49), (5, 50), (5, 51), (5, 52), (5, 53), (5, 54), (5, 55), (5, 56), (5, 57), (5, 58)] rfl rfl
set_option maxRecDepth 20000 in
theorem gX12_read_X12_chooseName : GoodIn wsX12_read (wsV RX12 269 RX12 yX12_chooseName wsX12_chooseName) := goodIn_app (goodIn_r2 csX12_read ciX12_read _ [(2, 0), (2, 1), (2, 2), (1, 7)] rfl rfl) ggX12_read_X12_chooseName
set_option maxRecDepth 20000 in
theorem ggX11_keeperOf_X1_choose : GoodIn wsX11_keeperOf wsX1_choose := goodIn_r2 csX11_keeperOf ciX11_keeperOf _ [(2, 5), (2, 6), (2, 7), (2, 8), (2, 9), (2, 10), (2, 11), (2, 12), (2, 13), (2, 14), (2, 15), (2, 16), (2, 17), (2, 18), (2, 19), (2, 20), (2, 21), (2, 4), (2, 22), (2, 23), (3, 0), (3, 1), (3, 2), (3, 3), (3, 4), (3, 5), (3, 6), (3, 7), (3, 8), (3, 9), (3, 10), (3, 11), (3, 12), (3, 13), (3, 14), (3, 15), (1, 8), (3, 16), (3, 17), (3, 18), (3, 19), (3, 20), (3, 21), (3, 22), (3, 23), (4, 0), (4, 1), (4, 2), (4, 3), (4, 4), (4, 5), (4, 6), (4, 7), (4, 8), (4, 9), (4, 10), (4, 11), (4, 12), (4, 13), (4, 14), (4, 15), (4, 16), (4, 17), (4, 18), (4, 19), (4, 20), (4, 21), (4, 22), (4, 23), (5, 0), (5, 1), (5, 2), (5, 3), (8, 0), (8, 1), (8, 2), (8, 3), (8, 4), (8, 5), (8, 6), (8, 7), (8, 8), (7, 0), (7, 1), (7, 2), (7, 3), (7, 4), (7, 5), (7, 6), (7, 7), (7, 8), (7, 9), (7, 10), (7, 11), (7, 12), (10, 0), (10, 1), (10, 2), (10, 3), (10, 4), (10, 5)] rfl rfl
set_option maxRecDepth 20000 in
theorem gX11_keeperOf_X1_choose : GoodIn wsX11_keeperOf (wsV RX11 234 RX1 yX1_choose wsX1_choose) := goodIn_app (goodIn_r2 csX11_keeperOf ciX11_keeperOf _ [(2, 1), (2, 2), (2, 3), (2, 4)] rfl rfl) ggX11_keeperOf_X1_choose
set_option maxRecDepth 20000 in
theorem ggX12_share_X12_findOdds : GoodIn wsX12_share wsX12_findOdds := goodIn_r2 csX12_share ciX12_share _ [(3, 10), (1, 0), (1, 21), (2, 5), (2, 6), (2, 7), (1, 4), (2, 8), (2, 9), (2, 10), (2, 11), (2, 12), (2, 13), (2, 14), (2, 15), (1, 14), (1, 20), (2, 16), (2, 17), (2, 18), (2, 19), (2, 20), (2, 21), (2, 22), (2, 23), (3, 0), (3, 1), (3, 2), (3, 3), (3, 4), (3, 5), (3, 6), (4, 0), (4, 1), (4, 2), (4, 3), (4, 4), (4, 5), (4, 6), (4, 7), (4, 8), (4, 9), (4, 10), (4, 11), (4, 12), (4, 13), (4, 14), (4, 15), (4, 16), (4, 17), (4, 18), (4, 19), (4, 20), (4, 21), (4, 22), (4, 23), (4, 24), (4, 25), (4, 26), (4, 27), (4, 28), (4, 29), (4, 30), (4, 31), (4, 32), (4, 33), (4, 34), (4, 35), (4, 36), (4, 37), (4, 38), (4, 39), (4, 40), (4, 41), (4, 42), (4, 43), (4, 44), (4, 45), (4, 46), (4, 47), (4, 48), (4, 49), (4, 50), (4, 51), (4, 52), (4, 53), (4, 54), (4, 55), (4, 56), (4, 57), (4, 58)] rfl rfl
set_option maxRecDepth 20000 in
theorem gX12_share_X12_findOdds : GoodIn wsX12_share (wsV RX12 275 RX12 yX12_findOdds wsX12_findOdds) := goodIn_app (goodIn_r2 csX12_share ciX12_share _ [(3, 7), (3, 8), (3, 9), (1, 4)] rfl rfl) ggX12_share_X12_findOdds
noncomputable def csX12_sum : List (List Cond) := [[.code yX12_sum cX12_sum 4 (some .int)], wsX12_sum_r1, wsX12_sum_r2, wsX120]
set_option maxRecDepth 20000 in
theorem ciX12_sum : ∀ l ∈ csX12_sum, ∀ w ∈ l, w ∈ wsX12_sum := by
  unfold csX12_sum
  refine List.forall_mem_cons.mpr ⟨fun _ h => List.mem_cons.mpr (Or.inl (List.mem_singleton.mp h)), List.forall_mem_cons.mpr ⟨fun _ h => List.mem_cons_of_mem _ (List.mem_append_left _ (List.mem_append_left _ h)), List.forall_mem_cons.mpr ⟨fun _ h => List.mem_cons_of_mem _ (List.mem_append_left _ (List.mem_append_right _ h)), List.forall_mem_cons.mpr ⟨fun _ h => List.mem_cons_of_mem _ (List.mem_append_right _ h), fun l h => absurd h List.not_mem_nil⟩⟩⟩⟩
set_option maxRecDepth 20000 in
theorem ggX12_sum_X12_product : GoodIn wsX12_sum wsX12_product := goodIn_r2 csX12_sum ciX12_sum _ [(2, 5), (1, 0), (1, 1), (2, 6), (2, 7), (2, 8), (1, 5), (1, 6), (1, 7), (1, 8), (1, 9), (1, 10), (1, 11), (1, 12), (1, 13), (1, 14), (1, 15), (1, 16), (1, 17), (1, 18), (1, 19), (1, 20), (1, 21), (1, 22), (1, 23), (2, 0), (2, 1), (2, 2), (2, 3), (2, 4), (0, 0), (1, 2), (1, 3), (1, 4), (3, 0), (3, 1), (3, 2), (3, 3), (3, 4), (3, 5), (3, 6), (3, 7), (3, 8), (3, 9), (3, 10), (3, 11), (3, 12), (3, 13), (3, 14), (3, 15), (3, 16), (3, 17), (3, 18), (3, 19), (3, 20), (3, 21), (3, 22), (3, 23), (3, 24), (3, 25), (3, 26), (3, 27), (3, 28), (3, 29), (3, 30), (3, 31), (3, 32), (3, 33), (3, 34), (3, 35), (3, 36), (3, 37), (3, 38), (3, 39), (3, 40), (3, 41), (3, 42), (3, 43), (3, 44), (3, 45), (3, 46), (3, 47), (3, 48), (3, 49), (3, 50), (3, 51), (3, 52), (3, 53), (3, 54), (3, 55), (3, 56), (3, 57), (3, 58)] rfl rfl
set_option maxRecDepth 20000 in
theorem gX12_sum_X12_product : GoodIn wsX12_sum (wsV RX12 191 RX12 yX12_product wsX12_product) := goodIn_app (goodIn_r2 csX12_sum ciX12_sum _ [(1, 2), (1, 3), (1, 4), (1, 5)] rfl rfl) ggX12_sum_X12_product
set_option maxRecDepth 20000 in
theorem ggX12_shareOf_X12_pick : GoodIn wsX12_shareOf wsX12_pick := goodIn_r2 csX12_shareOf ciX12_shareOf _ [(1, 14), (1, 15), (1, 16), (1, 17), (1, 2), (1, 18), (1, 19), (1, 20), (1, 6), (1, 21), (1, 22), (1, 1), (1, 23), (2, 0), (2, 1), (2, 2), (2, 3), (2, 4), (2, 5), (2, 6), (2, 7), (2, 8), (2, 9), (2, 10), (2, 11), (2, 12), (2, 13), (3, 0), (3, 1), (3, 2), (3, 3), (3, 4), (3, 5), (3, 6), (3, 7), (3, 8), (3, 9), (3, 10), (3, 11), (3, 12), (3, 13), (3, 14), (3, 15), (3, 16), (3, 17), (3, 18), (3, 19), (3, 20), (3, 21), (3, 22), (3, 23), (3, 24), (3, 25), (3, 26), (3, 27), (3, 28), (3, 29), (3, 30), (3, 31), (3, 32), (3, 33), (3, 34), (3, 35), (3, 36), (3, 37), (3, 38), (3, 39), (3, 40), (3, 41), (3, 42), (3, 43), (3, 44), (3, 45), (3, 46), (3, 47), (3, 48), (3, 49), (3, 50), (3, 51), (3, 52), (3, 53), (3, 54), (3, 55), (3, 56), (3, 57), (3, 58)] rfl rfl
set_option maxRecDepth 20000 in
theorem gX12_shareOf_X12_pick : GoodIn wsX12_shareOf (wsV RX12 253 RX12 yX12_pick wsX12_pick) := goodIn_app (goodIn_r2 csX12_shareOf ciX12_shareOf _ [(1, 11), (1, 12), (1, 13), (1, 6)] rfl rfl) ggX12_shareOf_X12_pick
set_option maxRecDepth 20000 in
theorem ggX12_table_X12_numbers : GoodIn wsX12_table wsX12_numbers := goodIn_r2 csX12_table ciX12_table _ [(1, 21), (1, 22), (1, 23), (2, 0), (2, 1), (1, 0), (1, 4), (1, 5), (2, 2), (2, 3), (2, 4), (1, 14), (2, 5), (1, 2), (5, 0), (5, 1), (5, 2), (5, 3), (5, 4), (5, 5), (5, 6), (5, 7), (5, 8), (5, 9), (5, 10), (5, 11), (5, 12), (5, 13), (5, 14), (5, 15), (5, 16), (5, 17), (5, 18), (5, 19), (5, 20), (5, 21), (5, 22), (5, 23), (5, 24), (5, 25), (5, 26), (5, 27), (5, 28), (5, 29), (5, 30), (5, 31), (5, 32), (5, 33), (5, 34), (5, 35), (5, 36), (5, 37), (5, 38), (5, 39), (5, 40), (5, 41), (5, 42), (5, 43), (5, 44), (5, 45), (5, 46), (5, 47), (5, 48), (5, 49), (5, 50), (5, 51), (5, 52), (5, 53), (5, 54), (5, 55), (5, 56), (5, 57), (5, 58)] rfl rfl
set_option maxRecDepth 20000 in
theorem gX12_table_X12_numbers : GoodIn wsX12_table (wsV RX12 231 RX12 yX12_numbers wsX12_numbers) := goodIn_app (goodIn_r2 csX12_table ciX12_table _ [(1, 18), (1, 19), (1, 20), (1, 14)] rfl rfl) ggX12_table_X12_numbers
set_option maxRecDepth 20000 in
theorem ggX12_order_X12_nextOrder : GoodIn wsX12_order wsX12_nextOrder := goodIn_r2 csX12_order ciX12_order _ [(7, 4), (1, 4), (8, 0), (8, 1), (8, 2), (8, 3), (8, 4), (8, 5), (8, 6), (8, 7), (8, 8), (8, 9), (8, 10), (8, 11), (8, 12), (8, 13), (8, 14), (8, 15), (8, 16), (8, 17), (8, 18), (8, 19), (8, 20), (8, 21), (8, 22), (8, 23), (8, 24), (8, 25), (8, 26), (8, 27), (8, 28), (8, 29), (8, 30), (8, 31), (8, 32), (8, 33), (8, 34), (8, 35), (8, 36), (8, 37), (8, 38), (8, 39), (8, 40), (8, 41), (8, 42), (8, 43), (8, 44), (8, 45), (8, 46), (8, 47), (8, 48), (8, 49), (8, 50), (8, 51), (8, 52), (8, 53), (8, 54), (8, 55), (8, 56), (8, 57), (8, 58)] rfl rfl
set_option maxRecDepth 20000 in
theorem gX12_order_X12_nextOrder : GoodIn wsX12_order (wsV RX12 328 RX12 yX12_nextOrder wsX12_nextOrder) := goodIn_app (goodIn_r2 csX12_order ciX12_order _ [(7, 1), (7, 2), (7, 3), (1, 10)] rfl rfl) ggX12_order_X12_nextOrder
set_option maxRecDepth 20000 in
theorem ggX12_table_X12_countsNow : GoodIn wsX12_table wsX12_countsNow := goodIn_r2 csX12_table ciX12_table _ [(1, 15), (1, 16), (1, 17), (5, 0), (5, 1), (5, 2), (5, 3), (5, 4), (5, 5), (5, 6), (5, 7), (5, 8), (5, 9), (5, 10), (5, 11), (5, 12), (5, 13), (5, 14), (5, 15), (5, 16), (5, 17), (5, 18), (5, 19), (5, 20), (5, 21), (5, 22), (5, 23), (5, 24), (5, 25), (5, 26), (5, 27), (5, 28), (5, 29), (5, 30), (5, 31), (5, 32), (5, 33), (5, 34), (5, 35), (5, 36), (5, 37), (5, 38), (5, 39), (5, 40), (5, 41), (5, 42), (5, 43), (5, 44), (5, 45), (5, 46), (5, 47), (5, 48), (5, 49), (5, 50), (5, 51), (5, 52), (5, 53), (5, 54), (5, 55), (5, 56), (5, 57), (5, 58)] rfl rfl
set_option maxRecDepth 20000 in
theorem gX12_table_X12_countsNow : GoodIn wsX12_table (wsV RX12 170 RX12 yX12_countsNow wsX12_countsNow) := goodIn_app (goodIn_r2 csX12_table ciX12_table _ [(1, 11), (1, 12), (1, 13), (1, 14)] rfl rfl) ggX12_table_X12_countsNow
set_option maxRecDepth 20000 in
theorem ggX12_order_X12_bits : GoodIn wsX12_order wsX12_bits := goodIn_r2 csX12_order ciX12_order _ [(6, 17), (5, 14), (5, 17), (8, 0), (8, 1), (8, 2), (8, 3), (8, 4), (8, 5), (8, 6), (8, 7), (8, 8), (8, 9), (8, 10), (8, 11), (8, 12), (8, 13), (8, 14), (8, 15), (8, 16), (8, 17), (8, 18), (8, 19), (8, 20), (8, 21), (8, 22), (8, 23), (8, 24), (8, 25), (8, 26), (8, 27), (8, 28), (8, 29), (8, 30), (8, 31), (8, 32), (8, 33), (8, 34), (8, 35), (8, 36), (8, 37), (8, 38), (8, 39), (8, 40), (8, 41), (8, 42), (8, 43), (8, 44), (8, 45), (8, 46), (8, 47), (8, 48), (8, 49), (8, 50), (8, 51), (8, 52), (8, 53), (8, 54), (8, 55), (8, 56), (8, 57), (8, 58)] rfl rfl
set_option maxRecDepth 20000 in
theorem gX12_order_X12_bits : GoodIn wsX12_order (wsV RX12 281 RX12 yX12_bits wsX12_bits) := goodIn_app (goodIn_r2 csX12_order ciX12_order _ [(6, 14), (6, 15), (6, 16), (1, 10)] rfl rfl) ggX12_order_X12_bits
set_option maxRecDepth 20000 in
theorem ggX12_ofKeeper_X12_countsNow : GoodIn wsX12_ofKeeper wsX12_countsNow := goodIn_r2 csX12_ofKeeper ciX12_ofKeeper _ [(1, 18), (1, 1), (1, 3), (3, 0), (3, 1), (3, 2), (3, 3), (3, 4), (3, 5), (3, 6), (3, 7), (3, 8), (3, 9), (3, 10), (3, 11), (3, 12), (3, 13), (3, 14), (3, 15), (3, 16), (3, 17), (3, 18), (3, 19), (3, 20), (3, 21), (3, 22), (3, 23), (3, 24), (3, 25), (3, 26), (3, 27), (3, 28), (3, 29), (3, 30), (3, 31), (3, 32), (3, 33), (3, 34), (3, 35), (3, 36), (3, 37), (3, 38), (3, 39), (3, 40), (3, 41), (3, 42), (3, 43), (3, 44), (3, 45), (3, 46), (3, 47), (3, 48), (3, 49), (3, 50), (3, 51), (3, 52), (3, 53), (3, 54), (3, 55), (3, 56), (3, 57), (3, 58)] rfl rfl
set_option maxRecDepth 20000 in
theorem gX12_ofKeeper_X12_countsNow : GoodIn wsX12_ofKeeper (wsV RX12 170 RX12 yX12_countsNow wsX12_countsNow) := goodIn_app (goodIn_r2 csX12_ofKeeper ciX12_ofKeeper _ [(1, 15), (1, 16), (1, 17), (1, 9)] rfl rfl) ggX12_ofKeeper_X12_countsNow
set_option maxRecDepth 20000 in
theorem ggX12_name_X12_comesName : GoodIn wsX12_name wsX12_comesName := goodIn_r2 csX12_name ciX12_name _ [(1, 17), (1, 12), (1, 3), (1, 13), (1, 1), (2, 0), (2, 1), (2, 2), (2, 3), (2, 4), (2, 5), (2, 6), (2, 7), (2, 8), (2, 9), (2, 10), (2, 11), (2, 12), (2, 13), (2, 14), (2, 15), (2, 16), (2, 17), (2, 18), (2, 19), (2, 20), (2, 21), (2, 22), (2, 23), (2, 24), (2, 25), (2, 26), (2, 27), (2, 28), (2, 29), (2, 30), (2, 31), (2, 32), (2, 33), (2, 34), (2, 35), (2, 36), (2, 37), (2, 38), (2, 39), (2, 40), (2, 41), (2, 42), (2, 43), (2, 44), (2, 45), (2, 46), (2, 47), (2, 48), (2, 49), (2, 50), (2, 51), (2, 52), (2, 53), (2, 54), (2, 55), (2, 56), (2, 57), (2, 58)] rfl rfl
set_option maxRecDepth 20000 in
theorem gX12_name_X12_comesName : GoodIn wsX12_name (wsV RX12 153 RX12 yX12_comesName wsX12_comesName) := goodIn_app (goodIn_r2 csX12_name ciX12_name _ [(1, 14), (1, 15), (1, 16), (1, 6)] rfl rfl) ggX12_name_X12_comesName
set_option maxRecDepth 20000 in
theorem ggX12_movesFrom_X12_begins : GoodIn wsX12_movesFrom wsX12_begins := goodIn_r2 csX12_movesFrom ciX12_movesFrom _ [(1, 5), (1, 6), (1, 7), (2, 0), (2, 1), (2, 2), (2, 3), (2, 4), (2, 5), (2, 6), (2, 7), (2, 8), (2, 9), (2, 10), (2, 11), (2, 12), (2, 13), (2, 14), (2, 15), (2, 16), (2, 17), (2, 18), (2, 19), (2, 20), (2, 21), (2, 22), (2, 23), (2, 24), (2, 25), (2, 26), (2, 27), (2, 28), (2, 29), (2, 30), (2, 31), (2, 32), (2, 33), (2, 34), (2, 35), (2, 36), (2, 37), (2, 38), (2, 39), (2, 40), (2, 41), (2, 42), (2, 43), (2, 44), (2, 45), (2, 46), (2, 47), (2, 48), (2, 49), (2, 50), (2, 51), (2, 52), (2, 53), (2, 54), (2, 55), (2, 56), (2, 57), (2, 58)] rfl rfl
set_option maxRecDepth 20000 in
theorem gX12_movesFrom_X12_begins : GoodIn wsX12_movesFrom (wsV RX12 337 RX12 yX12_begins wsX12_begins) := goodIn_app (goodIn_r2 csX12_movesFrom ciX12_movesFrom _ [(1, 1), (1, 2), (1, 3), (1, 4)] rfl rfl) ggX12_movesFrom_X12_begins
noncomputable def csX12_movesBy : List (List Cond) := [[.code yX12_movesBy cX12_movesBy 7 (some .int)], [.fieldLink RX12 310 "SeatsRoundModel" "comers" "I", .fieldLink RX12 130 "SeatsRoundModel" "tried" "[I", .fieldLink RX12 133 "SeatsRoundModel" "names" "I", .fieldLink RX12 127 "SeatsRoundModel" "keepsBy" "[I", .methodLink RX12 316 yX12_setBy, .instanceMethod yX12_setBy, .selects RX12 yX12_setBy yX12_setBy, .initialized RX12, .code yX12_setBy cX12_setBy 5 (some .int), .fieldLink RX12 32 "SeatsRoundModel" "tableOf" "[I", .fieldLink RX12 86 "SeatsRoundModel" "comer" "[I", .methodLink RX12 284 yX12_ones, .static yX12_ones, .code yX12_ones cX12_ones 3 (some .int)], wsX120]
set_option maxRecDepth 20000 in
theorem ciX12_movesBy : ∀ l ∈ csX12_movesBy, ∀ w ∈ l, w ∈ wsX12_movesBy := by
  unfold csX12_movesBy
  refine List.forall_mem_cons.mpr ⟨fun _ h => List.mem_cons.mpr (Or.inl (List.mem_singleton.mp h)), List.forall_mem_cons.mpr ⟨fun _ h => List.mem_cons_of_mem _ (List.mem_append_left _ h), List.forall_mem_cons.mpr ⟨fun _ h => List.mem_cons_of_mem _ (List.mem_append_right _ h), fun l h => absurd h List.not_mem_nil⟩⟩⟩
set_option maxRecDepth 20000 in
theorem ggX12_movesBy_X12_setBy : GoodIn wsX12_movesBy wsX12_setBy := goodIn_r2 csX12_movesBy ciX12_movesBy _ [(1, 8), (1, 9), (1, 0), (1, 10), (2, 0), (2, 1), (2, 2), (2, 3), (2, 4), (2, 5), (2, 6), (2, 7), (2, 8), (2, 9), (2, 10), (2, 11), (2, 12), (2, 13), (2, 14), (2, 15), (2, 16), (2, 17), (2, 18), (2, 19), (2, 20), (2, 21), (2, 22), (2, 23), (2, 24), (2, 25), (2, 26), (2, 27), (2, 28), (2, 29), (2, 30), (2, 31), (2, 32), (2, 33), (2, 34), (2, 35), (2, 36), (2, 37), (2, 38), (2, 39), (2, 40), (2, 41), (2, 42), (2, 43), (2, 44), (2, 45), (2, 46), (2, 47), (2, 48), (2, 49), (2, 50), (2, 51), (2, 52), (2, 53), (2, 54), (2, 55), (2, 56), (2, 57), (2, 58)] rfl rfl
set_option maxRecDepth 20000 in
theorem gX12_movesBy_X12_setBy : GoodIn wsX12_movesBy (wsV RX12 316 RX12 yX12_setBy wsX12_setBy) := goodIn_app (goodIn_r2 csX12_movesBy ciX12_movesBy _ [(1, 4), (1, 5), (1, 6), (1, 7)] rfl rfl) ggX12_movesBy_X12_setBy
noncomputable def csX12_hasRoom : List (List Cond) := [[.code yX12_hasRoom cX12_hasRoom 3 (some .boolean)], [.fieldLink RX12 22 "SeatsRoundModel" "kind" "[I", .fieldLink RX12 68 "SeatsRoundModel" "version" "[I", .methodLink RX12 173 yX12_many, .instanceMethod yX12_many, .selects RX12 yX12_many yX12_many, .initialized RX12, .code yX12_many cX12_many 5 (some .int), .fieldLink RX12 71 "SeatsRoundModel" "kept" "[I"], wsX120]
set_option maxRecDepth 20000 in
theorem ciX12_hasRoom : ∀ l ∈ csX12_hasRoom, ∀ w ∈ l, w ∈ wsX12_hasRoom := by
  unfold csX12_hasRoom
  refine List.forall_mem_cons.mpr ⟨fun _ h => List.mem_cons.mpr (Or.inl (List.mem_singleton.mp h)), List.forall_mem_cons.mpr ⟨fun _ h => List.mem_cons_of_mem _ (List.mem_append_left _ h), List.forall_mem_cons.mpr ⟨fun _ h => List.mem_cons_of_mem _ (List.mem_append_right _ h), fun l h => absurd h List.not_mem_nil⟩⟩⟩
set_option maxRecDepth 20000 in
theorem ggX12_hasRoom_X12_many : GoodIn wsX12_hasRoom wsX12_many := goodIn_r2 csX12_hasRoom ciX12_hasRoom _ [(1, 6), (1, 1), (1, 7), (2, 0), (2, 1), (2, 2), (2, 3), (2, 4), (2, 5), (2, 6), (2, 7), (2, 8), (2, 9), (2, 10), (2, 11), (2, 12), (2, 13), (2, 14), (2, 15), (2, 16), (2, 17), (2, 18), (2, 19), (2, 20), (2, 21), (2, 22), (2, 23), (2, 24), (2, 25), (2, 26), (2, 27), (2, 28), (2, 29), (2, 30), (2, 31), (2, 32), (2, 33), (2, 34), (2, 35), (2, 36), (2, 37), (2, 38), (2, 39), (2, 40), (2, 41), (2, 42), (2, 43), (2, 44), (2, 45), (2, 46), (2, 47), (2, 48), (2, 49), (2, 50), (2, 51), (2, 52), (2, 53), (2, 54), (2, 55), (2, 56), (2, 57), (2, 58)] rfl rfl
set_option maxRecDepth 20000 in
theorem gX12_hasRoom_X12_many : GoodIn wsX12_hasRoom (wsV RX12 173 RX12 yX12_many wsX12_many) := goodIn_app (goodIn_r2 csX12_hasRoom ciX12_hasRoom _ [(1, 2), (1, 3), (1, 4), (1, 5)] rfl rfl) ggX12_hasRoom_X12_many
noncomputable def csX12_even : List (List Cond) := [[.code yX12_even cX12_even 5 (some .int)], wsX12_even_r1, wsX12_even_r2, wsX120]
set_option maxRecDepth 20000 in
theorem ciX12_even : ∀ l ∈ csX12_even, ∀ w ∈ l, w ∈ wsX12_even := by
  unfold csX12_even
  refine List.forall_mem_cons.mpr ⟨fun _ h => List.mem_cons.mpr (Or.inl (List.mem_singleton.mp h)), List.forall_mem_cons.mpr ⟨fun _ h => List.mem_cons_of_mem _ (List.mem_append_left _ (List.mem_append_left _ h)), List.forall_mem_cons.mpr ⟨fun _ h => List.mem_cons_of_mem _ (List.mem_append_left _ (List.mem_append_right _ h)), List.forall_mem_cons.mpr ⟨fun _ h => List.mem_cons_of_mem _ (List.mem_append_right _ h), fun l h => absurd h List.not_mem_nil⟩⟩⟩⟩
set_option maxRecDepth 20000 in
theorem ggX12_even_X12_isIn : GoodIn wsX12_even wsX12_isIn := goodIn_r2 csX12_even ciX12_even _ [(2, 5), (1, 13), (3, 0), (3, 1), (3, 2), (3, 3), (3, 4), (3, 5), (3, 6), (3, 7), (3, 8), (3, 9), (3, 10), (3, 11), (3, 12), (3, 13), (3, 14), (3, 15), (3, 16), (3, 17), (3, 18), (3, 19), (3, 20), (3, 21), (3, 22), (3, 23), (3, 24), (3, 25), (3, 26), (3, 27), (3, 28), (3, 29), (3, 30), (3, 31), (3, 32), (3, 33), (3, 34), (3, 35), (3, 36), (3, 37), (3, 38), (3, 39), (3, 40), (3, 41), (3, 42), (3, 43), (3, 44), (3, 45), (3, 46), (3, 47), (3, 48), (3, 49), (3, 50), (3, 51), (3, 52), (3, 53), (3, 54), (3, 55), (3, 56), (3, 57), (3, 58)] rfl rfl
set_option maxRecDepth 20000 in
theorem gX12_even_X12_isIn : GoodIn wsX12_even (wsV RX12 223 RX12 yX12_isIn wsX12_isIn) := goodIn_app (goodIn_r2 csX12_even ciX12_even _ [(2, 2), (2, 3), (2, 4), (1, 5)] rfl rfl) ggX12_even_X12_isIn
noncomputable def csX3_readSum : List (List Cond) := [[.code yX3_readSum cX3_readSum 6 (some .int)], wsX3_readSum_r1, wsX3_readSum_r2, wsX30]
set_option maxRecDepth 20000 in
theorem ciX3_readSum : ∀ l ∈ csX3_readSum, ∀ w ∈ l, w ∈ wsX3_readSum := by
  unfold csX3_readSum
  refine List.forall_mem_cons.mpr ⟨fun _ h => List.mem_cons.mpr (Or.inl (List.mem_singleton.mp h)), List.forall_mem_cons.mpr ⟨fun _ h => List.mem_cons_of_mem _ (List.mem_append_left _ (List.mem_append_left _ h)), List.forall_mem_cons.mpr ⟨fun _ h => List.mem_cons_of_mem _ (List.mem_append_left _ (List.mem_append_right _ h)), List.forall_mem_cons.mpr ⟨fun _ h => List.mem_cons_of_mem _ (List.mem_append_right _ h), fun l h => absurd h List.not_mem_nil⟩⟩⟩⟩
set_option maxRecDepth 20000 in
theorem ggX3_readSum_X3_readProduct : GoodIn wsX3_readSum wsX3_readProduct := goodIn_r2 csX3_readSum ciX3_readSum _ [(2, 7), (1, 0), (1, 1), (2, 8), (2, 9), (2, 10), (1, 5), (1, 6), (1, 7), (1, 8), (1, 9), (1, 10), (1, 11), (1, 12), (1, 13), (1, 14), (1, 15), (1, 16), (1, 17), (1, 18), (1, 19), (1, 20), (1, 21), (1, 22), (1, 23), (2, 0), (2, 1), (2, 2), (2, 3), (2, 4), (2, 5), (2, 6), (0, 0), (1, 2), (1, 3), (1, 4), (3, 0), (3, 1), (3, 2), (3, 3), (3, 4), (3, 5), (3, 6), (3, 7)] rfl rfl
set_option maxRecDepth 20000 in
theorem gX3_readSum_X3_readProduct : GoodIn wsX3_readSum (wsV RX3 100 RX3 yX3_readProduct wsX3_readProduct) := goodIn_app (goodIn_r2 csX3_readSum ciX3_readSum _ [(1, 2), (1, 3), (1, 4), (1, 5)] rfl rfl) ggX3_readSum_X3_readProduct
set_option maxRecDepth 20000 in
theorem ggX3_readPart_X3_readSum : GoodIn wsX3_readPart wsX3_readSum := goodIn_r2 csX3_readPart ciX3_readPart _ [(1, 15), (1, 1), (1, 0), (1, 16), (1, 17), (1, 18), (1, 8), (1, 5), (1, 6), (1, 7), (1, 9), (1, 10), (1, 11), (1, 19), (1, 12), (1, 13), (1, 14), (1, 20), (1, 21), (1, 22), (1, 23), (2, 0), (2, 1), (2, 2), (2, 3), (2, 4), (2, 5), (2, 6), (2, 7), (2, 8), (2, 9), (2, 10), (2, 11), (2, 12), (2, 13), (2, 14), (4, 0), (4, 1), (4, 2), (4, 3), (4, 4), (4, 5), (4, 6), (4, 7)] rfl rfl
set_option maxRecDepth 20000 in
theorem gX3_readPart_X3_readSum : GoodIn wsX3_readPart (wsV RX3 88 RX3 yX3_readSum wsX3_readSum) := goodIn_app (goodIn_r2 csX3_readPart ciX3_readPart _ [(1, 12), (1, 13), (1, 14), (1, 8)] rfl rfl) ggX3_readPart_X3_readSum
set_option maxRecDepth 20000 in
theorem ggX1_pick_X1_pickBySums : GoodIn wsX1_pick wsX1_pickBySums := goodIn_r2 csX1_pick ciX1_pick _ [(1, 7), (1, 8), (1, 0), (1, 9), (1, 10), (1, 1), (1, 11), (1, 12), (1, 13), (1, 14), (1, 15), (1, 16), (1, 17), (1, 18), (1, 19), (1, 20), (1, 21), (1, 22), (4, 0), (4, 1), (4, 2), (4, 3), (4, 4), (4, 5), (4, 6), (4, 7), (4, 8), (4, 9), (4, 10), (4, 11), (4, 12), (3, 0), (3, 1), (3, 2), (3, 3), (3, 4), (3, 5), (3, 6), (3, 7), (3, 8)] rfl rfl
set_option maxRecDepth 20000 in
theorem gX1_pick_X1_pickBySums : GoodIn wsX1_pick (wsV RX1 46 RX1 yX1_pickBySums wsX1_pickBySums) := goodIn_app (goodIn_r2 csX1_pick ciX1_pick _ [(1, 3), (1, 4), (1, 5), (1, 6)] rfl rfl) ggX1_pick_X1_pickBySums
set_option maxRecDepth 20000 in
theorem ggX11_share_X8_firstFor : GoodIn wsX11_share wsX8_firstFor := goodIn_r2 csX11_share ciX11_share _ [(2, 8), (2, 9), (2, 10), (2, 11), (2, 12), (2, 13), (2, 14), (2, 15), (1, 21), (2, 16), (2, 17), (2, 18), (2, 19), (2, 20), (1, 8), (2, 21), (2, 22), (5, 0), (5, 1), (5, 2), (5, 3), (5, 4), (5, 5), (5, 6), (5, 7), (5, 8), (5, 9), (5, 10), (5, 11), (5, 12)] rfl rfl
set_option maxRecDepth 20000 in
theorem gX11_share_X8_firstFor : GoodIn wsX11_share (wsV RX11 257 RX8 yX8_firstFor wsX8_firstFor) := goodIn_app (goodIn_r2 csX11_share ciX11_share _ [(3, 7), (2, 6), (2, 7), (1, 21)] rfl rfl) ggX11_share_X8_firstFor
noncomputable def csX0_keepsFrom : List (List Cond) := [[.code yX0_keepsFrom cX0_keepsFrom 4 (some .int)], [.fieldLink RX0 19 "SeatsRound$Acts" "own" "I", .methodLink RX0 41 yX0_begin, .instanceMethod yX0_begin, .selects RX0 yX0_begin yX0_begin, .initialized RX0, .code yX0_begin cX0_begin 2 none, .fieldLink RX0 15 "SeatsRound$Acts" "ran" "I", .fieldLink RX0 9 "SeatsRound$Acts" "bodies" "[I", .methodLink RX0 32 yX0_keepsFrom, .instanceMethod yX0_keepsFrom, .selects RX0 yX0_keepsFrom yX0_keepsFrom, .methodLink RX0 35 yX0_movesFrom, .instanceMethod yX0_movesFrom, .selects RX0 yX0_movesFrom yX0_movesFrom, .code yX0_movesFrom cX0_movesFrom 4 (some .int), .fieldLink RX0 22 "SeatsRound$Acts" "number" "I", .methodLink RX0 28 yX0_findsFrom, .instanceMethod yX0_findsFrom, .selects RX0 yX0_findsFrom yX0_findsFrom, .code yX0_findsFrom cX0_findsFrom 3 (some .int), .fieldLink RX0 25 "SeatsRound$Acts" "strength" "I"], wsX00]
set_option maxRecDepth 20000 in
theorem ciX0_keepsFrom : ∀ l ∈ csX0_keepsFrom, ∀ w ∈ l, w ∈ wsX0_keepsFrom := by
  unfold csX0_keepsFrom
  refine List.forall_mem_cons.mpr ⟨fun _ h => List.mem_cons.mpr (Or.inl (List.mem_singleton.mp h)), List.forall_mem_cons.mpr ⟨fun _ h => List.mem_cons_of_mem _ (List.mem_append_left _ h), List.forall_mem_cons.mpr ⟨fun _ h => List.mem_cons_of_mem _ (List.mem_append_right _ h), fun l h => absurd h List.not_mem_nil⟩⟩⟩
set_option maxRecDepth 20000 in
theorem ggX0_keepsFrom_X0_movesFrom : GoodIn wsX0_keepsFrom wsX0_movesFrom := goodIn_r2 csX0_keepsFrom ciX0_keepsFrom _ [(1, 14), (1, 0), (1, 15), (1, 1), (1, 2), (1, 3), (1, 4), (1, 5), (1, 6), (1, 7), (1, 11), (1, 12), (1, 13), (1, 16), (1, 17), (1, 18), (1, 19), (1, 20), (2, 0), (2, 1), (2, 2), (2, 3), (2, 4)] rfl rfl
set_option maxRecDepth 20000 in
theorem gX0_keepsFrom_X0_movesFrom : GoodIn wsX0_keepsFrom (wsV RX0 35 RX0 yX0_movesFrom wsX0_movesFrom) := goodIn_app (goodIn_r2 csX0_keepsFrom ciX0_keepsFrom _ [(1, 11), (1, 12), (1, 13), (1, 4)] rfl rfl) ggX0_keepsFrom_X0_movesFrom
set_option maxRecDepth 20000 in
theorem ggX6_movePiece_X6_takesGreater : GoodIn wsX6_movePiece wsX6_takesGreater := goodIn_r2 csX6_movePiece ciX6_movePiece _ [(1, 15), (1, 3), (2, 0), (2, 1), (2, 2), (2, 3), (2, 4), (2, 5), (2, 6), (2, 7), (2, 8), (2, 9), (2, 10), (2, 11)] rfl rfl
set_option maxRecDepth 20000 in
theorem gX6_movePiece_X6_takesGreater : GoodIn wsX6_movePiece (wsV RX6 100 RX6 yX6_takesGreater wsX6_takesGreater) := goodIn_app (goodIn_r2 csX6_movePiece ciX6_movePiece _ [(1, 11), (1, 12), (1, 13), (1, 14)] rfl rfl) ggX6_movePiece_X6_takesGreater
noncomputable def csX1_pickBySums : List (List Cond) := [[.code yX1_pickBySums cX1_pickBySums 7 none], [.fieldLink RX1 59 "SeatsRound$Table" "members" "I", .fieldLink RX1 18 "SeatsRound$Choice" "pickCount" "I", .fieldLink RX1 34 "SeatsRound$Choice" "sums" "[I", .fieldLink RX1 9 "SeatsRound$Choice" "picks" "[I", .fieldLink RX1 31 "SeatsRound$Choice" "pickBits" "I", .methodLink RX1 85 yX8_sumOf, .instanceMethod yX8_sumOf, .selects RX8 yX8_sumOf yX8_sumOf, .initialized RX8, .code yX8_sumOf cX8_sumOf 3 (some .int), .constant RX8 86 (104729), .fieldLink RX8 15 "SeatsRound$Table" "turn" "I", .fieldLink RX8 37 "SeatsRound$Table" "weight" "[I", .static yX11_strewn, .initialized RX11, .code yX11_strewn cX11_strewn 1 (some .int), .constant RX11 423 (1103515245)], wsX80, wsX10]
set_option maxRecDepth 20000 in
theorem ciX1_pickBySums : ∀ l ∈ csX1_pickBySums, ∀ w ∈ l, w ∈ wsX1_pickBySums := by
  unfold csX1_pickBySums
  refine List.forall_mem_cons.mpr ⟨fun _ h => List.mem_cons.mpr (Or.inl (List.mem_singleton.mp h)), List.forall_mem_cons.mpr ⟨fun _ h => List.mem_cons_of_mem _ (List.mem_append_left _ (List.mem_append_left _ h)), List.forall_mem_cons.mpr ⟨fun _ h => List.mem_cons_of_mem _ (List.mem_append_left _ (List.mem_append_right _ h)), List.forall_mem_cons.mpr ⟨fun _ h => List.mem_cons_of_mem _ (List.mem_append_right _ h), fun l h => absurd h List.not_mem_nil⟩⟩⟩⟩
set_option maxRecDepth 20000 in
theorem ggX1_pickBySums_X8_sumOf : GoodIn wsX1_pickBySums wsX8_sumOf := goodIn_r2 csX1_pickBySums ciX1_pickBySums _ [(1, 9), (1, 10), (1, 11), (1, 12), (1, 13), (1, 14), (1, 15), (1, 16), (2, 0), (2, 1), (2, 2), (2, 3), (2, 4), (2, 5), (2, 6), (2, 7), (2, 8), (2, 9), (2, 10), (2, 11), (2, 12)] rfl rfl
set_option maxRecDepth 20000 in
theorem gX1_pickBySums_X8_sumOf : GoodIn wsX1_pickBySums (wsV RX1 85 RX8 yX8_sumOf wsX8_sumOf) := goodIn_app (goodIn_r2 csX1_pickBySums ciX1_pickBySums _ [(1, 5), (1, 6), (1, 7), (1, 8)] rfl rfl) ggX1_pickBySums_X8_sumOf
set_option maxRecDepth 20000 in
theorem ggX11_ofKeeper_X6_keptBy : GoodIn wsX11_ofKeeper wsX6_keptBy := goodIn_r2 csX11_ofKeeper ciX11_ofKeeper _ [(2, 8), (2, 9), (2, 2), (2, 3), (1, 23), (2, 4), (5, 0), (5, 1), (5, 2), (5, 3), (5, 4), (5, 5), (5, 6), (5, 7), (5, 8), (5, 9), (5, 10), (5, 11)] rfl rfl
set_option maxRecDepth 20000 in
theorem gX11_ofKeeper_X6_keptBy : GoodIn wsX11_ofKeeper (wsV RX11 166 RX6 yX6_keptBy wsX6_keptBy) := goodIn_app (goodIn_r2 csX11_ofKeeper ciX11_ofKeeper _ [(2, 5), (2, 6), (2, 7), (1, 23)] rfl rfl) ggX11_ofKeeper_X6_keptBy
set_option maxRecDepth 20000 in
theorem ggX11_moves_X8_alikeIn : GoodIn wsX11_moves wsX8_alikeIn := goodIn_r2 csX11_moves ciX11_moves _ [(1, 16), (1, 17), (1, 18), (8, 0), (8, 1), (8, 2), (8, 3), (8, 4), (8, 5), (8, 6), (8, 7), (8, 8), (8, 9), (8, 10), (8, 11), (8, 12)] rfl rfl
set_option maxRecDepth 20000 in
theorem gX11_moves_X8_alikeIn : GoodIn wsX11_moves (wsV RX11 260 RX8 yX8_alikeIn wsX8_alikeIn) := goodIn_app (goodIn_r2 csX11_moves ciX11_moves _ [(1, 12), (1, 13), (1, 14), (1, 15)] rfl rfl) ggX11_moves_X8_alikeIn
noncomputable def csX1_pickRound : List (List Cond) := [[.code yX1_pickRound cX1_pickRound 5 none], [.fieldLink RX1 56 "SeatsRound$Table" "seats" "I", .fieldLink RX1 31 "SeatsRound$Choice" "pickBits" "I", .fieldLink RX1 59 "SeatsRound$Table" "members" "I", .fieldLink RX1 62 "SeatsRound$Table" "ahead" "[S", .fieldLink RX1 66 "SeatsRound$Table" "owner" "[B", .methodLink RX1 70 yX1_isPicked, .instanceMethod yX1_isPicked, .selects RX1 yX1_isPicked yX1_isPicked, .initialized RX1, .code yX1_isPicked cX1_isPicked 2 (some .boolean), .methodLink RX1 74 yX1_takePick, .instanceMethod yX1_takePick, .selects RX1 yX1_takePick yX1_takePick, .code yX1_takePick cX1_takePick 2 none, .fieldLink RX1 18 "SeatsRound$Choice" "pickCount" "I", .fieldLink RX1 9 "SeatsRound$Choice" "picks" "[I", .static yX11_placeBehind, .initialized RX11, .code yX11_placeBehind cX11_placeBehind 1 (some .int)], wsX80, wsX10]
set_option maxRecDepth 20000 in
theorem ciX1_pickRound : ∀ l ∈ csX1_pickRound, ∀ w ∈ l, w ∈ wsX1_pickRound := by
  unfold csX1_pickRound
  refine List.forall_mem_cons.mpr ⟨fun _ h => List.mem_cons.mpr (Or.inl (List.mem_singleton.mp h)), List.forall_mem_cons.mpr ⟨fun _ h => List.mem_cons_of_mem _ (List.mem_append_left _ (List.mem_append_left _ h)), List.forall_mem_cons.mpr ⟨fun _ h => List.mem_cons_of_mem _ (List.mem_append_left _ (List.mem_append_right _ h)), List.forall_mem_cons.mpr ⟨fun _ h => List.mem_cons_of_mem _ (List.mem_append_right _ h), fun l h => absurd h List.not_mem_nil⟩⟩⟩⟩
set_option maxRecDepth 20000 in
theorem ggX1_pickRound_X1_isPicked : GoodIn wsX1_pickRound wsX1_isPicked := goodIn_r2 csX1_pickRound ciX1_pickRound _ [(1, 9), (1, 1), (3, 0), (3, 1), (3, 2), (3, 3), (3, 4), (3, 5), (3, 6), (3, 7), (3, 8)] rfl rfl
set_option maxRecDepth 20000 in
theorem gX1_pickRound_X1_isPicked : GoodIn wsX1_pickRound (wsV RX1 70 RX1 yX1_isPicked wsX1_isPicked) := goodIn_app (goodIn_r2 csX1_pickRound ciX1_pickRound _ [(1, 5), (1, 6), (1, 7), (1, 8)] rfl rfl) ggX1_pickRound_X1_isPicked
set_option maxRecDepth 20000 in
theorem ggX3_readPart_X3_heldWithin : GoodIn wsX3_readPart wsX3_heldWithin := goodIn_r2 csX3_readPart ciX3_readPart _ [(2, 17), (2, 18), (2, 19), (2, 20), (2, 21), (2, 22), (2, 23), (3, 0)] rfl rfl
set_option maxRecDepth 20000 in
theorem gX3_readPart_X3_heldWithin : GoodIn wsX3_readPart (va_wsS RX3 91 yX3_heldWithin wsX3_heldWithin) := goodIn_app (goodIn_r2 csX3_readPart ciX3_readPart _ [(2, 15), (2, 16), (1, 8)] rfl rfl) ggX3_readPart_X3_heldWithin
set_option maxRecDepth 20000 in
theorem ggX11_keeperOf_X4_placeOf : GoodIn wsX11_keeperOf wsX4_placeOf := goodIn_r2 csX11_keeperOf ciX11_keeperOf _ [(1, 21), (1, 22), (1, 23), (2, 0), (9, 0), (9, 1), (9, 2), (9, 3)] rfl rfl
set_option maxRecDepth 20000 in
theorem gX11_keeperOf_X4_placeOf : GoodIn wsX11_keeperOf (wsV RX11 127 RX4 yX4_placeOf wsX4_placeOf) := goodIn_app (goodIn_r2 csX11_keeperOf ciX11_keeperOf _ [(1, 18), (1, 19), (1, 20), (1, 15)] rfl rfl) ggX11_keeperOf_X4_placeOf
set_option maxRecDepth 20000 in
theorem ggX11_tooFew_X4_placeOf : GoodIn wsX11_tooFew wsX4_placeOf := goodIn_r2 csX11_tooFew ciX11_tooFew _ [(1, 17), (1, 18), (1, 19), (1, 20), (7, 0), (7, 1), (7, 2), (7, 3)] rfl rfl
set_option maxRecDepth 20000 in
theorem gX11_tooFew_X4_placeOf : GoodIn wsX11_tooFew (wsV RX11 127 RX4 yX4_placeOf wsX4_placeOf) := goodIn_app (goodIn_r2 csX11_tooFew ciX11_tooFew _ [(1, 13), (1, 14), (1, 15), (1, 16)] rfl rfl) ggX11_tooFew_X4_placeOf
set_option maxRecDepth 20000 in
theorem ggX11_share_X4_placeOf : GoodIn wsX11_share wsX4_placeOf := goodIn_r2 csX11_share ciX11_share _ [(3, 3), (3, 4), (3, 5), (3, 6), (6, 0), (6, 1), (6, 2), (6, 3)] rfl rfl
set_option maxRecDepth 20000 in
theorem gX11_share_X4_placeOf : GoodIn wsX11_share (wsV RX11 127 RX4 yX4_placeOf wsX4_placeOf) := goodIn_app (goodIn_r2 csX11_share ciX11_share _ [(2, 23), (3, 0), (3, 1), (3, 2)] rfl rfl) ggX11_share_X4_placeOf
noncomputable def csX3_readWay : List (List Cond) := [[.code yX3_readWay cX3_readWay 2 (some .int)], [.fieldLink RX3 19 "SeatsRound$Law" "at" "I", .fieldLink RX3 22 "SeatsRound$Law" "fault" "I", .methodLink RX3 62 yX3_sign, .instanceMethod yX3_sign, .selects RX3 yX3_sign yX3_sign, .initialized RX3, .code yX3_sign cX3_sign 1 (some .int), .fieldLink RX3 15 "SeatsRound$Law" "length" "I", .fieldLink RX3 9 "SeatsRound$Law" "text" "[B"], wsX30]
set_option maxRecDepth 20000 in
theorem ciX3_readWay : ∀ l ∈ csX3_readWay, ∀ w ∈ l, w ∈ wsX3_readWay := by
  unfold csX3_readWay
  refine List.forall_mem_cons.mpr ⟨fun _ h => List.mem_cons.mpr (Or.inl (List.mem_singleton.mp h)), List.forall_mem_cons.mpr ⟨fun _ h => List.mem_cons_of_mem _ (List.mem_append_left _ h), List.forall_mem_cons.mpr ⟨fun _ h => List.mem_cons_of_mem _ (List.mem_append_right _ h), fun l h => absurd h List.not_mem_nil⟩⟩⟩
set_option maxRecDepth 20000 in
theorem ggX3_readWay_X3_sign : GoodIn wsX3_readWay wsX3_sign := goodIn_r2 csX3_readWay ciX3_readWay _ [(1, 6), (1, 0), (1, 7), (1, 8), (2, 0), (2, 1), (2, 2), (2, 3), (2, 4), (2, 5), (2, 6), (2, 7)] rfl rfl
set_option maxRecDepth 20000 in
theorem gX3_readWay_X3_sign : GoodIn wsX3_readWay (wsV RX3 62 RX3 yX3_sign wsX3_sign) := goodIn_app (goodIn_r2 csX3_readWay ciX3_readWay _ [(1, 2), (1, 3), (1, 4), (1, 5)] rfl rfl) ggX3_readWay_X3_sign
set_option maxRecDepth 20000 in
theorem ggX7_refusalAt_X7_isRow : GoodIn wsX7_refusalAt wsX7_isRow := goodIn_r2 csX7_refusalAt ciX7_refusalAt _ [(1, 11), (1, 6), (2, 0), (2, 1), (2, 2), (2, 3)] rfl rfl
set_option maxRecDepth 20000 in
theorem gX7_refusalAt_X7_isRow : GoodIn wsX7_refusalAt (wsV RX7 39 RX7 yX7_isRow wsX7_isRow) := goodIn_app (goodIn_r2 csX7_refusalAt ciX7_refusalAt _ [(1, 8), (1, 9), (1, 10), (1, 4)] rfl rfl) ggX7_refusalAt_X7_isRow
set_option maxRecDepth 20000 in
theorem ggX11_read_X2_isUp : GoodIn wsX11_read wsX2_isUp := goodIn_r2 csX11_read ciX11_read _ [(2, 2), (2, 3), (2, 4), (8, 0), (8, 1), (8, 2), (8, 3), (8, 4), (8, 5)] rfl rfl
set_option maxRecDepth 20000 in
theorem gX11_read_X2_isUp : GoodIn wsX11_read (wsV RX11 267 RX2 yX2_isUp wsX2_isUp) := goodIn_app (goodIn_r2 csX11_read ciX11_read _ [(1, 23), (2, 0), (2, 1), (1, 7)] rfl rfl) ggX11_read_X2_isUp
set_option maxRecDepth 20000 in
theorem ggX11_shift_X7_isRow : GoodIn wsX11_shift wsX7_isRow := goodIn_r2 csX11_shift ciX11_shift _ [(1, 21), (1, 16), (4, 0), (4, 1), (4, 2), (4, 3)] rfl rfl
set_option maxRecDepth 20000 in
theorem gX11_shift_X7_isRow : GoodIn wsX11_shift (wsV RX11 385 RX7 yX7_isRow wsX7_isRow) := goodIn_app (goodIn_r2 csX11_shift ciX11_shift _ [(1, 18), (1, 19), (1, 20), (1, 14)] rfl rfl) ggX11_shift_X7_isRow
set_option maxRecDepth 20000 in
theorem ggX11_write_X4_has : GoodIn wsX11_write wsX4_has := goodIn_r2 csX11_write ciX11_write _ [(1, 14), (1, 15), (10, 0), (10, 1), (10, 2), (10, 3)] rfl rfl
set_option maxRecDepth 20000 in
theorem gX11_write_X4_has : GoodIn wsX11_write (wsV RX11 123 RX4 yX4_has wsX4_has) := goodIn_app (goodIn_r2 csX11_write ciX11_write _ [(1, 10), (1, 11), (1, 12), (1, 13)] rfl rfl) ggX11_write_X4_has
noncomputable def csX6_keptBy : List (List Cond) := [[.code yX6_keptBy cX6_keptBy 2 (some .int)], [.fieldLink RX6 16 "SeatsRound$Parcels" "kept" "[[I", .methodLink RX6 141 yX6_filled, .static yX6_filled, .initialized RX6, .code yX6_filled cX6_filled 6 (some .int)], wsX60]
set_option maxRecDepth 20000 in
theorem ciX6_keptBy : ∀ l ∈ csX6_keptBy, ∀ w ∈ l, w ∈ wsX6_keptBy := by
  unfold csX6_keptBy
  refine List.forall_mem_cons.mpr ⟨fun _ h => List.mem_cons.mpr (Or.inl (List.mem_singleton.mp h)), List.forall_mem_cons.mpr ⟨fun _ h => List.mem_cons_of_mem _ (List.mem_append_left _ h), List.forall_mem_cons.mpr ⟨fun _ h => List.mem_cons_of_mem _ (List.mem_append_right _ h), fun l h => absurd h List.not_mem_nil⟩⟩⟩
set_option maxRecDepth 20000 in
theorem ggX6_keptBy_X6_filled : GoodIn wsX6_keptBy wsX6_filled := goodIn_r2 csX6_keptBy ciX6_keptBy _ [(1, 4)] rfl rfl
set_option maxRecDepth 20000 in
theorem gX6_keptBy_X6_filled : GoodIn wsX6_keptBy (va_wsS RX6 141 yX6_filled wsX6_filled) := goodIn_app (goodIn_r2 csX6_keptBy ciX6_keptBy _ [(1, 1), (1, 2), (1, 3)] rfl rfl) ggX6_keptBy_X6_filled
noncomputable def csX4_find : List (List Cond) := [[.code yX4_find cX4_find 5 (some .int)], [.fieldLink RX4 24 "SeatsRound$NameList" "count" "I", .fieldLink RX4 16 "SeatsRound$NameList" "size" "[I", .fieldLink RX4 11 "SeatsRound$NameList" "bytes" "[[B", .methodLink RX4 28 yX4_isAlike, .static yX4_isAlike, .initialized RX4, .code yX4_isAlike cX4_isAlike 5 (some .boolean)], wsX40]
set_option maxRecDepth 20000 in
theorem ciX4_find : ∀ l ∈ csX4_find, ∀ w ∈ l, w ∈ wsX4_find := by
  unfold csX4_find
  refine List.forall_mem_cons.mpr ⟨fun _ h => List.mem_cons.mpr (Or.inl (List.mem_singleton.mp h)), List.forall_mem_cons.mpr ⟨fun _ h => List.mem_cons_of_mem _ (List.mem_append_left _ h), List.forall_mem_cons.mpr ⟨fun _ h => List.mem_cons_of_mem _ (List.mem_append_right _ h), fun l h => absurd h List.not_mem_nil⟩⟩⟩
set_option maxRecDepth 20000 in
theorem ggX4_find_X4_isAlike : GoodIn wsX4_find wsX4_isAlike := goodIn_r2 csX4_find ciX4_find _ [(1, 6)] rfl rfl
set_option maxRecDepth 20000 in
theorem gX4_find_X4_isAlike : GoodIn wsX4_find (va_wsS RX4 28 yX4_isAlike wsX4_isAlike) := goodIn_app (goodIn_r2 csX4_find ciX4_find _ [(1, 3), (1, 4), (1, 5)] rfl rfl) ggX4_find_X4_isAlike
set_option maxRecDepth 20000 in
theorem ggX12_seat_X12_in : GoodIn wsX12_seat wsX12_in := goodIn_r2 csX12_seat ciX12_seat _ [(1, 9)] rfl rfl
set_option maxRecDepth 20000 in
theorem gX12_seat_X12_in : GoodIn wsX12_seat (va_wsS RX12 136 yX12_in wsX12_in) := goodIn_app (goodIn_r2 csX12_seat ciX12_seat _ [(1, 7), (1, 8), (1, 4)] rfl rfl) ggX12_seat_X12_in
noncomputable def csX12_one : List (List Cond) := [[.code yX12_one cX12_one 4 (some .int)], wsX12_one_r1, wsX12_one_r2, wsX120]
set_option maxRecDepth 20000 in
theorem ciX12_one : ∀ l ∈ csX12_one, ∀ w ∈ l, w ∈ wsX12_one := by
  unfold csX12_one
  refine List.forall_mem_cons.mpr ⟨fun _ h => List.mem_cons.mpr (Or.inl (List.mem_singleton.mp h)), List.forall_mem_cons.mpr ⟨fun _ h => List.mem_cons_of_mem _ (List.mem_append_left _ (List.mem_append_left _ h)), List.forall_mem_cons.mpr ⟨fun _ h => List.mem_cons_of_mem _ (List.mem_append_left _ (List.mem_append_right _ h)), List.forall_mem_cons.mpr ⟨fun _ h => List.mem_cons_of_mem _ (List.mem_append_right _ h), fun l h => absurd h List.not_mem_nil⟩⟩⟩⟩
set_option maxRecDepth 20000 in
theorem ggX12_one_X12_in : GoodIn wsX12_one wsX12_in := goodIn_r2 csX12_one ciX12_one _ [(1, 17)] rfl rfl
set_option maxRecDepth 20000 in
theorem gX12_one_X12_in : GoodIn wsX12_one (va_wsS RX12 136 yX12_in wsX12_in) := goodIn_app (goodIn_r2 csX12_one ciX12_one _ [(1, 15), (1, 16), (1, 10)] rfl rfl) ggX12_one_X12_in
