set_option maxRecDepth 20000 in
theorem ggX12_order_X12_tries : GoodIn wsX12_order wsX12_tries := goodIn_r2 csX12_order ciX12_order _ [(2, 1), (1, 20), (1, 1), (2, 2), (2, 3), (2, 4), (2, 5), (2, 6), (2, 7), (2, 8), (2, 9), (2, 10), (1, 10), (2, 11), (2, 12), (2, 13), (2, 14), (2, 15), (2, 16), (2, 17), (2, 18), (2, 19), (2, 20), (2, 21), (2, 22), (2, 23), (3, 0), (3, 1), (3, 2), (3, 3), (3, 4), (3, 5), (3, 6), (3, 7), (3, 8), (3, 9), (3, 10), (3, 11), (3, 12), (3, 13), (3, 14), (3, 15), (3, 16), (3, 17), (3, 18), (3, 19), (3, 20), (1, 13), (1, 14), (1, 15), (3, 21), (3, 22), (3, 23), (4, 0), (4, 1), (4, 2), (4, 3), (4, 4), (4, 5), (4, 6), (4, 7), (4, 8), (4, 9), (4, 10), (4, 11), (4, 12), (4, 13), (4, 14), (4, 15), (4, 16), (4, 17), (4, 18), (4, 19), (4, 20), (4, 21), (4, 22), (8, 0), (8, 1), (8, 2), (8, 3), (8, 4), (8, 5), (8, 6), (8, 7), (8, 8), (8, 9), (8, 10), (8, 11), (8, 12), (8, 13), (8, 14), (8, 15), (8, 16), (8, 17), (8, 18), (8, 19), (8, 20), (8, 21), (8, 22), (8, 23), (8, 24), (8, 25), (8, 26), (8, 27), (8, 28), (8, 29), (8, 30), (8, 31), (8, 32), (8, 33), (8, 34), (8, 35), (8, 36), (8, 37), (8, 38), (8, 39), (8, 40), (8, 41), (8, 42), (8, 43), (8, 44), (8, 45), (8, 46), (8, 47), (8, 48), (8, 49), (8, 50), (8, 51), (8, 52), (8, 53), (8, 54), (8, 55), (8, 56), (8, 57), (8, 58)] rfl rfl
set_option maxRecDepth 20000 in
theorem gX12_order_X12_tries : GoodIn wsX12_order (wsV RX12 319 RX12 yX12_tries wsX12_tries) := goodIn_app (goodIn_r2 csX12_order ciX12_order _ [(1, 22), (1, 23), (2, 0), (1, 10)] rfl rfl) ggX12_order_X12_tries
set_option maxRecDepth 20000 in
theorem ggX12_mend_X12_chooseName : GoodIn wsX12_mend wsX12_chooseName := goodIn_r2 csX12_mend ciX12_mend _ [(1, 18), (1, 19), (1, 20), (1, 21), (1, 22), (1, 9), (1, 23), (2, 0), (2, 1), (2, 2), (2, 3), (2, 4), (2, 5), (2, 6), (1, 4), (2, 7), (2, 8), (2, 9), (2, 10), (1, 5), (2, 11), (2, 12), (2, 13), (2, 14), (2, 15), (2, 16), (2, 17), (2, 18), (2, 19), (2, 20), (1, 1), (2, 21), (2, 22), (2, 23), (3, 0), (3, 1), (3, 2), (3, 3), (3, 4), (3, 5), (3, 6), (3, 7), (3, 8), (3, 9), (3, 10), (3, 11), (3, 12), (3, 13), (3, 14), (3, 15), (3, 16), (3, 17), (3, 18), (3, 19), (3, 20), (5, 0), (5, 1), (5, 2), (5, 3), (5, 4), (5, 5), (5, 6), (5, 7), (5, 8), (5, 9), (5, 10), (5, 11), (5, 12), (5, 13), (5, 14), (5, 15), (5, 16), (5, 17), (5, 18), (5, 19), (5, 20), (5, 21), (5, 22), (5, 23), (5, 24), (5, 25), (5, 26), (5, 27), (5, 28), (5, 29), (5, 30), (5, 31), (5, 32), (5, 33), (5, 34), (5, 35), (5, 36), (5, 37), (5, 38), (5, 39), (5, 40), (5, 41), (5, 42), (5, 43), (5, 44), (5, 45), (5, 46), (5, 47), (5, 48), (5, 49), (5, 50), (5, 51), (5, 52), (5, 53), (5, 54), (5, 55), (5, 56), (5, 57), (5, 58)] rfl rfl
set_option maxRecDepth 20000 in
theorem gX12_mend_X12_chooseName : GoodIn wsX12_mend (wsV RX12 269 RX12 yX12_chooseName wsX12_chooseName) := goodIn_app (goodIn_r2 csX12_mend ciX12_mend _ [(1, 15), (1, 16), (1, 17), (1, 9)] rfl rfl) ggX12_mend_X12_chooseName
set_option maxRecDepth 20000 in
theorem ggX12_harm_X12_shareOf : GoodIn wsX12_harm wsX12_shareOf := goodIn_r2 csX12_harm ciX12_harm _ [(4, 18), (4, 19), (1, 18), (4, 20), (4, 21), (4, 22), (4, 23), (1, 8), (5, 0), (5, 1), (5, 2), (5, 3), (5, 4), (5, 5), (5, 6), (5, 7), (5, 8), (1, 1), (3, 4), (5, 9), (5, 10), (5, 11), (5, 12), (1, 3), (1, 21), (4, 10), (4, 11), (4, 12), (4, 13), (4, 14), (2, 0), (2, 1), (2, 2), (2, 3), (5, 13), (5, 14), (5, 15), (5, 16), (4, 8), (6, 0), (6, 1), (6, 2), (6, 3), (6, 4), (6, 5), (6, 6), (6, 7), (6, 8), (6, 9), (6, 10), (6, 11), (6, 12), (6, 13), (6, 14), (6, 15), (6, 16), (6, 17), (6, 18), (6, 19), (6, 20), (6, 21), (6, 22), (6, 23), (6, 24), (6, 25), (6, 26), (6, 27), (6, 28), (6, 29), (6, 30), (6, 31), (6, 32), (6, 33), (6, 34), (6, 35), (6, 36), (6, 37), (6, 38), (6, 39), (6, 40), (6, 41), (6, 42), (6, 43), (6, 44), (6, 45), (6, 46), (6, 47), (6, 48), (6, 49), (6, 50), (6, 51), (6, 52), (6, 53), (6, 54), (6, 55), (6, 56), (6, 57), (6, 58)] rfl rfl
set_option maxRecDepth 20000 in
theorem gX12_harm_X12_shareOf : GoodIn wsX12_harm (wsV RX12 272 RX12 yX12_shareOf wsX12_shareOf) := goodIn_app (goodIn_r2 csX12_harm ciX12_harm _ [(4, 15), (4, 16), (4, 17), (1, 8)] rfl rfl) ggX12_harm_X12_shareOf
set_option maxRecDepth 20000 in
theorem ggX11_moves_X1_choose : GoodIn wsX11_moves wsX1_choose := goodIn_r2 csX11_moves ciX11_moves _ [(2, 7), (2, 8), (2, 9), (2, 10), (2, 11), (2, 12), (2, 13), (2, 14), (2, 15), (2, 16), (2, 17), (2, 18), (2, 19), (2, 20), (2, 21), (2, 22), (2, 23), (2, 6), (3, 0), (3, 1), (3, 2), (3, 3), (3, 4), (3, 5), (3, 6), (3, 7), (3, 8), (3, 9), (3, 10), (3, 11), (1, 15), (3, 12), (3, 13), (3, 14), (1, 18), (3, 15), (1, 8), (3, 16), (3, 17), (3, 18), (3, 19), (3, 20), (3, 21), (3, 22), (3, 23), (4, 0), (4, 1), (4, 2), (4, 3), (4, 4), (4, 5), (4, 6), (4, 7), (4, 8), (4, 9), (4, 10), (4, 11), (4, 12), (4, 13), (4, 14), (4, 15), (4, 16), (4, 17), (4, 18), (4, 19), (4, 20), (4, 21), (4, 22), (4, 23), (5, 0), (5, 1), (5, 2), (5, 3), (9, 0), (9, 1), (9, 2), (9, 3), (9, 4), (9, 5), (9, 6), (9, 7), (9, 8), (8, 0), (8, 1), (8, 2), (8, 3), (8, 4), (8, 5), (8, 6), (8, 7), (8, 8), (8, 9), (8, 10), (8, 11), (8, 12), (10, 0), (10, 1), (10, 2), (10, 3), (10, 4), (10, 5)] rfl rfl
set_option maxRecDepth 20000 in
theorem gX11_moves_X1_choose : GoodIn wsX11_moves (wsV RX11 234 RX1 yX1_choose wsX1_choose) := goodIn_app (goodIn_r2 csX11_moves ciX11_moves _ [(2, 3), (2, 4), (2, 5), (2, 6)] rfl rfl) ggX11_moves_X1_choose
set_option maxRecDepth 20000 in
theorem ggX12_tellsFrom_X12_keepsFrom : GoodIn wsX12_tellsFrom wsX12_keepsFrom := goodIn_r2 csX12_tellsFrom ciX12_tellsFrom _ [(1, 11), (1, 0), (1, 1), (1, 2), (1, 3), (1, 4), (1, 5), (1, 6), (1, 7), (1, 12), (1, 13), (1, 14), (1, 15), (1, 16), (1, 17), (1, 18), (1, 19), (1, 8), (1, 9), (1, 10), (1, 20), (1, 21), (1, 22), (1, 23), (3, 0), (3, 1), (3, 2), (3, 3), (3, 4), (3, 5), (3, 6), (3, 7), (3, 8), (3, 9), (3, 10), (3, 11), (3, 12), (3, 13), (3, 14), (3, 15), (3, 16), (3, 17), (3, 18), (3, 19), (3, 20), (3, 21), (3, 22), (3, 23), (3, 24), (3, 25), (3, 26), (3, 27), (3, 28), (3, 29), (3, 30), (3, 31), (3, 32), (3, 33), (3, 34), (3, 35), (3, 36), (3, 37), (3, 38), (3, 39), (3, 40), (3, 41), (3, 42), (3, 43), (3, 44), (3, 45), (3, 46), (3, 47), (3, 48), (3, 49), (3, 50), (3, 51), (3, 52), (3, 53), (3, 54), (3, 55), (3, 56), (3, 57), (3, 58)] rfl rfl
set_option maxRecDepth 20000 in
theorem gX12_tellsFrom_X12_keepsFrom : GoodIn wsX12_tellsFrom (wsV RX12 346 RX12 yX12_keepsFrom wsX12_keepsFrom) := goodIn_app (goodIn_r2 csX12_tellsFrom ciX12_tellsFrom _ [(1, 8), (1, 9), (1, 10), (1, 4)] rfl rfl) ggX12_tellsFrom_X12_keepsFrom
set_option maxRecDepth 20000 in
theorem ggX12_keepsFrom_X12_movesFrom : GoodIn wsX12_keepsFrom wsX12_movesFrom := goodIn_r2 csX12_keepsFrom ciX12_keepsFrom _ [(1, 22), (1, 0), (1, 1), (1, 2), (1, 3), (1, 4), (1, 5), (1, 6), (1, 7), (1, 19), (1, 20), (1, 21), (1, 8), (1, 9), (1, 10), (1, 11), (1, 12), (1, 13), (1, 14), (1, 15), (2, 0), (2, 1), (2, 2), (2, 3), (2, 4), (2, 5), (2, 6), (2, 7), (2, 8), (2, 9), (2, 10), (2, 11), (2, 12), (2, 13), (2, 14), (2, 15), (2, 16), (2, 17), (2, 18), (2, 19), (2, 20), (2, 21), (2, 22), (2, 23), (2, 24), (2, 25), (2, 26), (2, 27), (2, 28), (2, 29), (2, 30), (2, 31), (2, 32), (2, 33), (2, 34), (2, 35), (2, 36), (2, 37), (2, 38), (2, 39), (2, 40), (2, 41), (2, 42), (2, 43), (2, 44), (2, 45), (2, 46), (2, 47), (2, 48), (2, 49), (2, 50), (2, 51), (2, 52), (2, 53), (2, 54), (2, 55), (2, 56), (2, 57), (2, 58)] rfl rfl
set_option maxRecDepth 20000 in
theorem gX12_keepsFrom_X12_movesFrom : GoodIn wsX12_keepsFrom (wsV RX12 349 RX12 yX12_movesFrom wsX12_movesFrom) := goodIn_app (goodIn_r2 csX12_keepsFrom ciX12_keepsFrom _ [(1, 19), (1, 20), (1, 21), (1, 4)] rfl rfl) ggX12_keepsFrom_X12_movesFrom
set_option maxRecDepth 20000 in
theorem ggX12_picked_X12_pick : GoodIn wsX12_picked wsX12_pick := goodIn_r2 csX12_picked ciX12_picked _ [(1, 14), (1, 0), (1, 15), (1, 16), (1, 1), (1, 17), (1, 18), (1, 19), (1, 5), (1, 20), (1, 21), (1, 22), (1, 23), (2, 0), (2, 1), (2, 2), (2, 3), (2, 4), (2, 5), (2, 6), (2, 7), (2, 8), (2, 9), (2, 10), (2, 11), (2, 12), (2, 13), (3, 0), (3, 1), (3, 2), (3, 3), (3, 4), (3, 5), (3, 6), (3, 7), (3, 8), (3, 9), (3, 10), (3, 11), (3, 12), (3, 13), (3, 14), (3, 15), (3, 16), (3, 17), (3, 18), (3, 19), (3, 20), (3, 21), (3, 22), (3, 23), (3, 24), (3, 25), (3, 26), (3, 27), (3, 28), (3, 29), (3, 30), (3, 31), (3, 32), (3, 33), (3, 34), (3, 35), (3, 36), (3, 37), (3, 38), (3, 39), (3, 40), (3, 41), (3, 42), (3, 43), (3, 44), (3, 45), (3, 46), (3, 47), (3, 48), (3, 49), (3, 50), (3, 51), (3, 52), (3, 53), (3, 54), (3, 55), (3, 56), (3, 57), (3, 58)] rfl rfl
set_option maxRecDepth 20000 in
theorem gX12_picked_X12_pick : GoodIn wsX12_picked (wsV RX12 253 RX12 yX12_pick wsX12_pick) := goodIn_app (goodIn_r2 csX12_picked ciX12_picked _ [(1, 11), (1, 12), (1, 13), (1, 5)] rfl rfl) ggX12_picked_X12_pick
noncomputable def csX12_findsFrom : List (List Cond) := [[.code yX12_findsFrom cX12_findsFrom 4 (some .int)], [.fieldLink RX12 19 "SeatsRoundModel" "strength" "[I", .methodLink RX12 337 yX12_begins, .instanceMethod yX12_begins, .selects RX12 yX12_begins yX12_begins, .initialized RX12, .code yX12_begins cX12_begins 2 none, .fieldLink RX12 334 "SeatsRoundModel" "bodies" "I", .fieldLink RX12 99 "SeatsRoundModel" "trace" "[I", .methodLink RX12 340 yX12_findsFrom, .instanceMethod yX12_findsFrom, .selects RX12 yX12_findsFrom yX12_findsFrom, .methodLink RX12 343 yX12_aboveOf, .static yX12_aboveOf, .code yX12_aboveOf cX12_aboveOf 1 (some .int)], wsX120]
set_option maxRecDepth 20000 in
theorem ciX12_findsFrom : ∀ l ∈ csX12_findsFrom, ∀ w ∈ l, w ∈ wsX12_findsFrom := by
  unfold csX12_findsFrom
  refine List.forall_mem_cons.mpr ⟨fun _ h => List.mem_cons.mpr (Or.inl (List.mem_singleton.mp h)), List.forall_mem_cons.mpr ⟨fun _ h => List.mem_cons_of_mem _ (List.mem_append_left _ h), List.forall_mem_cons.mpr ⟨fun _ h => List.mem_cons_of_mem _ (List.mem_append_right _ h), fun l h => absurd h List.not_mem_nil⟩⟩⟩
set_option maxRecDepth 20000 in
theorem ggX12_findsFrom_X12_findsFrom : GoodIn wsX12_findsFrom wsX12_findsFrom := goodIn_r2 csX12_findsFrom ciX12_findsFrom _ [(0, 0), (1, 0), (1, 1), (1, 2), (1, 3), (1, 4), (1, 5), (1, 6), (1, 7), (1, 8), (1, 9), (1, 10), (1, 11), (1, 12), (1, 13), (2, 0), (2, 1), (2, 2), (2, 3), (2, 4), (2, 5), (2, 6), (2, 7), (2, 8), (2, 9), (2, 10), (2, 11), (2, 12), (2, 13), (2, 14), (2, 15), (2, 16), (2, 17), (2, 18), (2, 19), (2, 20), (2, 21), (2, 22), (2, 23), (2, 24), (2, 25), (2, 26), (2, 27), (2, 28), (2, 29), (2, 30), (2, 31), (2, 32), (2, 33), (2, 34), (2, 35), (2, 36), (2, 37), (2, 38), (2, 39), (2, 40), (2, 41), (2, 42), (2, 43), (2, 44), (2, 45), (2, 46), (2, 47), (2, 48), (2, 49), (2, 50), (2, 51), (2, 52), (2, 53), (2, 54), (2, 55), (2, 56), (2, 57), (2, 58)] rfl rfl
set_option maxRecDepth 20000 in
theorem gX12_findsFrom_X12_findsFrom : GoodIn wsX12_findsFrom (wsV RX12 340 RX12 yX12_findsFrom wsX12_findsFrom) := goodIn_app (goodIn_r2 csX12_findsFrom ciX12_findsFrom _ [(1, 8), (1, 9), (1, 10), (1, 4)] rfl rfl) ggX12_findsFrom_X12_findsFrom
set_option maxRecDepth 20000 in
theorem ggX12_write_X12_isAwake : GoodIn wsX12_write wsX12_isAwake := goodIn_r2 csX12_write ciX12_write _ [(2, 1), (1, 6), (1, 5), (6, 0), (6, 1), (6, 2), (6, 3), (6, 4), (6, 5), (6, 6), (6, 7), (6, 8), (6, 9), (6, 10), (6, 11), (6, 12), (6, 13), (6, 14), (6, 15), (6, 16), (6, 17), (6, 18), (6, 19), (6, 20), (6, 21), (6, 22), (6, 23), (6, 24), (6, 25), (6, 26), (6, 27), (6, 28), (6, 29), (6, 30), (6, 31), (6, 32), (6, 33), (6, 34), (6, 35), (6, 36), (6, 37), (6, 38), (6, 39), (6, 40), (6, 41), (6, 42), (6, 43), (6, 44), (6, 45), (6, 46), (6, 47), (6, 48), (6, 49), (6, 50), (6, 51), (6, 52), (6, 53), (6, 54), (6, 55), (6, 56), (6, 57), (6, 58)] rfl rfl
set_option maxRecDepth 20000 in
theorem gX12_write_X12_isAwake : GoodIn wsX12_write (wsV RX12 287 RX12 yX12_isAwake wsX12_isAwake) := goodIn_app (goodIn_r2 csX12_write ciX12_write _ [(1, 22), (1, 23), (2, 0), (1, 11)] rfl rfl) ggX12_write_X12_isAwake
set_option maxRecDepth 20000 in
theorem ggX12_tooFew_X12_streetsOf : GoodIn wsX12_tooFew wsX12_streetsOf := goodIn_r2 csX12_tooFew ciX12_tooFew _ [(3, 13), (2, 3), (3, 14), (2, 7), (4, 0), (4, 1), (4, 2), (4, 3), (4, 4), (4, 5), (4, 6), (4, 7), (4, 8), (4, 9), (4, 10), (4, 11), (4, 12), (4, 13), (4, 14), (4, 15), (4, 16), (4, 17), (4, 18), (4, 19), (4, 20), (4, 21), (4, 22), (4, 23), (4, 24), (4, 25), (4, 26), (4, 27), (4, 28), (4, 29), (4, 30), (4, 31), (4, 32), (4, 33), (4, 34), (4, 35), (4, 36), (4, 37), (4, 38), (4, 39), (4, 40), (4, 41), (4, 42), (4, 43), (4, 44), (4, 45), (4, 46), (4, 47), (4, 48), (4, 49), (4, 50), (4, 51), (4, 52), (4, 53), (4, 54), (4, 55), (4, 56), (4, 57), (4, 58)] rfl rfl
set_option maxRecDepth 20000 in
theorem gX12_tooFew_X12_streetsOf : GoodIn wsX12_tooFew (wsV RX12 257 RX12 yX12_streetsOf wsX12_streetsOf) := goodIn_app (goodIn_r2 csX12_tooFew ciX12_tooFew _ [(3, 10), (3, 11), (3, 12), (1, 5)] rfl rfl) ggX12_tooFew_X12_streetsOf
set_option maxRecDepth 20000 in
theorem ggX12_mend_X12_isAwake : GoodIn wsX12_mend wsX12_isAwake := goodIn_r2 csX12_mend ciX12_mend _ [(4, 0), (4, 1), (1, 2), (5, 0), (5, 1), (5, 2), (5, 3), (5, 4), (5, 5), (5, 6), (5, 7), (5, 8), (5, 9), (5, 10), (5, 11), (5, 12), (5, 13), (5, 14), (5, 15), (5, 16), (5, 17), (5, 18), (5, 19), (5, 20), (5, 21), (5, 22), (5, 23), (5, 24), (5, 25), (5, 26), (5, 27), (5, 28), (5, 29), (5, 30), (5, 31), (5, 32), (5, 33), (5, 34), (5, 35), (5, 36), (5, 37), (5, 38), (5, 39), (5, 40), (5, 41), (5, 42), (5, 43), (5, 44), (5, 45), (5, 46), (5, 47), (5, 48), (5, 49), (5, 50), (5, 51), (5, 52), (5, 53), (5, 54), (5, 55), (5, 56), (5, 57), (5, 58)] rfl rfl
set_option maxRecDepth 20000 in
theorem gX12_mend_X12_isAwake : GoodIn wsX12_mend (wsV RX12 287 RX12 yX12_isAwake wsX12_isAwake) := goodIn_app (goodIn_r2 csX12_mend ciX12_mend _ [(3, 21), (3, 22), (3, 23), (1, 9)] rfl rfl) ggX12_mend_X12_isAwake
set_option maxRecDepth 20000 in
theorem ggX12_names_X12_comesName : GoodIn wsX12_names wsX12_comesName := goodIn_r2 csX12_names ciX12_names _ [(1, 22), (1, 17), (1, 5), (1, 18), (1, 4), (2, 0), (2, 1), (2, 2), (2, 3), (2, 4), (2, 5), (2, 6), (2, 7), (2, 8), (2, 9), (2, 10), (2, 11), (2, 12), (2, 13), (2, 14), (2, 15), (2, 16), (2, 17), (2, 18), (2, 19), (2, 20), (2, 21), (2, 22), (2, 23), (2, 24), (2, 25), (2, 26), (2, 27), (2, 28), (2, 29), (2, 30), (2, 31), (2, 32), (2, 33), (2, 34), (2, 35), (2, 36), (2, 37), (2, 38), (2, 39), (2, 40), (2, 41), (2, 42), (2, 43), (2, 44), (2, 45), (2, 46), (2, 47), (2, 48), (2, 49), (2, 50), (2, 51), (2, 52), (2, 53), (2, 54), (2, 55), (2, 56), (2, 57), (2, 58)] rfl rfl
set_option maxRecDepth 20000 in
theorem gX12_names_X12_comesName : GoodIn wsX12_names (wsV RX12 153 RX12 yX12_comesName wsX12_comesName) := goodIn_app (goodIn_r2 csX12_names ciX12_names _ [(1, 19), (1, 20), (1, 21), (1, 8)] rfl rfl) ggX12_names_X12_comesName
set_option maxRecDepth 20000 in
theorem ggX12_findsFrom_X12_begins : GoodIn wsX12_findsFrom wsX12_begins := goodIn_r2 csX12_findsFrom ciX12_findsFrom _ [(1, 5), (1, 6), (1, 7), (2, 0), (2, 1), (2, 2), (2, 3), (2, 4), (2, 5), (2, 6), (2, 7), (2, 8), (2, 9), (2, 10), (2, 11), (2, 12), (2, 13), (2, 14), (2, 15), (2, 16), (2, 17), (2, 18), (2, 19), (2, 20), (2, 21), (2, 22), (2, 23), (2, 24), (2, 25), (2, 26), (2, 27), (2, 28), (2, 29), (2, 30), (2, 31), (2, 32), (2, 33), (2, 34), (2, 35), (2, 36), (2, 37), (2, 38), (2, 39), (2, 40), (2, 41), (2, 42), (2, 43), (2, 44), (2, 45), (2, 46), (2, 47), (2, 48), (2, 49), (2, 50), (2, 51), (2, 52), (2, 53), (2, 54), (2, 55), (2, 56), (2, 57), (2, 58)] rfl rfl
set_option maxRecDepth 20000 in
theorem gX12_findsFrom_X12_begins : GoodIn wsX12_findsFrom (wsV RX12 337 RX12 yX12_begins wsX12_begins) := goodIn_app (goodIn_r2 csX12_findsFrom ciX12_findsFrom _ [(1, 1), (1, 2), (1, 3), (1, 4)] rfl rfl) ggX12_findsFrom_X12_begins
set_option maxRecDepth 20000 in
theorem ggX1_choose_X1_pick : GoodIn wsX1_choose wsX1_pick := goodIn_r2 csX1_choose ciX1_choose _ [(1, 17), (1, 3), (1, 18), (1, 19), (1, 20), (1, 21), (1, 22), (1, 16), (1, 23), (2, 0), (2, 1), (1, 12), (2, 2), (2, 3), (2, 4), (2, 5), (2, 6), (2, 7), (2, 8), (2, 9), (2, 10), (2, 11), (2, 12), (2, 13), (2, 14), (2, 15), (2, 16), (2, 17), (2, 18), (2, 19), (2, 20), (2, 21), (2, 22), (2, 23), (3, 0), (3, 1), (3, 2), (3, 3), (3, 4), (3, 5), (3, 6), (3, 7), (3, 8), (3, 9), (3, 10), (3, 11), (3, 12), (3, 13), (3, 14), (4, 0), (4, 1), (4, 2), (4, 3), (4, 4), (4, 5), (4, 6), (4, 7), (4, 8), (5, 0), (5, 1), (5, 2), (5, 3), (5, 4), (5, 5), (5, 6), (5, 7), (5, 8), (5, 9), (5, 10), (5, 11), (5, 12)] rfl rfl
set_option maxRecDepth 20000 in
theorem gX1_choose_X1_pick : GoodIn wsX1_choose (wsV RX1 89 RX1 yX1_pick wsX1_pick) := goodIn_app (goodIn_r2 csX1_choose ciX1_choose _ [(1, 13), (1, 14), (1, 15), (1, 16)] rfl rfl) ggX1_choose_X1_pick
set_option maxRecDepth 20000 in
theorem ggX12_pickBest_X12_isIn : GoodIn wsX12_pickBest wsX12_isIn := goodIn_r2 csX12_pickBest ciX12_pickBest _ [(1, 14), (1, 15), (2, 0), (2, 1), (2, 2), (2, 3), (2, 4), (2, 5), (2, 6), (2, 7), (2, 8), (2, 9), (2, 10), (2, 11), (2, 12), (2, 13), (2, 14), (2, 15), (2, 16), (2, 17), (2, 18), (2, 19), (2, 20), (2, 21), (2, 22), (2, 23), (2, 24), (2, 25), (2, 26), (2, 27), (2, 28), (2, 29), (2, 30), (2, 31), (2, 32), (2, 33), (2, 34), (2, 35), (2, 36), (2, 37), (2, 38), (2, 39), (2, 40), (2, 41), (2, 42), (2, 43), (2, 44), (2, 45), (2, 46), (2, 47), (2, 48), (2, 49), (2, 50), (2, 51), (2, 52), (2, 53), (2, 54), (2, 55), (2, 56), (2, 57), (2, 58)] rfl rfl
set_option maxRecDepth 20000 in
theorem gX12_pickBest_X12_isIn : GoodIn wsX12_pickBest (wsV RX12 223 RX12 yX12_isIn wsX12_isIn) := goodIn_app (goodIn_r2 csX12_pickBest ciX12_pickBest _ [(1, 11), (1, 12), (1, 13), (1, 7)] rfl rfl) ggX12_pickBest_X12_isIn
set_option maxRecDepth 20000 in
theorem ggX12_one_X12_here : GoodIn wsX12_one wsX12_here := goodIn_r2 csX12_one ciX12_one _ [(1, 11), (1, 1), (1, 12), (1, 13), (1, 14), (3, 0), (3, 1), (3, 2), (3, 3), (3, 4), (3, 5), (3, 6), (3, 7), (3, 8), (3, 9), (3, 10), (3, 11), (3, 12), (3, 13), (3, 14), (3, 15), (3, 16), (3, 17), (3, 18), (3, 19), (3, 20), (3, 21), (3, 22), (3, 23), (3, 24), (3, 25), (3, 26), (3, 27), (3, 28), (3, 29), (3, 30), (3, 31), (3, 32), (3, 33), (3, 34), (3, 35), (3, 36), (3, 37), (3, 38), (3, 39), (3, 40), (3, 41), (3, 42), (3, 43), (3, 44), (3, 45), (3, 46), (3, 47), (3, 48), (3, 49), (3, 50), (3, 51), (3, 52), (3, 53), (3, 54), (3, 55), (3, 56), (3, 57), (3, 58)] rfl rfl
set_option maxRecDepth 20000 in
theorem gX12_one_X12_here : GoodIn wsX12_one (wsV RX12 187 RX12 yX12_here wsX12_here) := goodIn_app (goodIn_r2 csX12_one ciX12_one _ [(1, 7), (1, 8), (1, 9), (1, 10)] rfl rfl) ggX12_one_X12_here
set_option maxRecDepth 20000 in
theorem ggX5_seatSet_X8_seatAll : GoodIn wsX5_seatSet wsX8_seatAll := goodIn_r2 csX5_seatSet ciX5_seatSet _ [(6, 1), (6, 2), (6, 3), (6, 4), (6, 5), (1, 18), (6, 6), (6, 7), (6, 8), (6, 9), (6, 10), (6, 11), (6, 12), (6, 13), (6, 14), (6, 15), (6, 16), (6, 17), (1, 15), (6, 18), (6, 19), (6, 20), (6, 21), (6, 22), (6, 23), (7, 0), (7, 1), (12, 0), (12, 1), (12, 2), (12, 3), (12, 4), (12, 5), (12, 6), (12, 7), (12, 8), (12, 9), (12, 10), (12, 11), (12, 12)] rfl rfl
set_option maxRecDepth 20000 in
theorem gX5_seatSet_X8_seatAll : GoodIn wsX5_seatSet (wsV RX5 87 RX8 yX8_seatAll wsX8_seatAll) := goodIn_app (goodIn_r2 csX5_seatSet ciX5_seatSet _ [(5, 22), (5, 23), (6, 0), (1, 15)] rfl rfl) ggX5_seatSet_X8_seatAll
noncomputable def csX3_readBracket : List (List Cond) := [[.code yX3_readBracket cX3_readBracket 3 (some .int)], wsX3_readBracket_r1, wsX3_readBracket_r2, wsX30]
set_option maxRecDepth 20000 in
theorem ciX3_readBracket : ∀ l ∈ csX3_readBracket, ∀ w ∈ l, w ∈ wsX3_readBracket := by
  unfold csX3_readBracket
  refine List.forall_mem_cons.mpr ⟨fun _ h => List.mem_cons.mpr (Or.inl (List.mem_singleton.mp h)), List.forall_mem_cons.mpr ⟨fun _ h => List.mem_cons_of_mem _ (List.mem_append_left _ (List.mem_append_left _ h)), List.forall_mem_cons.mpr ⟨fun _ h => List.mem_cons_of_mem _ (List.mem_append_left _ (List.mem_append_right _ h)), List.forall_mem_cons.mpr ⟨fun _ h => List.mem_cons_of_mem _ (List.mem_append_right _ h), fun l h => absurd h List.not_mem_nil⟩⟩⟩⟩
set_option maxRecDepth 20000 in
theorem ggX3_readBracket_X3_readSum : GoodIn wsX3_readBracket wsX3_readSum := goodIn_r2 csX3_readBracket ciX3_readBracket _ [(2, 7), (1, 1), (1, 0), (2, 8), (2, 9), (2, 10), (1, 5), (1, 6), (1, 7), (1, 8), (1, 9), (1, 10), (1, 11), (0, 0), (1, 2), (1, 3), (1, 4), (1, 12), (1, 13), (1, 14), (1, 15), (1, 16), (1, 17), (1, 18), (1, 19), (1, 20), (1, 21), (1, 22), (1, 23), (2, 0), (2, 1), (2, 2), (2, 3), (2, 4), (2, 5), (2, 6), (3, 0), (3, 1), (3, 2), (3, 3), (3, 4), (3, 5), (3, 6), (3, 7)] rfl rfl
set_option maxRecDepth 20000 in
theorem gX3_readBracket_X3_readSum : GoodIn wsX3_readBracket (wsV RX3 88 RX3 yX3_readSum wsX3_readSum) := goodIn_app (goodIn_r2 csX3_readBracket ciX3_readBracket _ [(1, 2), (1, 3), (1, 4), (1, 5)] rfl rfl) ggX3_readBracket_X3_readSum
set_option maxRecDepth 20000 in
theorem ggX5_leastFrom_X5_walk : GoodIn wsX5_leastFrom wsX5_walk := goodIn_r2 csX5_leastFrom ciX5_leastFrom _ [(10, 19), (10, 20), (1, 0), (10, 21), (10, 22), (10, 23), (11, 0), (1, 5), (11, 1), (1, 1), (10, 11), (10, 12), (10, 13), (10, 14), (1, 13), (1, 14), (1, 16), (10, 15), (4, 7), (4, 8), (4, 9), (4, 10), (4, 11), (4, 12), (12, 0), (12, 1), (12, 2), (12, 3), (12, 4), (12, 5), (12, 6), (12, 7), (12, 8), (12, 9), (14, 0), (14, 1), (14, 2), (14, 3)] rfl rfl
set_option maxRecDepth 20000 in
theorem gX5_leastFrom_X5_walk : GoodIn wsX5_leastFrom (wsV RX5 57 RX5 yX5_walk wsX5_walk) := goodIn_app (goodIn_r2 csX5_leastFrom ciX5_leastFrom _ [(10, 16), (10, 17), (10, 18), (1, 5)] rfl rfl) ggX5_leastFrom_X5_walk
set_option maxRecDepth 20000 in
theorem ggX6_reaches_X6_receives : GoodIn wsX6_reaches wsX6_receives := goodIn_r2 csX6_reaches ciX6_reaches _ [(2, 6), (2, 7), (2, 8), (2, 9), (1, 7), (2, 10), (1, 0), (1, 2), (2, 11), (2, 12), (2, 13), (2, 14), (2, 15), (2, 16), (2, 17), (2, 18), (2, 19), (2, 20), (2, 21), (2, 22), (3, 0), (3, 1), (3, 2), (3, 3), (3, 4), (3, 5), (3, 6), (3, 7), (3, 8), (3, 9), (3, 10), (3, 11), (4, 0), (4, 1), (4, 2), (4, 3), (4, 4), (4, 5)] rfl rfl
set_option maxRecDepth 20000 in
theorem gX6_reaches_X6_receives : GoodIn wsX6_reaches (wsV RX6 93 RX6 yX6_receives wsX6_receives) := goodIn_app (goodIn_r2 csX6_reaches ciX6_reaches _ [(2, 3), (2, 4), (2, 5), (1, 7)] rfl rfl) ggX6_reaches_X6_receives
set_option maxRecDepth 20000 in
theorem ggX3_readOperand_X3_readNumber : GoodIn wsX3_readOperand wsX3_readNumber := goodIn_r2 csX3_readOperand ciX3_readOperand _ [(1, 19), (1, 4), (1, 6), (1, 7), (1, 8), (1, 9), (1, 10), (1, 11), (1, 12), (1, 13), (1, 14), (1, 15), (3, 0), (3, 1), (3, 2), (3, 3), (3, 4), (3, 5), (3, 6), (3, 7)] rfl rfl
set_option maxRecDepth 20000 in
theorem gX3_readOperand_X3_readNumber : GoodIn wsX3_readOperand (wsV RX3 110 RX3 yX3_readNumber wsX3_readNumber) := goodIn_app (goodIn_r2 csX3_readOperand ciX3_readOperand _ [(1, 16), (1, 17), (1, 18), (1, 9)] rfl rfl) ggX3_readOperand_X3_readNumber
set_option maxRecDepth 20000 in
theorem ggX1_choose_X1_takeChosen : GoodIn wsX1_choose wsX1_takeChosen := goodIn_r2 csX1_choose ciX1_choose _ [(3, 18), (3, 19), (1, 0), (1, 1), (1, 2), (1, 10), (1, 11), (4, 0), (4, 1), (4, 2), (4, 3), (4, 4), (4, 5), (4, 6), (4, 7), (4, 8), (6, 0), (6, 1), (6, 2), (6, 3), (6, 4), (6, 5)] rfl rfl
set_option maxRecDepth 20000 in
theorem gX1_choose_X1_takeChosen : GoodIn wsX1_choose (wsV RX1 108 RX1 yX1_takeChosen wsX1_takeChosen) := goodIn_app (goodIn_r2 csX1_choose ciX1_choose _ [(3, 15), (3, 16), (3, 17), (1, 16)] rfl rfl) ggX1_choose_X1_takeChosen
set_option maxRecDepth 20000 in
theorem ggX0_keepsFrom_X0_findsFrom : GoodIn wsX0_keepsFrom wsX0_findsFrom := goodIn_r2 csX0_keepsFrom ciX0_keepsFrom _ [(1, 19), (1, 20), (1, 15), (1, 1), (1, 2), (1, 3), (1, 4), (1, 5), (1, 6), (1, 7), (1, 16), (1, 17), (1, 18), (2, 0), (2, 1), (2, 2), (2, 3), (2, 4)] rfl rfl
set_option maxRecDepth 20000 in
theorem gX0_keepsFrom_X0_findsFrom : GoodIn wsX0_keepsFrom (wsV RX0 28 RX0 yX0_findsFrom wsX0_findsFrom) := goodIn_app (goodIn_r2 csX0_keepsFrom ciX0_keepsFrom _ [(1, 16), (1, 17), (1, 18), (1, 4)] rfl rfl) ggX0_keepsFrom_X0_findsFrom
noncomputable def csX6_allCopies : List (List Cond) := [[.code yX6_allCopies cX6_allCopies 3 (some .int)], [.fieldLink RX6 42 "SeatsRound$Parcels" "keepers" "LSeatsRound$Keepers;", .fieldLink RX6 120 "SeatsRound$Keepers" "count" "I", .methodLink RX6 103 yX6_copiesOn, .instanceMethod yX6_copiesOn, .selects RX6 yX6_copiesOn yX6_copiesOn, .initialized RX6, .code yX6_copiesOn cX6_copiesOn 2 (some .int), .fieldLink RX6 11 "SeatsRound$Parcels" "version" "[[I", .methodLink RX6 141 yX6_filled, .static yX6_filled, .code yX6_filled cX6_filled 6 (some .int)], wsX60, wsX20]
set_option maxRecDepth 20000 in
theorem ciX6_allCopies : ∀ l ∈ csX6_allCopies, ∀ w ∈ l, w ∈ wsX6_allCopies := by
  unfold csX6_allCopies
  refine List.forall_mem_cons.mpr ⟨fun _ h => List.mem_cons.mpr (Or.inl (List.mem_singleton.mp h)), List.forall_mem_cons.mpr ⟨fun _ h => List.mem_cons_of_mem _ (List.mem_append_left _ (List.mem_append_left _ h)), List.forall_mem_cons.mpr ⟨fun _ h => List.mem_cons_of_mem _ (List.mem_append_left _ (List.mem_append_right _ h)), List.forall_mem_cons.mpr ⟨fun _ h => List.mem_cons_of_mem _ (List.mem_append_right _ h), fun l h => absurd h List.not_mem_nil⟩⟩⟩⟩
set_option maxRecDepth 20000 in
theorem ggX6_allCopies_X6_copiesOn : GoodIn wsX6_allCopies wsX6_copiesOn := goodIn_r2 csX6_allCopies ciX6_allCopies _ [(1, 6), (1, 7), (1, 8), (1, 9), (1, 5), (1, 10), (2, 0), (2, 1), (2, 2), (2, 3), (2, 4), (2, 5), (2, 6), (2, 7), (2, 8), (2, 9), (2, 10), (2, 11)] rfl rfl
set_option maxRecDepth 20000 in
theorem gX6_allCopies_X6_copiesOn : GoodIn wsX6_allCopies (wsV RX6 103 RX6 yX6_copiesOn wsX6_copiesOn) := goodIn_app (goodIn_r2 csX6_allCopies ciX6_allCopies _ [(1, 2), (1, 3), (1, 4), (1, 5)] rfl rfl) ggX6_allCopies_X6_copiesOn
set_option maxRecDepth 20000 in
theorem ggX0_run_X0_movesFrom : GoodIn wsX0_run wsX0_movesFrom := goodIn_r2 csX0_run ciX0_run _ [(1, 21), (1, 2), (1, 0), (1, 8), (1, 9), (1, 10), (1, 6), (1, 11), (1, 12), (1, 13), (1, 18), (1, 19), (1, 20), (1, 3), (1, 4), (1, 5), (1, 7), (1, 1), (3, 0), (3, 1), (3, 2), (3, 3), (3, 4)] rfl rfl
set_option maxRecDepth 20000 in
theorem gX0_run_X0_movesFrom : GoodIn wsX0_run (wsV RX0 35 RX0 yX0_movesFrom wsX0_movesFrom) := goodIn_app (goodIn_r2 csX0_run ciX0_run _ [(1, 18), (1, 19), (1, 20), (1, 6)] rfl rfl) ggX0_run_X0_movesFrom
set_option maxRecDepth 20000 in
theorem ggX1_pickRound_X1_takePick : GoodIn wsX1_pickRound wsX1_takePick := goodIn_r2 csX1_pickRound ciX1_pickRound _ [(1, 13), (1, 14), (1, 15), (1, 1), (3, 0), (3, 1), (3, 2), (3, 3), (3, 4), (3, 5), (3, 6), (3, 7), (3, 8)] rfl rfl
set_option maxRecDepth 20000 in
theorem gX1_pickRound_X1_takePick : GoodIn wsX1_pickRound (wsV RX1 74 RX1 yX1_takePick wsX1_takePick) := goodIn_app (goodIn_r2 csX1_pickRound ciX1_pickRound _ [(1, 10), (1, 11), (1, 12), (1, 8)] rfl rfl) ggX1_pickRound_X1_takePick
set_option maxRecDepth 20000 in
theorem ggX0_run_X0_findsFrom : GoodIn wsX0_run wsX0_findsFrom := goodIn_r2 csX0_run ciX0_run _ [(1, 7), (1, 1), (1, 0), (1, 8), (1, 9), (1, 10), (1, 6), (1, 11), (1, 12), (1, 13), (1, 3), (1, 4), (1, 5), (3, 0), (3, 1), (3, 2), (3, 3), (3, 4)] rfl rfl
set_option maxRecDepth 20000 in
theorem gX0_run_X0_findsFrom : GoodIn wsX0_run (wsV RX0 28 RX0 yX0_findsFrom wsX0_findsFrom) := goodIn_app (goodIn_r2 csX0_run ciX0_run _ [(1, 3), (1, 4), (1, 5), (1, 6)] rfl rfl) ggX0_run_X0_findsFrom
set_option maxRecDepth 20000 in
theorem ggX3_readBracket_X3_sign : GoodIn wsX3_readBracket wsX3_sign := goodIn_r2 csX3_readBracket ciX3_readBracket _ [(1, 9), (1, 0), (1, 10), (1, 11), (3, 0), (3, 1), (3, 2), (3, 3), (3, 4), (3, 5), (3, 6), (3, 7)] rfl rfl
set_option maxRecDepth 20000 in
theorem gX3_readBracket_X3_sign : GoodIn wsX3_readBracket (wsV RX3 62 RX3 yX3_sign wsX3_sign) := goodIn_app (goodIn_r2 csX3_readBracket ciX3_readBracket _ [(1, 6), (1, 7), (1, 8), (1, 5)] rfl rfl) ggX3_readBracket_X3_sign
noncomputable def csX3_readNumber : List (List Cond) := [[.code yX3_readNumber cX3_readNumber 3 (some .int)], [.fieldLink RX3 19 "SeatsRound$Law" "at" "I", .methodLink RX3 62 yX3_sign, .instanceMethod yX3_sign, .selects RX3 yX3_sign yX3_sign, .initialized RX3, .code yX3_sign cX3_sign 1 (some .int), .fieldLink RX3 15 "SeatsRound$Law" "length" "I", .fieldLink RX3 9 "SeatsRound$Law" "text" "[B", .methodLink RX3 106 yX3_isDigit, .static yX3_isDigit, .code yX3_isDigit cX3_isDigit 1 (some .boolean)], wsX30]
set_option maxRecDepth 20000 in
theorem ciX3_readNumber : ∀ l ∈ csX3_readNumber, ∀ w ∈ l, w ∈ wsX3_readNumber := by
  unfold csX3_readNumber
  refine List.forall_mem_cons.mpr ⟨fun _ h => List.mem_cons.mpr (Or.inl (List.mem_singleton.mp h)), List.forall_mem_cons.mpr ⟨fun _ h => List.mem_cons_of_mem _ (List.mem_append_left _ h), List.forall_mem_cons.mpr ⟨fun _ h => List.mem_cons_of_mem _ (List.mem_append_right _ h), fun l h => absurd h List.not_mem_nil⟩⟩⟩
set_option maxRecDepth 20000 in
theorem ggX3_readNumber_X3_sign : GoodIn wsX3_readNumber wsX3_sign := goodIn_r2 csX3_readNumber ciX3_readNumber _ [(1, 5), (1, 0), (1, 6), (1, 7), (2, 0), (2, 1), (2, 2), (2, 3), (2, 4), (2, 5), (2, 6), (2, 7)] rfl rfl
set_option maxRecDepth 20000 in
theorem gX3_readNumber_X3_sign : GoodIn wsX3_readNumber (wsV RX3 62 RX3 yX3_sign wsX3_sign) := goodIn_app (goodIn_r2 csX3_readNumber ciX3_readNumber _ [(1, 1), (1, 2), (1, 3), (1, 4)] rfl rfl) ggX3_readNumber_X3_sign
set_option maxRecDepth 20000 in
theorem ggX8_countOdds_J7_fill_53178 : GoodIn wsX8_countOdds wsJ7_fill_53178 := goodIn_r2 csX8_countOdds ciX8_countOdds _ [(1, 5)] rfl rfl
set_option maxRecDepth 20000 in
theorem gX8_countOdds_J7_fill_53178 : GoodIn wsX8_countOdds (va_wsS RX8 102 yJ7_fill_53178 wsJ7_fill_53178) := goodIn_app (goodIn_r2 csX8_countOdds ciX8_countOdds _ [(1, 2), (1, 3), (1, 4)] rfl rfl) ggX8_countOdds_J7_fill_53178
set_option maxRecDepth 20000 in
theorem ggX0_keepsFrom_X0_begin : GoodIn wsX0_keepsFrom wsX0_begin := goodIn_r2 csX0_keepsFrom ciX0_keepsFrom _ [(1, 5), (1, 6), (1, 7), (2, 0), (2, 1), (2, 2), (2, 3), (2, 4)] rfl rfl
set_option maxRecDepth 20000 in
theorem gX0_keepsFrom_X0_begin : GoodIn wsX0_keepsFrom (wsV RX0 41 RX0 yX0_begin wsX0_begin) := goodIn_app (goodIn_r2 csX0_keepsFrom ciX0_keepsFrom _ [(1, 1), (1, 2), (1, 3), (1, 4)] rfl rfl) ggX0_keepsFrom_X0_begin
set_option maxRecDepth 20000 in
theorem ggX12_movesFrom_X12_aboveOf : GoodIn wsX12_movesFrom wsX12_aboveOf := goodIn_r2 csX12_movesFrom ciX12_movesFrom _ [(1, 18)] rfl rfl
set_option maxRecDepth 20000 in
theorem gX12_movesFrom_X12_aboveOf : GoodIn wsX12_movesFrom (va_wsS RX12 343 yX12_aboveOf wsX12_aboveOf) := goodIn_app (goodIn_r2 csX12_movesFrom ciX12_movesFrom _ [(1, 16), (1, 17), (1, 4)] rfl rfl) ggX12_movesFrom_X12_aboveOf
set_option maxRecDepth 20000 in
theorem ggX3_readNumber_X3_isDigit : GoodIn wsX3_readNumber wsX3_isDigit := goodIn_r2 csX3_readNumber ciX3_readNumber _ [(1, 10)] rfl rfl
set_option maxRecDepth 20000 in
theorem gX3_readNumber_X3_isDigit : GoodIn wsX3_readNumber (va_wsS RX3 106 yX3_isDigit wsX3_isDigit) := goodIn_app (goodIn_r2 csX3_readNumber ciX3_readNumber _ [(1, 8), (1, 9), (1, 4)] rfl rfl) ggX3_readNumber_X3_isDigit
set_option maxRecDepth 20000 in
theorem ggX11_names_X7_isRow : GoodIn wsX11_names wsX7_isRow := goodIn_r2 csX11_names ciX11_names _ [(1, 19), (1, 14), (4, 0), (4, 1), (4, 2), (4, 3)] rfl rfl
set_option maxRecDepth 20000 in
theorem gX11_names_X7_isRow : GoodIn wsX11_names (wsV RX11 385 RX7 yX7_isRow wsX7_isRow) := goodIn_app (goodIn_r2 csX11_names ciX11_names _ [(1, 16), (1, 17), (1, 18), (1, 12)] rfl rfl) ggX11_names_X7_isRow
set_option maxRecDepth 20000 in
theorem ggX12_movesBy_X12_ones : GoodIn wsX12_movesBy wsX12_ones := goodIn_r2 csX12_movesBy ciX12_movesBy _ [(1, 13)] rfl rfl
set_option maxRecDepth 20000 in
theorem gX12_movesBy_X12_ones : GoodIn wsX12_movesBy (va_wsS RX12 284 yX12_ones wsX12_ones) := goodIn_app (goodIn_r2 csX12_movesBy ciX12_movesBy _ [(1, 11), (1, 12), (1, 7)] rfl rfl) ggX12_movesBy_X12_ones
set_option maxRecDepth 20000 in
theorem ggX11_read_X4_has : GoodIn wsX11_read wsX4_has := goodIn_r2 csX11_read ciX11_read _ [(1, 14), (1, 15), (9, 0), (9, 1), (9, 2), (9, 3)] rfl rfl
set_option maxRecDepth 20000 in
theorem gX11_read_X4_has : GoodIn wsX11_read (wsV RX11 123 RX4 yX4_has wsX4_has) := goodIn_app (goodIn_r2 csX11_read ciX11_read _ [(1, 10), (1, 11), (1, 12), (1, 13)] rfl rfl) ggX11_read_X4_has
set_option maxRecDepth 20000 in
theorem ggX11_put_X7_lowest : GoodIn wsX11_put wsX7_lowest := goodIn_r2 csX11_put ciX11_put _ [(2, 1)] rfl rfl
set_option maxRecDepth 20000 in
theorem gX11_put_X7_lowest : GoodIn wsX11_put (va_wsS RX11 374 yX7_lowest wsX7_lowest) := goodIn_app (goodIn_r2 csX11_put ciX11_put _ [(1, 23), (2, 0), (1, 10)] rfl rfl) ggX11_put_X7_lowest
set_option maxRecDepth 20000 in
theorem ggX1_pickRound_X11_placeBehind : GoodIn wsX1_pickRound wsX11_placeBehind := goodIn_r2 csX1_pickRound ciX1_pickRound _ [(1, 18)] rfl rfl
set_option maxRecDepth 20000 in
theorem gX1_pickRound_X11_placeBehind_n78 : GoodIn wsX1_pickRound (wsX11_placeBehind) := ggX1_pickRound_X11_placeBehind
set_option maxRecDepth 20000 in
theorem ggX12_lies_X12_in : GoodIn wsX12_lies wsX12_in := goodIn_r2 csX12_lies ciX12_lies _ [(1, 9)] rfl rfl
set_option maxRecDepth 20000 in
theorem gX12_lies_X12_in : GoodIn wsX12_lies (va_wsS RX12 136 yX12_in wsX12_in) := goodIn_app (goodIn_r2 csX12_lies ciX12_lies _ [(1, 7), (1, 8), (1, 4)] rfl rfl) ggX12_lies_X12_in
