set_option maxRecDepth 20000 in
theorem ggX11_order_X5_leastFrom : GoodIn wsX11_order wsX5_leastFrom := goodIn_r2 csX11_order ciX11_order _ [(1, 14), (1, 15), (1, 16), (1, 17), (1, 18), (1, 19), (1, 13), (1, 20), (1, 21), (1, 22), (1, 23), (2, 0), (2, 1), (2, 2), (2, 3), (2, 4), (2, 5), (2, 6), (2, 7), (2, 8), (2, 9), (2, 10), (2, 11), (2, 12), (2, 13), (2, 14), (2, 15), (2, 16), (2, 17), (2, 18), (2, 19), (2, 20), (2, 21), (2, 22), (2, 23), (3, 0), (3, 1), (3, 2), (3, 3), (3, 4), (3, 5), (3, 6), (3, 7), (3, 8), (3, 9), (3, 10), (3, 11), (3, 12), (3, 13), (3, 14), (3, 15), (3, 16), (3, 17), (3, 18), (3, 19), (3, 20), (3, 21), (3, 22), (3, 23), (4, 0), (4, 1), (4, 2), (4, 3), (4, 4), (4, 5), (4, 6), (4, 7), (4, 8), (4, 9), (4, 10), (4, 11), (4, 12), (4, 13), (4, 14), (4, 15), (4, 16), (4, 17), (4, 18), (4, 19), (4, 20), (4, 21), (4, 22), (4, 23), (5, 0), (5, 1), (5, 2), (5, 3), (5, 4), (5, 5), (5, 6), (5, 7), (5, 8), (5, 9), (5, 10), (5, 11), (5, 12), (5, 13), (5, 14), (5, 15), (5, 16), (5, 17), (5, 18), (5, 19), (5, 20), (5, 21), (5, 22), (5, 23), (6, 0), (6, 1), (6, 2), (6, 3), (6, 4), (6, 5), (6, 6), (6, 7), (6, 8), (6, 9), (6, 10), (6, 11), (6, 12), (6, 13), (6, 14), (6, 15), (6, 16), (6, 17), (6, 18), (6, 19), (6, 20), (6, 21), (6, 22), (6, 23), (7, 0), (7, 1), (7, 2), (7, 3), (7, 4), (7, 5), (7, 6), (7, 7), (1, 6), (7, 8), (7, 9), (7, 10), (7, 11), (7, 12), (7, 13), (7, 14), (7, 15), (7, 16), (7, 17), (7, 18), (7, 19), (7, 20), (7, 21), (7, 22), (7, 23), (8, 0), (8, 1), (8, 2), (8, 3), (8, 4), (8, 5), (8, 6), (8, 7), (8, 8), (8, 9), (8, 10), (8, 11), (8, 12), (8, 13), (8, 14), (8, 15), (8, 16), (8, 17), (8, 18), (8, 19), (8, 20), (8, 21), (8, 22), (8, 23), (9, 0), (9, 1), (9, 2), (9, 3), (9, 4), (9, 5), (9, 6), (9, 7), (9, 8), (9, 9), (9, 10), (9, 11), (9, 12), (9, 13), (9, 14), (9, 15), (9, 16), (9, 17), (9, 18), (9, 19), (9, 20), (9, 21), (9, 22), (9, 23), (10, 0), (10, 1), (10, 2), (10, 3), (10, 4), (10, 5), (10, 6), (10, 7), (10, 8), (10, 9), (10, 10), (10, 11), (10, 12), (10, 13), (10, 14), (10, 15), (10, 16), (10, 17), (10, 18), (10, 19), (10, 20), (10, 21), (10, 22), (10, 23), (11, 0), (11, 1), (11, 2), (11, 3), (11, 4), (11, 5), (11, 6), (11, 7), (11, 8), (11, 9), (11, 10), (11, 11), (11, 12), (11, 13), (11, 14), (13, 0), (13, 1), (13, 2), (13, 3), (13, 4), (13, 5), (13, 6), (13, 7), (13, 8), (13, 9), (14, 0), (14, 1), (14, 2), (14, 3), (14, 4), (14, 5), (14, 6), (14, 7), (14, 8), (14, 9), (14, 10), (14, 11), (14, 12), (15, 0), (15, 1), (15, 2), (15, 3), (16, 0), (16, 1), (16, 2), (16, 3), (16, 4), (16, 5), (16, 6), (16, 7), (16, 8), (17, 0), (17, 1), (17, 2), (17, 3), (17, 4), (17, 5), (18, 0), (18, 1), (18, 2), (18, 3), (18, 4), (18, 5), (18, 6), (18, 7)] rfl rfl
set_option maxRecDepth 20000 in
theorem gX11_order_X5_leastFrom : GoodIn wsX11_order (wsV RX11 326 RX5 yX5_leastFrom wsX5_leastFrom) := goodIn_app (goodIn_r2 csX11_order ciX11_order _ [(1, 10), (1, 11), (1, 12), (1, 13)] rfl rfl) ggX11_order_X5_leastFrom
set_option maxRecDepth 20000 in
theorem ggX11_harm_X10_leastHarm : GoodIn wsX11_harm wsX10_leastHarm := goodIn_r2 csX11_harm ciX11_harm _ [(1, 14), (1, 15), (1, 16), (1, 17), (1, 18), (1, 19), (1, 20), (1, 21), (1, 22), (1, 23), (2, 0), (2, 1), (2, 2), (2, 3), (2, 4), (2, 5), (2, 6), (2, 7), (2, 8), (2, 9), (2, 10), (2, 11), (2, 12), (2, 13), (2, 14), (2, 15), (2, 16), (2, 17), (2, 18), (2, 19), (2, 20), (2, 21), (2, 22), (2, 23), (3, 0), (3, 1), (3, 2), (3, 3), (3, 4), (3, 5), (3, 6), (3, 7), (3, 8), (3, 9), (3, 10), (1, 6), (3, 11), (3, 12), (3, 13), (3, 14), (3, 15), (3, 16), (3, 17), (3, 18), (3, 19), (3, 20), (3, 21), (3, 22), (3, 23), (4, 0), (4, 1), (4, 2), (1, 13), (4, 3), (4, 4), (4, 5), (4, 6), (4, 7), (4, 8), (4, 9), (4, 10), (4, 11), (4, 12), (4, 13), (4, 14), (4, 15), (4, 16), (4, 17), (4, 18), (4, 19), (4, 20), (4, 21), (4, 22), (4, 23), (5, 0), (5, 1), (5, 2), (5, 3), (7, 0), (7, 1), (7, 2), (7, 3), (7, 4), (8, 0), (8, 1), (8, 2), (8, 3), (8, 4), (8, 5), (8, 6), (8, 7), (8, 8), (8, 9), (8, 10), (8, 11), (8, 12), (9, 0), (9, 1), (9, 2), (9, 3)] rfl rfl
set_option maxRecDepth 20000 in
theorem gX11_harm_X10_leastHarm : GoodIn wsX11_harm (wsV RX11 338 RX10 yX10_leastHarm wsX10_leastHarm) := goodIn_app (goodIn_r2 csX11_harm ciX11_harm _ [(1, 10), (1, 11), (1, 12), (1, 13)] rfl rfl) ggX11_harm_X10_leastHarm
noncomputable def csX12_table : List (List Cond) := [[.code yX12_table cX12_table 5 (some .int)], wsX12_table_r1, wsX12_table_r2, wsX12_table_r3, wsX12_table_r4, wsX120]
set_option maxRecDepth 20000 in
theorem ciX12_table : ∀ l ∈ csX12_table, ∀ w ∈ l, w ∈ wsX12_table := by
  unfold csX12_table
  refine List.forall_mem_cons.mpr ⟨fun _ h => List.mem_cons.mpr (Or.inl (List.mem_singleton.mp h)), List.forall_mem_cons.mpr ⟨fun _ h => List.mem_cons_of_mem _ (List.mem_append_left _ (List.mem_append_left _ h)), List.forall_mem_cons.mpr ⟨fun _ h => List.mem_cons_of_mem _ (List.mem_append_left _ (List.mem_append_right _ (List.mem_append_left _ h))), List.forall_mem_cons.mpr ⟨fun _ h => List.mem_cons_of_mem _ (List.mem_append_left _ (List.mem_append_right _ (List.mem_append_right _ (List.mem_append_left _ h)))), List.forall_mem_cons.mpr ⟨fun _ h => List.mem_cons_of_mem _ (List.mem_append_left _ (List.mem_append_right _ (List.mem_append_right _ (List.mem_append_right _ h)))), List.forall_mem_cons.mpr ⟨fun _ h => List.mem_cons_of_mem _ (List.mem_append_right _ h), fun l h => absurd h List.not_mem_nil⟩⟩⟩⟩⟩⟩
set_option maxRecDepth 20000 in
theorem ggX12_table_X12_reads : GoodIn wsX12_table wsX12_reads := goodIn_r2 csX12_table ciX12_table _ [(2, 9), (2, 10), (2, 11), (2, 12), (2, 13), (2, 14), (2, 15), (2, 16), (1, 7), (2, 17), (2, 18), (2, 19), (1, 14), (2, 20), (1, 9), (2, 21), (2, 22), (2, 23), (3, 0), (3, 1), (3, 2), (3, 3), (3, 4), (3, 5), (3, 6), (3, 7), (3, 8), (3, 9), (3, 10), (3, 11), (1, 22), (1, 23), (2, 0), (2, 1), (3, 12), (3, 13), (3, 14), (3, 15), (3, 16), (3, 17), (3, 18), (5, 0), (5, 1), (5, 2), (5, 3), (5, 4), (5, 5), (5, 6), (5, 7), (5, 8), (5, 9), (5, 10), (5, 11), (5, 12), (5, 13), (5, 14), (5, 15), (5, 16), (5, 17), (5, 18), (5, 19), (5, 20), (5, 21), (5, 22), (5, 23), (5, 24), (5, 25), (5, 26), (5, 27), (5, 28), (5, 29), (5, 30), (5, 31), (5, 32), (5, 33), (5, 34), (5, 35), (5, 36), (5, 37), (5, 38), (5, 39), (5, 40), (5, 41), (5, 42), (5, 43), (5, 44), (5, 45), (5, 46), (5, 47), (5, 48), (5, 49), (5, 50), (5, 51), (5, 52), (5, 53), (5, 54), (5, 55), (5, 56), (5, 57), (5, 58)] rfl rfl
set_option maxRecDepth 20000 in
theorem gX12_table_X12_reads : GoodIn wsX12_table (wsV RX12 234 RX12 yX12_reads wsX12_reads) := goodIn_app (goodIn_r2 csX12_table ciX12_table _ [(2, 6), (2, 7), (2, 8), (1, 14)] rfl rfl) ggX12_table_X12_reads
noncomputable def csX12_tellsFrom : List (List Cond) := [[.code yX12_tellsFrom cX12_tellsFrom 5 (some .int)], wsX12_tellsFrom_r1, wsX12_tellsFrom_r2, wsX120]
set_option maxRecDepth 20000 in
theorem ciX12_tellsFrom : ∀ l ∈ csX12_tellsFrom, ∀ w ∈ l, w ∈ wsX12_tellsFrom := by
  unfold csX12_tellsFrom
  refine List.forall_mem_cons.mpr ⟨fun _ h => List.mem_cons.mpr (Or.inl (List.mem_singleton.mp h)), List.forall_mem_cons.mpr ⟨fun _ h => List.mem_cons_of_mem _ (List.mem_append_left _ (List.mem_append_left _ h)), List.forall_mem_cons.mpr ⟨fun _ h => List.mem_cons_of_mem _ (List.mem_append_left _ (List.mem_append_right _ h)), List.forall_mem_cons.mpr ⟨fun _ h => List.mem_cons_of_mem _ (List.mem_append_right _ h), fun l h => absurd h List.not_mem_nil⟩⟩⟩⟩
set_option maxRecDepth 20000 in
theorem ggX12_tellsFrom_X12_tellsFrom : GoodIn wsX12_tellsFrom wsX12_tellsFrom := goodIn_r2 csX12_tellsFrom ciX12_tellsFrom _ [(0, 0), (1, 0), (1, 1), (1, 2), (1, 3), (1, 4), (1, 5), (1, 6), (1, 7), (1, 8), (1, 9), (1, 10), (1, 11), (1, 12), (1, 13), (1, 14), (1, 15), (1, 16), (1, 17), (1, 18), (1, 19), (1, 20), (1, 21), (1, 22), (1, 23), (2, 0), (2, 1), (2, 2), (3, 0), (3, 1), (3, 2), (3, 3), (3, 4), (3, 5), (3, 6), (3, 7), (3, 8), (3, 9), (3, 10), (3, 11), (3, 12), (3, 13), (3, 14), (3, 15), (3, 16), (3, 17), (3, 18), (3, 19), (3, 20), (3, 21), (3, 22), (3, 23), (3, 24), (3, 25), (3, 26), (3, 27), (3, 28), (3, 29), (3, 30), (3, 31), (3, 32), (3, 33), (3, 34), (3, 35), (3, 36), (3, 37), (3, 38), (3, 39), (3, 40), (3, 41), (3, 42), (3, 43), (3, 44), (3, 45), (3, 46), (3, 47), (3, 48), (3, 49), (3, 50), (3, 51), (3, 52), (3, 53), (3, 54), (3, 55), (3, 56), (3, 57), (3, 58)] rfl rfl
set_option maxRecDepth 20000 in
theorem gX12_tellsFrom_X12_tellsFrom : GoodIn wsX12_tellsFrom (wsV RX12 352 RX12 yX12_tellsFrom wsX12_tellsFrom) := goodIn_app (goodIn_r2 csX12_tellsFrom ciX12_tellsFrom _ [(2, 0), (2, 1), (2, 2), (1, 4)] rfl rfl) ggX12_tellsFrom_X12_tellsFrom
set_option maxRecDepth 20000 in
theorem ggX12_act_X12_tellsFrom : GoodIn wsX12_act wsX12_tellsFrom := goodIn_r2 csX12_act ciX12_act _ [(2, 11), (1, 1), (1, 16), (1, 17), (1, 18), (1, 5), (1, 19), (1, 0), (1, 20), (2, 0), (2, 1), (2, 2), (2, 3), (1, 11), (1, 12), (1, 13), (1, 14), (1, 15), (1, 21), (1, 22), (1, 23), (2, 4), (2, 5), (2, 6), (2, 7), (2, 8), (2, 9), (2, 10), (3, 0), (3, 1), (3, 2), (3, 3), (3, 4), (3, 5), (3, 6), (3, 7), (3, 8), (3, 9), (3, 10), (3, 11), (3, 12), (3, 13), (3, 14), (3, 15), (3, 16), (3, 17), (3, 18), (3, 19), (3, 20), (3, 21), (3, 22), (3, 23), (3, 24), (3, 25), (3, 26), (3, 27), (3, 28), (3, 29), (3, 30), (3, 31), (3, 32), (3, 33), (3, 34), (3, 35), (3, 36), (3, 37), (3, 38), (3, 39), (3, 40), (3, 41), (3, 42), (3, 43), (3, 44), (3, 45), (3, 46), (3, 47), (3, 48), (3, 49), (3, 50), (3, 51), (3, 52), (3, 53), (3, 54), (3, 55), (3, 56), (3, 57), (3, 58)] rfl rfl
set_option maxRecDepth 20000 in
theorem gX12_act_X12_tellsFrom : GoodIn wsX12_act (wsV RX12 352 RX12 yX12_tellsFrom wsX12_tellsFrom) := goodIn_app (goodIn_r2 csX12_act ciX12_act _ [(2, 8), (2, 9), (2, 10), (1, 5)] rfl rfl) ggX12_act_X12_tellsFrom
set_option maxRecDepth 20000 in
theorem ggX12_act_X12_keepsFrom : GoodIn wsX12_act wsX12_keepsFrom := goodIn_r2 csX12_act ciX12_act _ [(2, 3), (1, 1), (1, 16), (1, 17), (1, 18), (1, 5), (1, 19), (1, 0), (1, 20), (1, 11), (1, 12), (1, 13), (1, 14), (1, 15), (1, 21), (1, 22), (1, 23), (2, 0), (2, 1), (2, 2), (2, 4), (2, 5), (2, 6), (2, 7), (3, 0), (3, 1), (3, 2), (3, 3), (3, 4), (3, 5), (3, 6), (3, 7), (3, 8), (3, 9), (3, 10), (3, 11), (3, 12), (3, 13), (3, 14), (3, 15), (3, 16), (3, 17), (3, 18), (3, 19), (3, 20), (3, 21), (3, 22), (3, 23), (3, 24), (3, 25), (3, 26), (3, 27), (3, 28), (3, 29), (3, 30), (3, 31), (3, 32), (3, 33), (3, 34), (3, 35), (3, 36), (3, 37), (3, 38), (3, 39), (3, 40), (3, 41), (3, 42), (3, 43), (3, 44), (3, 45), (3, 46), (3, 47), (3, 48), (3, 49), (3, 50), (3, 51), (3, 52), (3, 53), (3, 54), (3, 55), (3, 56), (3, 57), (3, 58)] rfl rfl
set_option maxRecDepth 20000 in
theorem gX12_act_X12_keepsFrom : GoodIn wsX12_act (wsV RX12 346 RX12 yX12_keepsFrom wsX12_keepsFrom) := goodIn_app (goodIn_r2 csX12_act ciX12_act _ [(2, 0), (2, 1), (2, 2), (1, 5)] rfl rfl) ggX12_act_X12_keepsFrom
noncomputable def csX12_movesFrom : List (List Cond) := [[.code yX12_movesFrom cX12_movesFrom 5 (some .int)], [.fieldLink RX12 22 "SeatsRoundModel" "kind" "[I", .methodLink RX12 337 yX12_begins, .instanceMethod yX12_begins, .selects RX12 yX12_begins yX12_begins, .initialized RX12, .code yX12_begins cX12_begins 2 none, .fieldLink RX12 334 "SeatsRoundModel" "bodies" "I", .fieldLink RX12 99 "SeatsRoundModel" "trace" "[I", .methodLink RX12 349 yX12_movesFrom, .instanceMethod yX12_movesFrom, .selects RX12 yX12_movesFrom yX12_movesFrom, .methodLink RX12 340 yX12_findsFrom, .instanceMethod yX12_findsFrom, .selects RX12 yX12_findsFrom yX12_findsFrom, .code yX12_findsFrom cX12_findsFrom 4 (some .int), .fieldLink RX12 19 "SeatsRoundModel" "strength" "[I", .methodLink RX12 343 yX12_aboveOf, .static yX12_aboveOf, .code yX12_aboveOf cX12_aboveOf 1 (some .int)], wsX120]
set_option maxRecDepth 20000 in
theorem ciX12_movesFrom : ∀ l ∈ csX12_movesFrom, ∀ w ∈ l, w ∈ wsX12_movesFrom := by
  unfold csX12_movesFrom
  refine List.forall_mem_cons.mpr ⟨fun _ h => List.mem_cons.mpr (Or.inl (List.mem_singleton.mp h)), List.forall_mem_cons.mpr ⟨fun _ h => List.mem_cons_of_mem _ (List.mem_append_left _ h), List.forall_mem_cons.mpr ⟨fun _ h => List.mem_cons_of_mem _ (List.mem_append_right _ h), fun l h => absurd h List.not_mem_nil⟩⟩⟩
set_option maxRecDepth 20000 in
theorem ggX12_movesFrom_X12_findsFrom : GoodIn wsX12_movesFrom wsX12_findsFrom := goodIn_r2 csX12_movesFrom ciX12_movesFrom _ [(1, 14), (1, 15), (1, 1), (1, 2), (1, 3), (1, 4), (1, 5), (1, 6), (1, 7), (1, 11), (1, 12), (1, 13), (1, 16), (1, 17), (1, 18), (2, 0), (2, 1), (2, 2), (2, 3), (2, 4), (2, 5), (2, 6), (2, 7), (2, 8), (2, 9), (2, 10), (2, 11), (2, 12), (2, 13), (2, 14), (2, 15), (2, 16), (2, 17), (2, 18), (2, 19), (2, 20), (2, 21), (2, 22), (2, 23), (2, 24), (2, 25), (2, 26), (2, 27), (2, 28), (2, 29), (2, 30), (2, 31), (2, 32), (2, 33), (2, 34), (2, 35), (2, 36), (2, 37), (2, 38), (2, 39), (2, 40), (2, 41), (2, 42), (2, 43), (2, 44), (2, 45), (2, 46), (2, 47), (2, 48), (2, 49), (2, 50), (2, 51), (2, 52), (2, 53), (2, 54), (2, 55), (2, 56), (2, 57), (2, 58)] rfl rfl
set_option maxRecDepth 20000 in
theorem gX12_movesFrom_X12_findsFrom : GoodIn wsX12_movesFrom (wsV RX12 340 RX12 yX12_findsFrom wsX12_findsFrom) := goodIn_app (goodIn_r2 csX12_movesFrom ciX12_movesFrom _ [(1, 11), (1, 12), (1, 13), (1, 4)] rfl rfl) ggX12_movesFrom_X12_findsFrom
set_option maxRecDepth 20000 in
theorem ggX12_trees_X12_wordsBelow : GoodIn wsX12_trees wsX12_wordsBelow := goodIn_r2 csX12_trees ciX12_trees _ [(1, 12), (1, 13), (1, 14), (1, 15), (1, 3), (1, 16), (1, 17), (1, 18), (1, 19), (1, 20), (1, 21), (1, 22), (1, 9), (1, 10), (1, 11), (2, 0), (2, 1), (2, 2), (2, 3), (2, 4), (2, 5), (2, 6), (2, 7), (2, 8), (2, 9), (2, 10), (2, 11), (2, 12), (2, 13), (2, 14), (2, 15), (2, 16), (2, 17), (2, 18), (2, 19), (2, 20), (2, 21), (2, 22), (2, 23), (2, 24), (2, 25), (2, 26), (2, 27), (2, 28), (2, 29), (2, 30), (2, 31), (2, 32), (2, 33), (2, 34), (2, 35), (2, 36), (2, 37), (2, 38), (2, 39), (2, 40), (2, 41), (2, 42), (2, 43), (2, 44), (2, 45), (2, 46), (2, 47), (2, 48), (2, 49), (2, 50), (2, 51), (2, 52), (2, 53), (2, 54), (2, 55), (2, 56), (2, 57), (2, 58)] rfl rfl
set_option maxRecDepth 20000 in
theorem gX12_trees_X12_wordsBelow : GoodIn wsX12_trees (wsV RX12 307 RX12 yX12_wordsBelow wsX12_wordsBelow) := goodIn_app (goodIn_r2 csX12_trees ciX12_trees _ [(1, 9), (1, 10), (1, 11), (1, 3)] rfl rfl) ggX12_trees_X12_wordsBelow
set_option maxRecDepth 20000 in
theorem ggX12_order_X12_setBy : GoodIn wsX12_order wsX12_setBy := goodIn_r2 csX12_order ciX12_order _ [(1, 19), (1, 20), (1, 0), (1, 21), (8, 0), (8, 1), (8, 2), (8, 3), (8, 4), (8, 5), (8, 6), (8, 7), (8, 8), (8, 9), (8, 10), (8, 11), (8, 12), (8, 13), (8, 14), (8, 15), (8, 16), (8, 17), (8, 18), (8, 19), (8, 20), (8, 21), (8, 22), (8, 23), (8, 24), (8, 25), (8, 26), (8, 27), (8, 28), (8, 29), (8, 30), (8, 31), (8, 32), (8, 33), (8, 34), (8, 35), (8, 36), (8, 37), (8, 38), (8, 39), (8, 40), (8, 41), (8, 42), (8, 43), (8, 44), (8, 45), (8, 46), (8, 47), (8, 48), (8, 49), (8, 50), (8, 51), (8, 52), (8, 53), (8, 54), (8, 55), (8, 56), (8, 57), (8, 58)] rfl rfl
set_option maxRecDepth 20000 in
theorem gX12_order_X12_setBy : GoodIn wsX12_order (wsV RX12 316 RX12 yX12_setBy wsX12_setBy) := goodIn_app (goodIn_r2 csX12_order ciX12_order _ [(1, 16), (1, 17), (1, 18), (1, 10)] rfl rfl) ggX12_order_X12_setBy
set_option maxRecDepth 20000 in
theorem ggX12_read_X12_isName : GoodIn wsX12_read wsX12_isName := goodIn_r2 csX12_read ciX12_read _ [(1, 16), (1, 17), (1, 10), (1, 11), (1, 7), (1, 12), (5, 0), (5, 1), (5, 2), (5, 3), (5, 4), (5, 5), (5, 6), (5, 7), (5, 8), (5, 9), (5, 10), (5, 11), (5, 12), (5, 13), (5, 14), (5, 15), (5, 16), (5, 17), (5, 18), (5, 19), (5, 20), (5, 21), (5, 22), (5, 23), (5, 24), (5, 25), (5, 26), (5, 27), (5, 28), (5, 29), (5, 30), (5, 31), (5, 32), (5, 33), (5, 34), (5, 35), (5, 36), (5, 37), (5, 38), (5, 39), (5, 40), (5, 41), (5, 42), (5, 43), (5, 44), (5, 45), (5, 46), (5, 47), (5, 48), (5, 49), (5, 50), (5, 51), (5, 52), (5, 53), (5, 54), (5, 55), (5, 56), (5, 57), (5, 58)] rfl rfl
set_option maxRecDepth 20000 in
theorem gX12_read_X12_isName : GoodIn wsX12_read (wsV RX12 158 RX12 yX12_isName wsX12_isName) := goodIn_app (goodIn_r2 csX12_read ciX12_read _ [(1, 13), (1, 14), (1, 15), (1, 7)] rfl rfl) ggX12_read_X12_isName
noncomputable def csX12_shareOf : List (List Cond) := [[.code yX12_shareOf cX12_shareOf 5 (some .int)], wsX12_shareOf_r1, wsX12_shareOf_r2, wsX120]
set_option maxRecDepth 20000 in
theorem ciX12_shareOf : ∀ l ∈ csX12_shareOf, ∀ w ∈ l, w ∈ wsX12_shareOf := by
  unfold csX12_shareOf
  refine List.forall_mem_cons.mpr ⟨fun _ h => List.mem_cons.mpr (Or.inl (List.mem_singleton.mp h)), List.forall_mem_cons.mpr ⟨fun _ h => List.mem_cons_of_mem _ (List.mem_append_left _ (List.mem_append_left _ h)), List.forall_mem_cons.mpr ⟨fun _ h => List.mem_cons_of_mem _ (List.mem_append_left _ (List.mem_append_right _ h)), List.forall_mem_cons.mpr ⟨fun _ h => List.mem_cons_of_mem _ (List.mem_append_right _ h), fun l h => absurd h List.not_mem_nil⟩⟩⟩⟩
set_option maxRecDepth 20000 in
theorem ggX12_shareOf_X12_numberOf : GoodIn wsX12_shareOf wsX12_numberOf := goodIn_r2 csX12_shareOf ciX12_shareOf _ [(1, 7), (1, 8), (1, 9), (1, 10), (3, 0), (3, 1), (3, 2), (3, 3), (3, 4), (3, 5), (3, 6), (3, 7), (3, 8), (3, 9), (3, 10), (3, 11), (3, 12), (3, 13), (3, 14), (3, 15), (3, 16), (3, 17), (3, 18), (3, 19), (3, 20), (3, 21), (3, 22), (3, 23), (3, 24), (3, 25), (3, 26), (3, 27), (3, 28), (3, 29), (3, 30), (3, 31), (3, 32), (3, 33), (3, 34), (3, 35), (3, 36), (3, 37), (3, 38), (3, 39), (3, 40), (3, 41), (3, 42), (3, 43), (3, 44), (3, 45), (3, 46), (3, 47), (3, 48), (3, 49), (3, 50), (3, 51), (3, 52), (3, 53), (3, 54), (3, 55), (3, 56), (3, 57), (3, 58)] rfl rfl
set_option maxRecDepth 20000 in
theorem gX12_shareOf_X12_numberOf : GoodIn wsX12_shareOf (wsV RX12 162 RX12 yX12_numberOf wsX12_numberOf) := goodIn_app (goodIn_r2 csX12_shareOf ciX12_shareOf _ [(1, 3), (1, 4), (1, 5), (1, 6)] rfl rfl) ggX12_shareOf_X12_numberOf
set_option maxRecDepth 20000 in
theorem ggX12_moves_X12_isIn : GoodIn wsX12_moves wsX12_isIn := goodIn_r2 csX12_moves ciX12_moves _ [(1, 15), (1, 16), (5, 0), (5, 1), (5, 2), (5, 3), (5, 4), (5, 5), (5, 6), (5, 7), (5, 8), (5, 9), (5, 10), (5, 11), (5, 12), (5, 13), (5, 14), (5, 15), (5, 16), (5, 17), (5, 18), (5, 19), (5, 20), (5, 21), (5, 22), (5, 23), (5, 24), (5, 25), (5, 26), (5, 27), (5, 28), (5, 29), (5, 30), (5, 31), (5, 32), (5, 33), (5, 34), (5, 35), (5, 36), (5, 37), (5, 38), (5, 39), (5, 40), (5, 41), (5, 42), (5, 43), (5, 44), (5, 45), (5, 46), (5, 47), (5, 48), (5, 49), (5, 50), (5, 51), (5, 52), (5, 53), (5, 54), (5, 55), (5, 56), (5, 57), (5, 58)] rfl rfl
set_option maxRecDepth 20000 in
theorem gX12_moves_X12_isIn : GoodIn wsX12_moves (wsV RX12 223 RX12 yX12_isIn wsX12_isIn) := goodIn_app (goodIn_r2 csX12_moves ciX12_moves _ [(1, 12), (1, 13), (1, 14), (1, 6)] rfl rfl) ggX12_moves_X12_isIn
noncomputable def csX12_areUnlike : List (List Cond) := [[.code yX12_areUnlike cX12_areUnlike 7 (some .boolean)], [.methodLink RX12 300 yX12_leafOf, .instanceMethod yX12_leafOf, .selects RX12 yX12_leafOf yX12_leafOf, .initialized RX12, .code yX12_leafOf cX12_leafOf 5 (some .int), .fieldLink RX12 133 "SeatsRoundModel" "names" "I", .fieldLink RX12 68 "SeatsRoundModel" "version" "[I"], wsX120]
set_option maxRecDepth 20000 in
theorem ciX12_areUnlike : ∀ l ∈ csX12_areUnlike, ∀ w ∈ l, w ∈ wsX12_areUnlike := by
  unfold csX12_areUnlike
  refine List.forall_mem_cons.mpr ⟨fun _ h => List.mem_cons.mpr (Or.inl (List.mem_singleton.mp h)), List.forall_mem_cons.mpr ⟨fun _ h => List.mem_cons_of_mem _ (List.mem_append_left _ h), List.forall_mem_cons.mpr ⟨fun _ h => List.mem_cons_of_mem _ (List.mem_append_right _ h), fun l h => absurd h List.not_mem_nil⟩⟩⟩
set_option maxRecDepth 20000 in
theorem ggX12_areUnlike_X12_leafOf : GoodIn wsX12_areUnlike wsX12_leafOf := goodIn_r2 csX12_areUnlike ciX12_areUnlike _ [(1, 4), (1, 5), (1, 6), (2, 0), (2, 1), (2, 2), (2, 3), (2, 4), (2, 5), (2, 6), (2, 7), (2, 8), (2, 9), (2, 10), (2, 11), (2, 12), (2, 13), (2, 14), (2, 15), (2, 16), (2, 17), (2, 18), (2, 19), (2, 20), (2, 21), (2, 22), (2, 23), (2, 24), (2, 25), (2, 26), (2, 27), (2, 28), (2, 29), (2, 30), (2, 31), (2, 32), (2, 33), (2, 34), (2, 35), (2, 36), (2, 37), (2, 38), (2, 39), (2, 40), (2, 41), (2, 42), (2, 43), (2, 44), (2, 45), (2, 46), (2, 47), (2, 48), (2, 49), (2, 50), (2, 51), (2, 52), (2, 53), (2, 54), (2, 55), (2, 56), (2, 57), (2, 58)] rfl rfl
set_option maxRecDepth 20000 in
theorem gX12_areUnlike_X12_leafOf : GoodIn wsX12_areUnlike (wsV RX12 300 RX12 yX12_leafOf wsX12_leafOf) := goodIn_app (goodIn_r2 csX12_areUnlike ciX12_areUnlike _ [(1, 0), (1, 1), (1, 2), (1, 3)] rfl rfl) ggX12_areUnlike_X12_leafOf
set_option maxRecDepth 20000 in
theorem ggX12_ofKeeper_X12_many : GoodIn wsX12_ofKeeper wsX12_many := goodIn_r2 csX12_ofKeeper ciX12_ofKeeper _ [(1, 22), (1, 23), (2, 0), (3, 0), (3, 1), (3, 2), (3, 3), (3, 4), (3, 5), (3, 6), (3, 7), (3, 8), (3, 9), (3, 10), (3, 11), (3, 12), (3, 13), (3, 14), (3, 15), (3, 16), (3, 17), (3, 18), (3, 19), (3, 20), (3, 21), (3, 22), (3, 23), (3, 24), (3, 25), (3, 26), (3, 27), (3, 28), (3, 29), (3, 30), (3, 31), (3, 32), (3, 33), (3, 34), (3, 35), (3, 36), (3, 37), (3, 38), (3, 39), (3, 40), (3, 41), (3, 42), (3, 43), (3, 44), (3, 45), (3, 46), (3, 47), (3, 48), (3, 49), (3, 50), (3, 51), (3, 52), (3, 53), (3, 54), (3, 55), (3, 56), (3, 57), (3, 58)] rfl rfl
set_option maxRecDepth 20000 in
theorem gX12_ofKeeper_X12_many : GoodIn wsX12_ofKeeper (wsV RX12 173 RX12 yX12_many wsX12_many) := goodIn_app (goodIn_r2 csX12_ofKeeper ciX12_ofKeeper _ [(1, 19), (1, 20), (1, 21), (1, 9)] rfl rfl) ggX12_ofKeeper_X12_many
noncomputable def csX12_count : List (List Cond) := [[.code yX12_count cX12_count 4 (some .int)], [.fieldLink RX12 133 "SeatsRoundModel" "names" "I", .fieldLink RX12 140 "SeatsRoundModel" "keepers" "I", .fieldLink RX12 143 "SeatsRoundModel" "tables" "I", .fieldLink RX12 146 "SeatsRoundModel" "taped" "I", .fieldLink RX12 290 "SeatsRoundModel" "writings" "I", .fieldLink RX12 334 "SeatsRoundModel" "bodies" "I", .methodLink RX12 173 yX12_many, .instanceMethod yX12_many, .selects RX12 yX12_many yX12_many, .initialized RX12, .code yX12_many cX12_many 5 (some .int), .fieldLink RX12 68 "SeatsRoundModel" "version" "[I", .fieldLink RX12 71 "SeatsRoundModel" "kept" "[I"], wsX120]
set_option maxRecDepth 20000 in
theorem ciX12_count : ∀ l ∈ csX12_count, ∀ w ∈ l, w ∈ wsX12_count := by
  unfold csX12_count
  refine List.forall_mem_cons.mpr ⟨fun _ h => List.mem_cons.mpr (Or.inl (List.mem_singleton.mp h)), List.forall_mem_cons.mpr ⟨fun _ h => List.mem_cons_of_mem _ (List.mem_append_left _ h), List.forall_mem_cons.mpr ⟨fun _ h => List.mem_cons_of_mem _ (List.mem_append_right _ h), fun l h => absurd h List.not_mem_nil⟩⟩⟩
set_option maxRecDepth 20000 in
theorem ggX12_count_X12_many : GoodIn wsX12_count wsX12_many := goodIn_r2 csX12_count ciX12_count _ [(1, 10), (1, 11), (1, 12), (2, 0), (2, 1), (2, 2), (2, 3), (2, 4), (2, 5), (2, 6), (2, 7), (2, 8), (2, 9), (2, 10), (2, 11), (2, 12), (2, 13), (2, 14), (2, 15), (2, 16), (2, 17), (2, 18), (2, 19), (2, 20), (2, 21), (2, 22), (2, 23), (2, 24), (2, 25), (2, 26), (2, 27), (2, 28), (2, 29), (2, 30), (2, 31), (2, 32), (2, 33), (2, 34), (2, 35), (2, 36), (2, 37), (2, 38), (2, 39), (2, 40), (2, 41), (2, 42), (2, 43), (2, 44), (2, 45), (2, 46), (2, 47), (2, 48), (2, 49), (2, 50), (2, 51), (2, 52), (2, 53), (2, 54), (2, 55), (2, 56), (2, 57), (2, 58)] rfl rfl
set_option maxRecDepth 20000 in
theorem gX12_count_X12_many : GoodIn wsX12_count (wsV RX12 173 RX12 yX12_many wsX12_many) := goodIn_app (goodIn_r2 csX12_count ciX12_count _ [(1, 6), (1, 7), (1, 8), (1, 9)] rfl rfl) ggX12_count_X12_many
noncomputable def csX6_reaches : List (List Cond) := [[.code yX6_reaches cX6_reaches 3 (some .boolean)], wsX6_reaches_r1, wsX6_reaches_r2, wsX60, wsX20, wsX10]
set_option maxRecDepth 20000 in
theorem ciX6_reaches : ∀ l ∈ csX6_reaches, ∀ w ∈ l, w ∈ wsX6_reaches := by
  unfold csX6_reaches
  refine List.forall_mem_cons.mpr ⟨fun _ h => List.mem_cons.mpr (Or.inl (List.mem_singleton.mp h)), List.forall_mem_cons.mpr ⟨fun _ h => List.mem_cons_of_mem _ (List.mem_append_left _ (List.mem_append_left _ (List.mem_append_left _ (List.mem_append_left _ h)))), List.forall_mem_cons.mpr ⟨fun _ h => List.mem_cons_of_mem _ (List.mem_append_left _ (List.mem_append_left _ (List.mem_append_left _ (List.mem_append_right _ h)))), List.forall_mem_cons.mpr ⟨fun _ h => List.mem_cons_of_mem _ (List.mem_append_left _ (List.mem_append_left _ (List.mem_append_right _ h))), List.forall_mem_cons.mpr ⟨fun _ h => List.mem_cons_of_mem _ (List.mem_append_left _ (List.mem_append_right _ h)), List.forall_mem_cons.mpr ⟨fun _ h => List.mem_cons_of_mem _ (List.mem_append_right _ h), fun l h => absurd h List.not_mem_nil⟩⟩⟩⟩⟩⟩
set_option maxRecDepth 20000 in
theorem ggX6_reaches_X6_isKeptFor : GoodIn wsX6_reaches wsX6_isKeptFor := goodIn_r2 csX6_reaches ciX6_reaches _ [(1, 8), (1, 9), (1, 10), (1, 11), (1, 0), (1, 12), (1, 13), (1, 3), (1, 14), (1, 15), (1, 16), (1, 17), (1, 18), (1, 19), (1, 20), (1, 21), (1, 22), (1, 23), (2, 0), (2, 1), (2, 2), (3, 0), (3, 1), (3, 2), (3, 3), (3, 4), (3, 5), (3, 6), (3, 7), (3, 8), (3, 9), (3, 10), (3, 11), (5, 0), (5, 1), (5, 2), (5, 3), (5, 4), (5, 5), (5, 6), (5, 7), (5, 8), (4, 0), (4, 1), (4, 2), (4, 3), (4, 4), (4, 5)] rfl rfl
set_option maxRecDepth 20000 in
theorem gX6_reaches_X6_isKeptFor : GoodIn wsX6_reaches (wsV RX6 90 RX6 yX6_isKeptFor wsX6_isKeptFor) := goodIn_app (goodIn_r2 csX6_reaches ciX6_reaches _ [(1, 4), (1, 5), (1, 6), (1, 7)] rfl rfl) ggX6_reaches_X6_isKeptFor
noncomputable def csX8_unevenness : List (List Cond) := [[.code yX8_unevenness cX8_unevenness 4 (some .int)], wsX8_unevenness_r1, wsX8_unevenness_r2, wsX80]
set_option maxRecDepth 20000 in
theorem ciX8_unevenness : ∀ l ∈ csX8_unevenness, ∀ w ∈ l, w ∈ wsX8_unevenness := by
  unfold csX8_unevenness
  refine List.forall_mem_cons.mpr ⟨fun _ h => List.mem_cons.mpr (Or.inl (List.mem_singleton.mp h)), List.forall_mem_cons.mpr ⟨fun _ h => List.mem_cons_of_mem _ (List.mem_append_left _ (List.mem_append_left _ h)), List.forall_mem_cons.mpr ⟨fun _ h => List.mem_cons_of_mem _ (List.mem_append_left _ (List.mem_append_right _ h)), List.forall_mem_cons.mpr ⟨fun _ h => List.mem_cons_of_mem _ (List.mem_append_right _ h), fun l h => absurd h List.not_mem_nil⟩⟩⟩⟩
set_option maxRecDepth 20000 in
theorem ggX8_unevenness_X8_countOdds : GoodIn wsX8_unevenness wsX8_countOdds := goodIn_r2 csX8_unevenness ciX8_unevenness _ [(1, 13), (1, 14), (1, 1), (1, 15), (1, 16), (1, 17), (1, 18), (1, 19), (1, 20), (1, 21), (1, 12), (1, 22), (1, 23), (2, 0), (2, 1), (1, 0), (2, 2), (2, 3), (2, 4), (2, 5), (2, 6), (2, 7), (2, 8), (2, 9), (2, 10), (2, 11), (2, 12), (3, 0), (3, 1), (3, 2), (3, 3), (3, 4), (3, 5), (3, 6), (3, 7), (3, 8), (3, 9), (3, 10), (3, 11), (3, 12)] rfl rfl
set_option maxRecDepth 20000 in
theorem gX8_unevenness_X8_countOdds : GoodIn wsX8_unevenness (wsV RX8 108 RX8 yX8_countOdds wsX8_countOdds) := goodIn_app (goodIn_r2 csX8_unevenness ciX8_unevenness _ [(1, 9), (1, 10), (1, 11), (1, 12)] rfl rfl) ggX8_unevenness_X8_countOdds
noncomputable def csX10_leastHarm : List (List Cond) := [[.code yX10_leastHarm cX10_leastHarm 6 (some .int)], wsX10_leastHarm_r1, wsX10_leastHarm_r2, wsX10_leastHarm_r3, wsX10_leastHarm_r4, wsX100, wsX80, wsX40]
set_option maxRecDepth 20000 in
theorem ciX10_leastHarm : ∀ l ∈ csX10_leastHarm, ∀ w ∈ l, w ∈ wsX10_leastHarm := by
  unfold csX10_leastHarm
  refine List.forall_mem_cons.mpr ⟨fun _ h => List.mem_cons.mpr (Or.inl (List.mem_singleton.mp h)), List.forall_mem_cons.mpr ⟨fun _ h => List.mem_cons_of_mem _ (List.mem_append_left _ (List.mem_append_left _ (List.mem_append_left _ (List.mem_append_left _ h)))), List.forall_mem_cons.mpr ⟨fun _ h => List.mem_cons_of_mem _ (List.mem_append_left _ (List.mem_append_left _ (List.mem_append_left _ (List.mem_append_right _ (List.mem_append_left _ h))))), List.forall_mem_cons.mpr ⟨fun _ h => List.mem_cons_of_mem _ (List.mem_append_left _ (List.mem_append_left _ (List.mem_append_left _ (List.mem_append_right _ (List.mem_append_right _ (List.mem_append_left _ h)))))), List.forall_mem_cons.mpr ⟨fun _ h => List.mem_cons_of_mem _ (List.mem_append_left _ (List.mem_append_left _ (List.mem_append_left _ (List.mem_append_right _ (List.mem_append_right _ (List.mem_append_right _ h)))))), List.forall_mem_cons.mpr ⟨fun _ h => List.mem_cons_of_mem _ (List.mem_append_left _ (List.mem_append_left _ (List.mem_append_right _ h))), List.forall_mem_cons.mpr ⟨fun _ h => List.mem_cons_of_mem _ (List.mem_append_left _ (List.mem_append_right _ h)), List.forall_mem_cons.mpr ⟨fun _ h => List.mem_cons_of_mem _ (List.mem_append_right _ h), fun l h => absurd h List.not_mem_nil⟩⟩⟩⟩⟩⟩⟩⟩
set_option maxRecDepth 20000 in
theorem ggX10_leastHarm_X8_takeAll : GoodIn wsX10_leastHarm wsX8_takeAll := goodIn_r2 csX10_leastHarm ciX10_leastHarm _ [(1, 7), (1, 8), (1, 9), (1, 10), (1, 11), (1, 12), (1, 13), (1, 14), (1, 15), (1, 16), (1, 17), (1, 18), (1, 19), (1, 20), (1, 21), (1, 6), (1, 22), (1, 23), (2, 0), (2, 1), (2, 2), (2, 3), (2, 4), (2, 5), (6, 0), (6, 1), (6, 2), (6, 3), (6, 4), (6, 5), (6, 6), (6, 7), (6, 8), (6, 9), (6, 10), (6, 11), (6, 12)] rfl rfl
set_option maxRecDepth 20000 in
theorem gX10_leastHarm_X8_takeAll : GoodIn wsX10_leastHarm (wsV RX10 29 RX8 yX8_takeAll wsX8_takeAll) := goodIn_app (goodIn_r2 csX10_leastHarm ciX10_leastHarm _ [(1, 3), (1, 4), (1, 5), (1, 6)] rfl rfl) ggX10_leastHarm_X8_takeAll
noncomputable def csX8_countOdds : List (List Cond) := [[.code yX8_countOdds cX8_countOdds 3 none], wsX8_countOdds_r1, wsX8_countOdds_r2, wsX80]
set_option maxRecDepth 20000 in
theorem ciX8_countOdds : ∀ l ∈ csX8_countOdds, ∀ w ∈ l, w ∈ wsX8_countOdds := by
  unfold csX8_countOdds
  refine List.forall_mem_cons.mpr ⟨fun _ h => List.mem_cons.mpr (Or.inl (List.mem_singleton.mp h)), List.forall_mem_cons.mpr ⟨fun _ h => List.mem_cons_of_mem _ (List.mem_append_left _ (List.mem_append_left _ h)), List.forall_mem_cons.mpr ⟨fun _ h => List.mem_cons_of_mem _ (List.mem_append_left _ (List.mem_append_right _ h)), List.forall_mem_cons.mpr ⟨fun _ h => List.mem_cons_of_mem _ (List.mem_append_right _ h), fun l h => absurd h List.not_mem_nil⟩⟩⟩⟩
set_option maxRecDepth 20000 in
theorem ggX8_countOdds_X8_firstFor : GoodIn wsX8_countOdds wsX8_firstFor := goodIn_r2 csX8_countOdds ciX8_countOdds _ [(1, 10), (1, 11), (1, 12), (1, 13), (1, 14), (1, 15), (1, 16), (1, 17), (1, 9), (1, 18), (1, 19), (1, 20), (1, 21), (1, 22), (1, 23), (2, 0), (2, 1), (3, 0), (3, 1), (3, 2), (3, 3), (3, 4), (3, 5), (3, 6), (3, 7), (3, 8), (3, 9), (3, 10), (3, 11), (3, 12)] rfl rfl
set_option maxRecDepth 20000 in
theorem gX8_countOdds_X8_firstFor : GoodIn wsX8_countOdds (wsV RX8 105 RX8 yX8_firstFor wsX8_firstFor) := goodIn_app (goodIn_r2 csX8_countOdds ciX8_countOdds _ [(1, 6), (1, 7), (1, 8), (1, 9)] rfl rfl) ggX8_countOdds_X8_firstFor
set_option maxRecDepth 20000 in
theorem ggX11_trees_X6_compare : GoodIn wsX11_trees wsX6_compare := goodIn_r2 csX11_trees ciX11_trees _ [(1, 12), (1, 13), (1, 14), (1, 15), (1, 16), (1, 17), (1, 11), (1, 18), (1, 19), (1, 20), (1, 21), (1, 22), (1, 23), (2, 0), (2, 1), (5, 0), (5, 1), (5, 2), (5, 3), (5, 4), (5, 5), (5, 6), (5, 7), (5, 8), (5, 9), (5, 10), (5, 11), (6, 0), (6, 1), (6, 2), (6, 3)] rfl rfl
set_option maxRecDepth 20000 in
theorem gX11_trees_X6_compare : GoodIn wsX11_trees (wsV RX11 300 RX6 yX6_compare wsX6_compare) := goodIn_app (goodIn_r2 csX11_trees ciX11_trees _ [(1, 8), (1, 9), (1, 10), (1, 11)] rfl rfl) ggX11_trees_X6_compare
noncomputable def csX0_movesFrom : List (List Cond) := [[.code yX0_movesFrom cX0_movesFrom 4 (some .int)], [.fieldLink RX0 19 "SeatsRound$Acts" "own" "I", .fieldLink RX0 22 "SeatsRound$Acts" "number" "I", .methodLink RX0 41 yX0_begin, .instanceMethod yX0_begin, .selects RX0 yX0_begin yX0_begin, .initialized RX0, .code yX0_begin cX0_begin 2 none, .fieldLink RX0 15 "SeatsRound$Acts" "ran" "I", .fieldLink RX0 9 "SeatsRound$Acts" "bodies" "[I", .methodLink RX0 35 yX0_movesFrom, .instanceMethod yX0_movesFrom, .selects RX0 yX0_movesFrom yX0_movesFrom, .methodLink RX0 28 yX0_findsFrom, .instanceMethod yX0_findsFrom, .selects RX0 yX0_findsFrom yX0_findsFrom, .code yX0_findsFrom cX0_findsFrom 3 (some .int), .fieldLink RX0 25 "SeatsRound$Acts" "strength" "I"], wsX00]
set_option maxRecDepth 20000 in
theorem ciX0_movesFrom : ∀ l ∈ csX0_movesFrom, ∀ w ∈ l, w ∈ wsX0_movesFrom := by
  unfold csX0_movesFrom
  refine List.forall_mem_cons.mpr ⟨fun _ h => List.mem_cons.mpr (Or.inl (List.mem_singleton.mp h)), List.forall_mem_cons.mpr ⟨fun _ h => List.mem_cons_of_mem _ (List.mem_append_left _ h), List.forall_mem_cons.mpr ⟨fun _ h => List.mem_cons_of_mem _ (List.mem_append_right _ h), fun l h => absurd h List.not_mem_nil⟩⟩⟩
set_option maxRecDepth 20000 in
theorem ggX0_movesFrom_X0_movesFrom : GoodIn wsX0_movesFrom wsX0_movesFrom := goodIn_r2 csX0_movesFrom ciX0_movesFrom _ [(0, 0), (1, 0), (1, 1), (1, 2), (1, 3), (1, 4), (1, 5), (1, 6), (1, 7), (1, 8), (1, 9), (1, 10), (1, 11), (1, 12), (1, 13), (1, 14), (1, 15), (1, 16), (2, 0), (2, 1), (2, 2), (2, 3), (2, 4)] rfl rfl
set_option maxRecDepth 20000 in
theorem gX0_movesFrom_X0_movesFrom : GoodIn wsX0_movesFrom (wsV RX0 35 RX0 yX0_movesFrom wsX0_movesFrom) := goodIn_app (goodIn_r2 csX0_movesFrom ciX0_movesFrom _ [(1, 9), (1, 10), (1, 11), (1, 5)] rfl rfl) ggX0_movesFrom_X0_movesFrom
noncomputable def csX0_run : List (List Cond) := [[.code yX0_run cX0_run 6 (some .int)], wsX0_run_r1, wsX0_run_r2, wsX00]
set_option maxRecDepth 20000 in
theorem ciX0_run : ∀ l ∈ csX0_run, ∀ w ∈ l, w ∈ wsX0_run := by
  unfold csX0_run
  refine List.forall_mem_cons.mpr ⟨fun _ h => List.mem_cons.mpr (Or.inl (List.mem_singleton.mp h)), List.forall_mem_cons.mpr ⟨fun _ h => List.mem_cons_of_mem _ (List.mem_append_left _ (List.mem_append_left _ h)), List.forall_mem_cons.mpr ⟨fun _ h => List.mem_cons_of_mem _ (List.mem_append_left _ (List.mem_append_right _ h)), List.forall_mem_cons.mpr ⟨fun _ h => List.mem_cons_of_mem _ (List.mem_append_right _ h), fun l h => absurd h List.not_mem_nil⟩⟩⟩⟩
set_option maxRecDepth 20000 in
theorem ggX0_run_X0_keepsFrom : GoodIn wsX0_run wsX0_keepsFrom := goodIn_r2 csX0_run ciX0_run _ [(1, 17), (1, 2), (1, 8), (1, 9), (1, 10), (1, 6), (1, 11), (1, 12), (1, 13), (1, 14), (1, 15), (1, 16), (1, 18), (1, 19), (1, 20), (1, 21), (1, 0), (1, 3), (1, 4), (1, 5), (1, 7), (1, 1), (3, 0), (3, 1), (3, 2), (3, 3), (3, 4)] rfl rfl
set_option maxRecDepth 20000 in
theorem gX0_run_X0_keepsFrom : GoodIn wsX0_run (wsV RX0 32 RX0 yX0_keepsFrom wsX0_keepsFrom) := goodIn_app (goodIn_r2 csX0_run ciX0_run _ [(1, 14), (1, 15), (1, 16), (1, 6)] rfl rfl) ggX0_run_X0_keepsFrom
set_option maxRecDepth 20000 in
theorem ggX0_movesFrom_X0_findsFrom : GoodIn wsX0_movesFrom wsX0_findsFrom := goodIn_r2 csX0_movesFrom ciX0_movesFrom _ [(1, 15), (1, 16), (1, 1), (1, 2), (1, 3), (1, 4), (1, 5), (1, 6), (1, 7), (1, 8), (1, 12), (1, 13), (1, 14), (2, 0), (2, 1), (2, 2), (2, 3), (2, 4)] rfl rfl
set_option maxRecDepth 20000 in
theorem gX0_movesFrom_X0_findsFrom : GoodIn wsX0_movesFrom (wsV RX0 28 RX0 yX0_findsFrom wsX0_findsFrom) := goodIn_app (goodIn_r2 csX0_movesFrom ciX0_movesFrom _ [(1, 12), (1, 13), (1, 14), (1, 5)] rfl rfl) ggX0_movesFrom_X0_findsFrom
set_option maxRecDepth 20000 in
theorem ggX11_read_X11_tableAt : GoodIn wsX11_read wsX11_tableAt := goodIn_r2 csX11_read ciX11_read _ [(1, 20), (1, 21), (1, 22), (7, 0), (7, 1), (7, 2), (7, 3), (7, 4), (7, 5), (7, 6), (7, 7), (7, 8), (7, 9), (7, 10), (7, 11), (7, 12)] rfl rfl
set_option maxRecDepth 20000 in
theorem gX11_read_X11_tableAt : GoodIn wsX11_read (wsV RX11 192 RX11 yX11_tableAt wsX11_tableAt) := goodIn_app (goodIn_r2 csX11_read ciX11_read _ [(1, 16), (1, 17), (1, 18), (1, 19)] rfl rfl) ggX11_read_X11_tableAt
noncomputable def csX6_allKept : List (List Cond) := [[.code yX6_allKept cX6_allKept 3 (some .int)], [.fieldLink RX6 42 "SeatsRound$Parcels" "keepers" "LSeatsRound$Keepers;", .fieldLink RX6 120 "SeatsRound$Keepers" "count" "I", .methodLink RX6 145 yX6_keptBy, .instanceMethod yX6_keptBy, .selects RX6 yX6_keptBy yX6_keptBy, .initialized RX6, .code yX6_keptBy cX6_keptBy 2 (some .int), .fieldLink RX6 16 "SeatsRound$Parcels" "kept" "[[I", .methodLink RX6 141 yX6_filled, .static yX6_filled, .code yX6_filled cX6_filled 6 (some .int)], wsX60, wsX20]
set_option maxRecDepth 20000 in
theorem ciX6_allKept : ∀ l ∈ csX6_allKept, ∀ w ∈ l, w ∈ wsX6_allKept := by
  unfold csX6_allKept
  refine List.forall_mem_cons.mpr ⟨fun _ h => List.mem_cons.mpr (Or.inl (List.mem_singleton.mp h)), List.forall_mem_cons.mpr ⟨fun _ h => List.mem_cons_of_mem _ (List.mem_append_left _ (List.mem_append_left _ h)), List.forall_mem_cons.mpr ⟨fun _ h => List.mem_cons_of_mem _ (List.mem_append_left _ (List.mem_append_right _ h)), List.forall_mem_cons.mpr ⟨fun _ h => List.mem_cons_of_mem _ (List.mem_append_right _ h), fun l h => absurd h List.not_mem_nil⟩⟩⟩⟩
set_option maxRecDepth 20000 in
theorem ggX6_allKept_X6_keptBy : GoodIn wsX6_allKept wsX6_keptBy := goodIn_r2 csX6_allKept ciX6_allKept _ [(1, 6), (1, 7), (1, 8), (1, 9), (1, 5), (1, 10), (2, 0), (2, 1), (2, 2), (2, 3), (2, 4), (2, 5), (2, 6), (2, 7), (2, 8), (2, 9), (2, 10), (2, 11)] rfl rfl
set_option maxRecDepth 20000 in
theorem gX6_allKept_X6_keptBy : GoodIn wsX6_allKept (wsV RX6 145 RX6 yX6_keptBy wsX6_keptBy) := goodIn_app (goodIn_r2 csX6_allKept ciX6_allKept _ [(1, 2), (1, 3), (1, 4), (1, 5)] rfl rfl) ggX6_allKept_X6_keptBy
set_option maxRecDepth 20000 in
theorem ggX11_moves_J6_bitCount_0f7a4 : GoodIn wsX11_moves wsJ6_bitCount_0f7a4 := goodIn_r2 csX11_moves ciX11_moves _ [(5, 7), (5, 8), (5, 9), (5, 10)] rfl rfl
set_option maxRecDepth 20000 in
theorem gX11_moves_J6_bitCount_0f7a4 : GoodIn wsX11_moves (va_wsS RX11 246 yJ6_bitCount_0f7a4 wsJ6_bitCount_0f7a4) := goodIn_app (goodIn_r2 csX11_moves ciX11_moves _ [(5, 4), (5, 5), (5, 6)] rfl rfl) ggX11_moves_J6_bitCount_0f7a4
noncomputable def csX3_readOperand : List (List Cond) := [[.code yX3_readOperand cX3_readOperand 4 (some .int)], wsX3_readOperand_r1, wsX3_readOperand_r2, wsX30]
set_option maxRecDepth 20000 in
theorem ciX3_readOperand : ∀ l ∈ csX3_readOperand, ∀ w ∈ l, w ∈ wsX3_readOperand := by
  unfold csX3_readOperand
  refine List.forall_mem_cons.mpr ⟨fun _ h => List.mem_cons.mpr (Or.inl (List.mem_singleton.mp h)), List.forall_mem_cons.mpr ⟨fun _ h => List.mem_cons_of_mem _ (List.mem_append_left _ (List.mem_append_left _ h)), List.forall_mem_cons.mpr ⟨fun _ h => List.mem_cons_of_mem _ (List.mem_append_left _ (List.mem_append_right _ h)), List.forall_mem_cons.mpr ⟨fun _ h => List.mem_cons_of_mem _ (List.mem_append_right _ h), fun l h => absurd h List.not_mem_nil⟩⟩⟩⟩
set_option maxRecDepth 20000 in
theorem ggX3_readOperand_X3_sign : GoodIn wsX3_readOperand wsX3_sign := goodIn_r2 csX3_readOperand ciX3_readOperand _ [(1, 10), (1, 4), (1, 11), (1, 12), (3, 0), (3, 1), (3, 2), (3, 3), (3, 4), (3, 5), (3, 6), (3, 7)] rfl rfl
set_option maxRecDepth 20000 in
theorem gX3_readOperand_X3_sign : GoodIn wsX3_readOperand (wsV RX3 62 RX3 yX3_sign wsX3_sign) := goodIn_app (goodIn_r2 csX3_readOperand ciX3_readOperand _ [(1, 6), (1, 7), (1, 8), (1, 9)] rfl rfl) ggX3_readOperand_X3_sign
noncomputable def csX3_look : List (List Cond) := [[.code yX3_look cX3_look 5 none], [.fieldLink RX3 66 "SeatsRound$Table" "members" "I", .fieldLink RX3 25 "SeatsRound$Law" "members" "I", .fieldLink RX3 31 "SeatsRound$Law" "weights" "I", .fieldLink RX3 34 "SeatsRound$Law" "greatest" "I", .fieldLink RX3 73 "SeatsRound$Keepers" "street" "[I", .fieldLink RX3 79 "SeatsRound$Table" "weight" "[I", .methodLink RX3 82 Lib.Math.max.name, .static Lib.Math.max.name, .initialized "java/lang/Math", .code Lib.Math.max.name Lib.Math.max.code 2 (some .int), .fieldLink RX3 28 "SeatsRound$Law" "streetsIn" "I", .methodLink RX3 67 yJ6_bitCount_0f7a4, .static yJ6_bitCount_0f7a4, .initialized RJ6, .code yJ6_bitCount_0f7a4 cJ6_bitCount_0f7a4 1 (some .int), .constant RJ6 265 (1431655765), .constant RJ6 266 (858993459), .constant RJ6 267 (252645135)], wsX80, wsX30, wsX20]
set_option maxRecDepth 20000 in
theorem ciX3_look : ∀ l ∈ csX3_look, ∀ w ∈ l, w ∈ wsX3_look := by
  unfold csX3_look
  refine List.forall_mem_cons.mpr ⟨fun _ h => List.mem_cons.mpr (Or.inl (List.mem_singleton.mp h)), List.forall_mem_cons.mpr ⟨fun _ h => List.mem_cons_of_mem _ (List.mem_append_left _ (List.mem_append_left _ (List.mem_append_left _ h))), List.forall_mem_cons.mpr ⟨fun _ h => List.mem_cons_of_mem _ (List.mem_append_left _ (List.mem_append_left _ (List.mem_append_right _ h))), List.forall_mem_cons.mpr ⟨fun _ h => List.mem_cons_of_mem _ (List.mem_append_left _ (List.mem_append_right _ h)), List.forall_mem_cons.mpr ⟨fun _ h => List.mem_cons_of_mem _ (List.mem_append_right _ h), fun l h => absurd h List.not_mem_nil⟩⟩⟩⟩⟩
set_option maxRecDepth 20000 in
theorem ggX3_look_J6_bitCount_0f7a4 : GoodIn wsX3_look wsJ6_bitCount_0f7a4 := goodIn_r2 csX3_look ciX3_look _ [(1, 14), (1, 15), (1, 16), (1, 17)] rfl rfl
set_option maxRecDepth 20000 in
theorem gX3_look_J6_bitCount_0f7a4 : GoodIn wsX3_look (va_wsS RX3 67 yJ6_bitCount_0f7a4 wsJ6_bitCount_0f7a4) := goodIn_app (goodIn_r2 csX3_look ciX3_look _ [(1, 11), (1, 12), (1, 13)] rfl rfl) ggX3_look_J6_bitCount_0f7a4
set_option maxRecDepth 20000 in
theorem ggX11_moves_X4_placeOf : GoodIn wsX11_moves wsX4_placeOf := goodIn_r2 csX11_moves ciX11_moves _ [(1, 23), (2, 0), (2, 1), (2, 2), (7, 0), (7, 1), (7, 2), (7, 3)] rfl rfl
set_option maxRecDepth 20000 in
theorem gX11_moves_X4_placeOf : GoodIn wsX11_moves (wsV RX11 127 RX4 yX4_placeOf wsX4_placeOf) := goodIn_app (goodIn_r2 csX11_moves ciX11_moves _ [(1, 19), (1, 20), (1, 21), (1, 22)] rfl rfl) ggX11_moves_X4_placeOf
set_option maxRecDepth 20000 in
theorem ggX0_movesFrom_X0_begin : GoodIn wsX0_movesFrom wsX0_begin := goodIn_r2 csX0_movesFrom ciX0_movesFrom _ [(1, 6), (1, 7), (1, 8), (2, 0), (2, 1), (2, 2), (2, 3), (2, 4)] rfl rfl
set_option maxRecDepth 20000 in
theorem gX0_movesFrom_X0_begin : GoodIn wsX0_movesFrom (wsV RX0 41 RX0 yX0_begin wsX0_begin) := goodIn_app (goodIn_r2 csX0_movesFrom ciX0_movesFrom _ [(1, 2), (1, 3), (1, 4), (1, 5)] rfl rfl) ggX0_movesFrom_X0_begin
set_option maxRecDepth 20000 in
theorem ggX12_tellsFrom_X12_aboveOf : GoodIn wsX12_tellsFrom wsX12_aboveOf := goodIn_r2 csX12_tellsFrom ciX12_tellsFrom _ [(1, 19)] rfl rfl
set_option maxRecDepth 20000 in
theorem gX12_tellsFrom_X12_aboveOf : GoodIn wsX12_tellsFrom (va_wsS RX12 343 yX12_aboveOf wsX12_aboveOf) := goodIn_app (goodIn_r2 csX12_tellsFrom ciX12_tellsFrom _ [(1, 17), (1, 18), (1, 4)] rfl rfl) ggX12_tellsFrom_X12_aboveOf
set_option maxRecDepth 20000 in
theorem ggX11_keeperOf_X4_has : GoodIn wsX11_keeperOf wsX4_has := goodIn_r2 csX11_keeperOf ciX11_keeperOf _ [(1, 16), (1, 17), (9, 0), (9, 1), (9, 2), (9, 3)] rfl rfl
set_option maxRecDepth 20000 in
theorem gX11_keeperOf_X4_has : GoodIn wsX11_keeperOf (wsV RX11 123 RX4 yX4_has wsX4_has) := goodIn_app (goodIn_r2 csX11_keeperOf ciX11_keeperOf _ [(1, 12), (1, 13), (1, 14), (1, 15)] rfl rfl) ggX11_keeperOf_X4_has
set_option maxRecDepth 20000 in
theorem ggX11_taken_X11_isUnder : GoodIn wsX11_taken wsX11_isUnder := goodIn_r2 csX11_taken ciX11_taken _ [(2, 2), (2, 3)] rfl rfl
set_option maxRecDepth 20000 in
theorem gX11_taken_X11_isUnder : GoodIn wsX11_taken (va_wsS RX11 401 yX11_isUnder wsX11_isUnder) := goodIn_app (goodIn_r2 csX11_taken ciX11_taken _ [(2, 0), (2, 1), (1, 6)] rfl rfl) ggX11_taken_X11_isUnder
set_option maxRecDepth 20000 in
theorem ggX11_seat_X11_isPlace : GoodIn wsX11_seat wsX11_isPlace := goodIn_r2 csX11_seat ciX11_seat _ [(1, 10)] rfl rfl
set_option maxRecDepth 20000 in
theorem gX11_seat_X11_isPlace : GoodIn wsX11_seat (va_wsS RX11 215 yX11_isPlace wsX11_isPlace) := goodIn_app (goodIn_r2 csX11_seat ciX11_seat _ [(1, 8), (1, 9), (1, 4)] rfl rfl) ggX11_seat_X11_isPlace
set_option maxRecDepth 20000 in
theorem ggX11_lies_X11_upward : GoodIn wsX11_lies wsX11_upward := goodIn_r2 csX11_lies ciX11_lies _ [(1, 15)] rfl rfl
set_option maxRecDepth 20000 in
theorem gX11_lies_X11_upward : GoodIn wsX11_lies (va_wsS RX11 309 yX11_upward wsX11_upward) := goodIn_app (goodIn_r2 csX11_lies ciX11_lies _ [(1, 12), (1, 13), (1, 14)] rfl rfl) ggX11_lies_X11_upward
set_option maxRecDepth 20000 in
theorem ggX12_barred_X12_in : GoodIn wsX12_barred wsX12_in := goodIn_r2 csX12_barred ciX12_barred _ [(1, 9)] rfl rfl
set_option maxRecDepth 20000 in
theorem gX12_barred_X12_in : GoodIn wsX12_barred (va_wsS RX12 136 yX12_in wsX12_in) := goodIn_app (goodIn_r2 csX12_barred ciX12_barred _ [(1, 7), (1, 8), (1, 5)] rfl rfl) ggX12_barred_X12_in
set_option maxRecDepth 20000 in
theorem ggX12_knows_X12_in : GoodIn wsX12_knows wsX12_in := goodIn_r2 csX12_knows ciX12_knows _ [(1, 11)] rfl rfl
set_option maxRecDepth 20000 in
theorem gX12_knows_X12_in : GoodIn wsX12_knows (va_wsS RX12 136 yX12_in wsX12_in) := goodIn_app (goodIn_r2 csX12_knows ciX12_knows _ [(1, 9), (1, 10), (1, 6)] rfl rfl) ggX12_knows_X12_in
noncomputable def csX8_sumOf : List (List Cond) := [[.code yX8_sumOf cX8_sumOf 3 (some .int)], [.constant RX8 86 (104729), .fieldLink RX8 15 "SeatsRound$Table" "turn" "I", .fieldLink RX8 37 "SeatsRound$Table" "weight" "[I", .static yX11_strewn, .initialized RX11, .code yX11_strewn cX11_strewn 1 (some .int), .constant RX11 423 (1103515245)], wsX80]
set_option maxRecDepth 20000 in
theorem ciX8_sumOf : ∀ l ∈ csX8_sumOf, ∀ w ∈ l, w ∈ wsX8_sumOf := by
  unfold csX8_sumOf
  refine List.forall_mem_cons.mpr ⟨fun _ h => List.mem_cons.mpr (Or.inl (List.mem_singleton.mp h)), List.forall_mem_cons.mpr ⟨fun _ h => List.mem_cons_of_mem _ (List.mem_append_left _ h), List.forall_mem_cons.mpr ⟨fun _ h => List.mem_cons_of_mem _ (List.mem_append_right _ h), fun l h => absurd h List.not_mem_nil⟩⟩⟩
set_option maxRecDepth 20000 in
theorem ggX8_sumOf_X11_strewn : GoodIn wsX8_sumOf wsX11_strewn := goodIn_r2 csX8_sumOf ciX8_sumOf _ [(1, 5), (1, 6)] rfl rfl
set_option maxRecDepth 20000 in
theorem gX8_sumOf_X11_strewn_n87 : GoodIn wsX8_sumOf (wsX11_strewn) := ggX8_sumOf_X11_strewn
