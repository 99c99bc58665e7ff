set_option maxRecDepth 20000 in
theorem ggX11_read_X6_greatestFor : GoodIn wsX11_read wsX6_greatestFor := goodIn_r2 csX11_read ciX11_read _ [(2, 9), (2, 10), (2, 11), (2, 12), (2, 13), (2, 14), (2, 15), (2, 16), (2, 17), (2, 18), (2, 19), (2, 20), (2, 21), (2, 22), (2, 23), (1, 13), (3, 0), (3, 1), (3, 2), (3, 3), (3, 4), (3, 5), (3, 6), (3, 7), (3, 8), (3, 9), (3, 10), (3, 11), (3, 12), (3, 13), (3, 14), (3, 15), (3, 16), (3, 17), (3, 18), (3, 19), (3, 20), (3, 21), (3, 22), (3, 23), (4, 0), (4, 1), (4, 2), (4, 3), (4, 4), (4, 5), (4, 6), (4, 7), (4, 8), (4, 9), (4, 10), (4, 11), (4, 12), (4, 13), (4, 14), (4, 15), (4, 16), (4, 17), (1, 19), (4, 18), (4, 19), (4, 20), (4, 21), (4, 22), (4, 23), (5, 0), (5, 1), (5, 2), (5, 3), (5, 4), (5, 5), (5, 6), (5, 7), (5, 8), (5, 9), (5, 10), (5, 11), (5, 12), (5, 13), (5, 14), (5, 15), (5, 16), (5, 17), (5, 18), (5, 19), (5, 20), (5, 21), (5, 22), (5, 23), (6, 0), (6, 1), (6, 2), (6, 3), (6, 4), (6, 5), (6, 6), (2, 0), (2, 1), (1, 7), (2, 2), (2, 3), (2, 4), (10, 0), (10, 1), (10, 2), (10, 3), (10, 4), (10, 5), (10, 6), (10, 7), (10, 8), (10, 9), (10, 10), (10, 11), (11, 0), (11, 1), (11, 2), (11, 3), (11, 4), (11, 5), (11, 6), (11, 7), (11, 8), (11, 9), (11, 10), (11, 11), (11, 12), (12, 0), (12, 1), (12, 2), (12, 3), (12, 4), (12, 5), (12, 6), (12, 7), (12, 8), (9, 0), (9, 1), (9, 2), (9, 3), (8, 0), (8, 1), (8, 2), (8, 3), (8, 4), (8, 5)] rfl rfl
set_option maxRecDepth 20000 in
theorem gX11_read_X6_greatestFor : GoodIn wsX11_read (wsV RX11 274 RX6 yX6_greatestFor wsX6_greatestFor) := goodIn_app (goodIn_r2 csX11_read ciX11_read _ [(2, 5), (2, 6), (2, 7), (2, 8)] rfl rfl) ggX11_read_X6_greatestFor
set_option maxRecDepth 20000 in
theorem ggX12_moves_X12_chooseName : GoodIn wsX12_moves wsX12_chooseName := goodIn_r2 csX12_moves ciX12_moves _ [(1, 20), (1, 21), (1, 22), (1, 23), (2, 0), (1, 6), (2, 1), (2, 2), (2, 3), (2, 4), (2, 5), (2, 6), (2, 7), (2, 8), (2, 9), (2, 10), (2, 11), (2, 12), (2, 13), (2, 14), (2, 15), (2, 16), (2, 17), (2, 18), (1, 16), (2, 19), (2, 20), (2, 21), (2, 22), (2, 23), (1, 0), (1, 1), (3, 0), (3, 1), (3, 2), (3, 3), (3, 4), (1, 12), (1, 13), (1, 14), (1, 15), (3, 5), (3, 6), (3, 7), (3, 8), (3, 9), (3, 10), (3, 11), (3, 12), (3, 13), (3, 14), (3, 15), (3, 16), (3, 17), (3, 18), (5, 0), (5, 1), (5, 2), (5, 3), (5, 4), (5, 5), (5, 6), (5, 7), (5, 8), (5, 9), (5, 10), (5, 11), (5, 12), (5, 13), (5, 14), (5, 15), (5, 16), (5, 17), (5, 18), (5, 19), (5, 20), (5, 21), (5, 22), (5, 23), (5, 24), (5, 25), (5, 26), (5, 27), (5, 28), (5, 29), (5, 30), (5, 31), (5, 32), (5, 33), (5, 34), (5, 35), (5, 36), (5, 37), (5, 38), (5, 39), (5, 40), (5, 41), (5, 42), (5, 43), (5, 44), (5, 45), (5, 46), (5, 47), (5, 48), (5, 49), (5, 50), (5, 51), (5, 52), (5, 53), (5, 54), (5, 55), (5, 56), (5, 57), (5, 58)] rfl rfl
set_option maxRecDepth 20000 in
theorem gX12_moves_X12_chooseName : GoodIn wsX12_moves (wsV RX12 269 RX12 yX12_chooseName wsX12_chooseName) := goodIn_app (goodIn_r2 csX12_moves ciX12_moves _ [(1, 17), (1, 18), (1, 19), (1, 6)] rfl rfl) ggX12_moves_X12_chooseName
set_option maxRecDepth 20000 in
theorem ggX6_greatestFor_X1_choose : GoodIn wsX6_greatestFor wsX1_choose := goodIn_r2 csX6_greatestFor ciX6_greatestFor _ [(1, 23), (2, 0), (2, 1), (2, 2), (2, 3), (2, 4), (2, 5), (2, 6), (2, 7), (1, 9), (2, 8), (2, 9), (2, 10), (2, 11), (2, 12), (2, 13), (2, 14), (1, 22), (2, 15), (2, 16), (2, 17), (2, 18), (2, 19), (2, 20), (2, 21), (2, 22), (2, 23), (3, 0), (3, 1), (3, 2), (3, 3), (3, 4), (3, 5), (3, 6), (3, 7), (3, 8), (3, 9), (3, 10), (3, 11), (3, 12), (3, 13), (3, 14), (3, 15), (3, 16), (3, 17), (3, 18), (3, 19), (3, 20), (3, 21), (3, 22), (3, 23), (4, 0), (4, 1), (4, 2), (4, 3), (4, 4), (4, 5), (4, 6), (4, 7), (4, 8), (4, 9), (4, 10), (4, 11), (4, 12), (4, 13), (4, 14), (4, 15), (4, 16), (4, 17), (4, 18), (4, 19), (4, 20), (4, 21), (8, 0), (8, 1), (8, 2), (8, 3), (8, 4), (8, 5), (8, 6), (8, 7), (8, 8), (7, 0), (7, 1), (7, 2), (7, 3), (7, 4), (7, 5), (7, 6), (7, 7), (7, 8), (7, 9), (7, 10), (7, 11), (7, 12), (10, 0), (10, 1), (10, 2), (10, 3), (10, 4), (10, 5)] rfl rfl
set_option maxRecDepth 20000 in
theorem gX6_greatestFor_X1_choose : GoodIn wsX6_greatestFor (wsV RX6 65 RX1 yX1_choose wsX1_choose) := goodIn_app (goodIn_r2 csX6_greatestFor ciX6_greatestFor _ [(1, 19), (1, 20), (1, 21), (1, 22)] rfl rfl) ggX6_greatestFor_X1_choose
set_option maxRecDepth 20000 in
theorem ggX6_spread_X1_choose : GoodIn wsX6_spread wsX1_choose := goodIn_r2 csX6_spread ciX6_spread _ [(1, 19), (1, 20), (1, 21), (1, 22), (1, 23), (2, 0), (2, 1), (2, 2), (2, 3), (2, 4), (2, 5), (2, 6), (2, 7), (2, 8), (2, 9), (2, 10), (2, 11), (1, 18), (2, 12), (2, 13), (2, 14), (2, 15), (2, 16), (2, 17), (2, 18), (2, 19), (2, 20), (2, 21), (2, 22), (2, 23), (3, 0), (3, 1), (3, 2), (3, 3), (3, 4), (3, 5), (3, 6), (3, 7), (3, 8), (3, 9), (3, 10), (3, 11), (3, 12), (3, 13), (3, 14), (3, 15), (3, 16), (3, 17), (3, 18), (3, 19), (3, 20), (3, 21), (3, 22), (3, 23), (4, 0), (4, 1), (4, 2), (4, 3), (4, 4), (4, 5), (4, 6), (4, 7), (4, 8), (4, 9), (4, 10), (4, 11), (4, 12), (4, 13), (4, 14), (4, 15), (4, 16), (4, 17), (4, 18), (9, 0), (9, 1), (9, 2), (9, 3), (9, 4), (9, 5), (9, 6), (9, 7), (9, 8), (8, 0), (8, 1), (8, 2), (8, 3), (8, 4), (8, 5), (8, 6), (8, 7), (8, 8), (8, 9), (8, 10), (8, 11), (8, 12), (11, 0), (11, 1), (11, 2), (11, 3), (11, 4), (11, 5)] rfl rfl
set_option maxRecDepth 20000 in
theorem gX6_spread_X1_choose : GoodIn wsX6_spread (wsV RX6 65 RX1 yX1_choose wsX1_choose) := goodIn_app (goodIn_r2 csX6_spread ciX6_spread _ [(1, 15), (1, 16), (1, 17), (1, 18)] rfl rfl) ggX6_spread_X1_choose
noncomputable def csX12_keepsFrom : List (List Cond) := [[.code yX12_keepsFrom cX12_keepsFrom 5 (some .int)], [.fieldLink RX12 22 "SeatsRoundModel" "kind" "[I", .methodLink RX12 337 yX12_begins, .instanceMethod yX12_begins, .selects RX12 yX12_begins yX12_begins, .initialized RX12, .code yX12_begins cX12_begins 2 none, .fieldLink RX12 334 "SeatsRoundModel" "bodies" "I", .fieldLink RX12 99 "SeatsRoundModel" "trace" "[I", .methodLink RX12 340 yX12_findsFrom, .instanceMethod yX12_findsFrom, .selects RX12 yX12_findsFrom yX12_findsFrom, .code yX12_findsFrom cX12_findsFrom 4 (some .int), .fieldLink RX12 19 "SeatsRoundModel" "strength" "[I", .methodLink RX12 343 yX12_aboveOf, .static yX12_aboveOf, .code yX12_aboveOf cX12_aboveOf 1 (some .int), .methodLink RX12 346 yX12_keepsFrom, .instanceMethod yX12_keepsFrom, .selects RX12 yX12_keepsFrom yX12_keepsFrom, .methodLink RX12 349 yX12_movesFrom, .instanceMethod yX12_movesFrom, .selects RX12 yX12_movesFrom yX12_movesFrom, .code yX12_movesFrom cX12_movesFrom 5 (some .int)], wsX120]
set_option maxRecDepth 20000 in
theorem ciX12_keepsFrom : ∀ l ∈ csX12_keepsFrom, ∀ w ∈ l, w ∈ wsX12_keepsFrom := by
  unfold csX12_keepsFrom
  refine List.forall_mem_cons.mpr ⟨fun _ h => List.mem_cons.mpr (Or.inl (List.mem_singleton.mp h)), List.forall_mem_cons.mpr ⟨fun _ h => List.mem_cons_of_mem _ (List.mem_append_left _ h), List.forall_mem_cons.mpr ⟨fun _ h => List.mem_cons_of_mem _ (List.mem_append_right _ h), fun l h => absurd h List.not_mem_nil⟩⟩⟩
set_option maxRecDepth 20000 in
theorem ggX12_keepsFrom_X12_keepsFrom : GoodIn wsX12_keepsFrom wsX12_keepsFrom := goodIn_r2 csX12_keepsFrom ciX12_keepsFrom _ [(0, 0), (1, 0), (1, 1), (1, 2), (1, 3), (1, 4), (1, 5), (1, 6), (1, 7), (1, 8), (1, 9), (1, 10), (1, 11), (1, 12), (1, 13), (1, 14), (1, 15), (1, 16), (1, 17), (1, 18), (1, 19), (1, 20), (1, 21), (1, 22), (2, 0), (2, 1), (2, 2), (2, 3), (2, 4), (2, 5), (2, 6), (2, 7), (2, 8), (2, 9), (2, 10), (2, 11), (2, 12), (2, 13), (2, 14), (2, 15), (2, 16), (2, 17), (2, 18), (2, 19), (2, 20), (2, 21), (2, 22), (2, 23), (2, 24), (2, 25), (2, 26), (2, 27), (2, 28), (2, 29), (2, 30), (2, 31), (2, 32), (2, 33), (2, 34), (2, 35), (2, 36), (2, 37), (2, 38), (2, 39), (2, 40), (2, 41), (2, 42), (2, 43), (2, 44), (2, 45), (2, 46), (2, 47), (2, 48), (2, 49), (2, 50), (2, 51), (2, 52), (2, 53), (2, 54), (2, 55), (2, 56), (2, 57), (2, 58)] rfl rfl
set_option maxRecDepth 20000 in
theorem gX12_keepsFrom_X12_keepsFrom : GoodIn wsX12_keepsFrom (wsV RX12 346 RX12 yX12_keepsFrom wsX12_keepsFrom) := goodIn_app (goodIn_r2 csX12_keepsFrom ciX12_keepsFrom _ [(1, 16), (1, 17), (1, 18), (1, 4)] rfl rfl) ggX12_keepsFrom_X12_keepsFrom
set_option maxRecDepth 20000 in
theorem ggX12_movesFrom_X12_movesFrom : GoodIn wsX12_movesFrom wsX12_movesFrom := goodIn_r2 csX12_movesFrom ciX12_movesFrom _ [(0, 0), (1, 0), (1, 1), (1, 2), (1, 3), (1, 4), (1, 5), (1, 6), (1, 7), (1, 8), (1, 9), (1, 10), (1, 11), (1, 12), (1, 13), (1, 14), (1, 15), (1, 16), (1, 17), (1, 18), (2, 0), (2, 1), (2, 2), (2, 3), (2, 4), (2, 5), (2, 6), (2, 7), (2, 8), (2, 9), (2, 10), (2, 11), (2, 12), (2, 13), (2, 14), (2, 15), (2, 16), (2, 17), (2, 18), (2, 19), (2, 20), (2, 21), (2, 22), (2, 23), (2, 24), (2, 25), (2, 26), (2, 27), (2, 28), (2, 29), (2, 30), (2, 31), (2, 32), (2, 33), (2, 34), (2, 35), (2, 36), (2, 37), (2, 38), (2, 39), (2, 40), (2, 41), (2, 42), (2, 43), (2, 44), (2, 45), (2, 46), (2, 47), (2, 48), (2, 49), (2, 50), (2, 51), (2, 52), (2, 53), (2, 54), (2, 55), (2, 56), (2, 57), (2, 58)] rfl rfl
set_option maxRecDepth 20000 in
theorem gX12_movesFrom_X12_movesFrom : GoodIn wsX12_movesFrom (wsV RX12 349 RX12 yX12_movesFrom wsX12_movesFrom) := goodIn_app (goodIn_r2 csX12_movesFrom ciX12_movesFrom _ [(1, 8), (1, 9), (1, 10), (1, 4)] rfl rfl) ggX12_movesFrom_X12_movesFrom
set_option maxRecDepth 20000 in
theorem ggX12_write_X12_keeps : GoodIn wsX12_write wsX12_keeps := goodIn_r2 csX12_write ciX12_write _ [(4, 15), (2, 18), (2, 20), (4, 16), (4, 17), (1, 22), (1, 23), (2, 0), (1, 11), (2, 1), (1, 6), (1, 5), (6, 0), (6, 1), (6, 2), (6, 3), (6, 4), (6, 5), (6, 6), (6, 7), (6, 8), (6, 9), (6, 10), (6, 11), (6, 12), (6, 13), (6, 14), (6, 15), (6, 16), (6, 17), (6, 18), (6, 19), (6, 20), (6, 21), (6, 22), (6, 23), (6, 24), (6, 25), (6, 26), (6, 27), (6, 28), (6, 29), (6, 30), (6, 31), (6, 32), (6, 33), (6, 34), (6, 35), (6, 36), (6, 37), (6, 38), (6, 39), (6, 40), (6, 41), (6, 42), (6, 43), (6, 44), (6, 45), (6, 46), (6, 47), (6, 48), (6, 49), (6, 50), (6, 51), (6, 52), (6, 53), (6, 54), (6, 55), (6, 56), (6, 57), (6, 58)] rfl rfl
set_option maxRecDepth 20000 in
theorem gX12_write_X12_keeps : GoodIn wsX12_write (wsV RX12 293 RX12 yX12_keeps wsX12_keeps) := goodIn_app (goodIn_r2 csX12_write ciX12_write _ [(4, 12), (4, 13), (4, 14), (1, 11)] rfl rfl) ggX12_write_X12_keeps
set_option maxRecDepth 20000 in
theorem ggX12_tries_X12_sits : GoodIn wsX12_tries wsX12_sits := goodIn_r2 csX12_tries ciX12_tries _ [(3, 19), (3, 20), (3, 21), (1, 4), (1, 5), (1, 1), (1, 8), (1, 9), (1, 10), (1, 11), (1, 12), (1, 0), (3, 22), (3, 23), (4, 0), (4, 1), (4, 2), (5, 0), (5, 1), (5, 2), (5, 3), (5, 4), (5, 5), (5, 6), (5, 7), (5, 8), (5, 9), (5, 10), (5, 11), (5, 12), (5, 13), (5, 14), (5, 15), (5, 16), (5, 17), (5, 18), (5, 19), (5, 20), (5, 21), (5, 22), (5, 23), (5, 24), (5, 25), (5, 26), (5, 27), (5, 28), (5, 29), (5, 30), (5, 31), (5, 32), (5, 33), (5, 34), (5, 35), (5, 36), (5, 37), (5, 38), (5, 39), (5, 40), (5, 41), (5, 42), (5, 43), (5, 44), (5, 45), (5, 46), (5, 47), (5, 48), (5, 49), (5, 50), (5, 51), (5, 52), (5, 53), (5, 54), (5, 55), (5, 56), (5, 57), (5, 58)] rfl rfl
set_option maxRecDepth 20000 in
theorem gX12_tries_X12_sits : GoodIn wsX12_tries (wsV RX12 237 RX12 yX12_sits wsX12_sits) := goodIn_app (goodIn_r2 csX12_tries ciX12_tries _ [(3, 16), (3, 17), (3, 18), (1, 11)] rfl rfl) ggX12_tries_X12_sits
noncomputable def csX12_pick : List (List Cond) := [[.code yX12_pick cX12_pick 5 none], wsX12_pick_r1, wsX12_pick_r2, wsX120]
set_option maxRecDepth 20000 in
theorem ciX12_pick : ∀ l ∈ csX12_pick, ∀ w ∈ l, w ∈ wsX12_pick := by
  unfold csX12_pick
  refine List.forall_mem_cons.mpr ⟨fun _ h => List.mem_cons.mpr (Or.inl (List.mem_singleton.mp h)), List.forall_mem_cons.mpr ⟨fun _ h => List.mem_cons_of_mem _ (List.mem_append_left _ (List.mem_append_left _ h)), List.forall_mem_cons.mpr ⟨fun _ h => List.mem_cons_of_mem _ (List.mem_append_left _ (List.mem_append_right _ h)), List.forall_mem_cons.mpr ⟨fun _ h => List.mem_cons_of_mem _ (List.mem_append_right _ h), fun l h => absurd h List.not_mem_nil⟩⟩⟩⟩
set_option maxRecDepth 20000 in
theorem ggX12_pick_X12_pickBest : GoodIn wsX12_pick wsX12_pickBest := goodIn_r2 csX12_pick ciX12_pick _ [(1, 8), (1, 9), (1, 10), (1, 11), (1, 3), (1, 0), (1, 12), (1, 13), (1, 7), (1, 14), (1, 15), (1, 16), (1, 17), (1, 18), (1, 19), (1, 20), (1, 1), (3, 0), (3, 1), (3, 2), (3, 3), (3, 4), (3, 5), (3, 6), (3, 7), (3, 8), (3, 9), (3, 10), (3, 11), (3, 12), (3, 13), (3, 14), (3, 15), (3, 16), (3, 17), (3, 18), (3, 19), (3, 20), (3, 21), (3, 22), (3, 23), (3, 24), (3, 25), (3, 26), (3, 27), (3, 28), (3, 29), (3, 30), (3, 31), (3, 32), (3, 33), (3, 34), (3, 35), (3, 36), (3, 37), (3, 38), (3, 39), (3, 40), (3, 41), (3, 42), (3, 43), (3, 44), (3, 45), (3, 46), (3, 47), (3, 48), (3, 49), (3, 50), (3, 51), (3, 52), (3, 53), (3, 54), (3, 55), (3, 56), (3, 57), (3, 58)] rfl rfl
set_option maxRecDepth 20000 in
theorem gX12_pick_X12_pickBest : GoodIn wsX12_pick (wsV RX12 243 RX12 yX12_pickBest wsX12_pickBest) := goodIn_app (goodIn_r2 csX12_pick ciX12_pick _ [(1, 4), (1, 5), (1, 6), (1, 7)] rfl rfl) ggX12_pick_X12_pickBest
set_option maxRecDepth 20000 in
theorem ggX12_tries_X12_countsNow : GoodIn wsX12_tries wsX12_countsNow := goodIn_r2 csX12_tries ciX12_tries _ [(1, 16), (1, 17), (1, 18), (5, 0), (5, 1), (5, 2), (5, 3), (5, 4), (5, 5), (5, 6), (5, 7), (5, 8), (5, 9), (5, 10), (5, 11), (5, 12), (5, 13), (5, 14), (5, 15), (5, 16), (5, 17), (5, 18), (5, 19), (5, 20), (5, 21), (5, 22), (5, 23), (5, 24), (5, 25), (5, 26), (5, 27), (5, 28), (5, 29), (5, 30), (5, 31), (5, 32), (5, 33), (5, 34), (5, 35), (5, 36), (5, 37), (5, 38), (5, 39), (5, 40), (5, 41), (5, 42), (5, 43), (5, 44), (5, 45), (5, 46), (5, 47), (5, 48), (5, 49), (5, 50), (5, 51), (5, 52), (5, 53), (5, 54), (5, 55), (5, 56), (5, 57), (5, 58)] rfl rfl
set_option maxRecDepth 20000 in
theorem gX12_tries_X12_countsNow : GoodIn wsX12_tries (wsV RX12 170 RX12 yX12_countsNow wsX12_countsNow) := goodIn_app (goodIn_r2 csX12_tries ciX12_tries _ [(1, 13), (1, 14), (1, 15), (1, 11)] rfl rfl) ggX12_tries_X12_countsNow
set_option maxRecDepth 20000 in
theorem ggX12_trees_X12_areUnlike : GoodIn wsX12_trees wsX12_areUnlike := goodIn_r2 csX12_trees ciX12_trees _ [(1, 16), (1, 17), (1, 18), (1, 19), (1, 3), (1, 20), (1, 21), (1, 22), (2, 0), (2, 1), (2, 2), (2, 3), (2, 4), (2, 5), (2, 6), (2, 7), (2, 8), (2, 9), (2, 10), (2, 11), (2, 12), (2, 13), (2, 14), (2, 15), (2, 16), (2, 17), (2, 18), (2, 19), (2, 20), (2, 21), (2, 22), (2, 23), (2, 24), (2, 25), (2, 26), (2, 27), (2, 28), (2, 29), (2, 30), (2, 31), (2, 32), (2, 33), (2, 34), (2, 35), (2, 36), (2, 37), (2, 38), (2, 39), (2, 40), (2, 41), (2, 42), (2, 43), (2, 44), (2, 45), (2, 46), (2, 47), (2, 48), (2, 49), (2, 50), (2, 51), (2, 52), (2, 53), (2, 54), (2, 55), (2, 56), (2, 57), (2, 58)] rfl rfl
set_option maxRecDepth 20000 in
theorem gX12_trees_X12_areUnlike : GoodIn wsX12_trees (wsV RX12 303 RX12 yX12_areUnlike wsX12_areUnlike) := goodIn_app (goodIn_r2 csX12_trees ciX12_trees _ [(1, 13), (1, 14), (1, 15), (1, 3)] rfl rfl) ggX12_trees_X12_areUnlike
set_option maxRecDepth 20000 in
theorem ggX12_number_X12_numberOf : GoodIn wsX12_number wsX12_numberOf := goodIn_r2 csX12_number ciX12_number _ [(1, 12), (1, 13), (1, 14), (1, 15), (2, 0), (2, 1), (2, 2), (2, 3), (2, 4), (2, 5), (2, 6), (2, 7), (2, 8), (2, 9), (2, 10), (2, 11), (2, 12), (2, 13), (2, 14), (2, 15), (2, 16), (2, 17), (2, 18), (2, 19), (2, 20), (2, 21), (2, 22), (2, 23), (2, 24), (2, 25), (2, 26), (2, 27), (2, 28), (2, 29), (2, 30), (2, 31), (2, 32), (2, 33), (2, 34), (2, 35), (2, 36), (2, 37), (2, 38), (2, 39), (2, 40), (2, 41), (2, 42), (2, 43), (2, 44), (2, 45), (2, 46), (2, 47), (2, 48), (2, 49), (2, 50), (2, 51), (2, 52), (2, 53), (2, 54), (2, 55), (2, 56), (2, 57), (2, 58)] rfl rfl
set_option maxRecDepth 20000 in
theorem gX12_number_X12_numberOf : GoodIn wsX12_number (wsV RX12 162 RX12 yX12_numberOf wsX12_numberOf) := goodIn_app (goodIn_r2 csX12_number ciX12_number _ [(1, 9), (1, 10), (1, 11), (1, 3)] rfl rfl) ggX12_number_X12_numberOf
set_option maxRecDepth 20000 in
theorem ggX12_keepsFrom_X12_begins : GoodIn wsX12_keepsFrom wsX12_begins := goodIn_r2 csX12_keepsFrom ciX12_keepsFrom _ [(1, 5), (1, 6), (1, 7), (2, 0), (2, 1), (2, 2), (2, 3), (2, 4), (2, 5), (2, 6), (2, 7), (2, 8), (2, 9), (2, 10), (2, 11), (2, 12), (2, 13), (2, 14), (2, 15), (2, 16), (2, 17), (2, 18), (2, 19), (2, 20), (2, 21), (2, 22), (2, 23), (2, 24), (2, 25), (2, 26), (2, 27), (2, 28), (2, 29), (2, 30), (2, 31), (2, 32), (2, 33), (2, 34), (2, 35), (2, 36), (2, 37), (2, 38), (2, 39), (2, 40), (2, 41), (2, 42), (2, 43), (2, 44), (2, 45), (2, 46), (2, 47), (2, 48), (2, 49), (2, 50), (2, 51), (2, 52), (2, 53), (2, 54), (2, 55), (2, 56), (2, 57), (2, 58)] rfl rfl
set_option maxRecDepth 20000 in
theorem gX12_keepsFrom_X12_begins : GoodIn wsX12_keepsFrom (wsV RX12 337 RX12 yX12_begins wsX12_begins) := goodIn_app (goodIn_r2 csX12_keepsFrom ciX12_keepsFrom _ [(1, 1), (1, 2), (1, 3), (1, 4)] rfl rfl) ggX12_keepsFrom_X12_begins
set_option maxRecDepth 20000 in
theorem ggX12_one_X12_eats : GoodIn wsX12_one wsX12_eats := goodIn_r2 csX12_one ciX12_one _ [(2, 0), (1, 0), (1, 1), (1, 7), (1, 8), (1, 9), (1, 10), (1, 11), (1, 12), (1, 13), (1, 14), (3, 0), (3, 1), (3, 2), (3, 3), (3, 4), (3, 5), (3, 6), (3, 7), (3, 8), (3, 9), (3, 10), (3, 11), (3, 12), (3, 13), (3, 14), (3, 15), (3, 16), (3, 17), (3, 18), (3, 19), (3, 20), (3, 21), (3, 22), (3, 23), (3, 24), (3, 25), (3, 26), (3, 27), (3, 28), (3, 29), (3, 30), (3, 31), (3, 32), (3, 33), (3, 34), (3, 35), (3, 36), (3, 37), (3, 38), (3, 39), (3, 40), (3, 41), (3, 42), (3, 43), (3, 44), (3, 45), (3, 46), (3, 47), (3, 48), (3, 49), (3, 50), (3, 51), (3, 52), (3, 53), (3, 54), (3, 55), (3, 56), (3, 57), (3, 58)] rfl rfl
set_option maxRecDepth 20000 in
theorem gX12_one_X12_eats : GoodIn wsX12_one (wsV RX12 203 RX12 yX12_eats wsX12_eats) := goodIn_app (goodIn_r2 csX12_one ciX12_one _ [(1, 21), (1, 22), (1, 23), (1, 10)] rfl rfl) ggX12_one_X12_eats
set_option maxRecDepth 20000 in
theorem ggX12_name_X12_found : GoodIn wsX12_name wsX12_found := goodIn_r2 csX12_name ciX12_name _ [(1, 11), (1, 3), (1, 12), (1, 13), (1, 1), (2, 0), (2, 1), (2, 2), (2, 3), (2, 4), (2, 5), (2, 6), (2, 7), (2, 8), (2, 9), (2, 10), (2, 11), (2, 12), (2, 13), (2, 14), (2, 15), (2, 16), (2, 17), (2, 18), (2, 19), (2, 20), (2, 21), (2, 22), (2, 23), (2, 24), (2, 25), (2, 26), (2, 27), (2, 28), (2, 29), (2, 30), (2, 31), (2, 32), (2, 33), (2, 34), (2, 35), (2, 36), (2, 37), (2, 38), (2, 39), (2, 40), (2, 41), (2, 42), (2, 43), (2, 44), (2, 45), (2, 46), (2, 47), (2, 48), (2, 49), (2, 50), (2, 51), (2, 52), (2, 53), (2, 54), (2, 55), (2, 56), (2, 57), (2, 58)] rfl rfl
set_option maxRecDepth 20000 in
theorem gX12_name_X12_found : GoodIn wsX12_name (wsV RX12 149 RX12 yX12_found wsX12_found) := goodIn_app (goodIn_r2 csX12_name ciX12_name _ [(1, 8), (1, 9), (1, 10), (1, 6)] rfl rfl) ggX12_name_X12_found
set_option maxRecDepth 20000 in
theorem ggX11_ofTable_X8_unevenness : GoodIn wsX11_ofTable wsX8_unevenness := goodIn_r2 csX11_ofTable ciX11_ofTable _ [(1, 16), (1, 17), (1, 18), (1, 19), (1, 20), (1, 21), (1, 22), (1, 23), (2, 0), (2, 1), (2, 2), (2, 3), (2, 4), (1, 15), (2, 5), (2, 6), (2, 7), (2, 8), (2, 9), (2, 10), (2, 11), (2, 12), (2, 13), (2, 14), (2, 15), (2, 16), (2, 17), (2, 18), (2, 19), (2, 20), (2, 21), (2, 22), (2, 23), (3, 0), (3, 1), (1, 8), (3, 2), (3, 3), (4, 0), (4, 1), (4, 2), (4, 3), (4, 4), (4, 5), (4, 6), (4, 7), (4, 8), (4, 9), (4, 10), (4, 11), (4, 12)] rfl rfl
set_option maxRecDepth 20000 in
theorem gX11_ofTable_X8_unevenness : GoodIn wsX11_ofTable (wsV RX11 211 RX8 yX8_unevenness wsX8_unevenness) := goodIn_app (goodIn_r2 csX11_ofTable ciX11_ofTable _ [(1, 12), (1, 13), (1, 14), (1, 15)] rfl rfl) ggX11_ofTable_X8_unevenness
set_option maxRecDepth 20000 in
theorem ggX11_table_X8_seatAll : GoodIn wsX11_table wsX8_seatAll := goodIn_r2 csX11_table ciX11_table _ [(6, 19), (5, 23), (6, 3), (6, 4), (6, 8), (1, 17), (6, 20), (6, 21), (6, 22), (6, 23), (7, 0), (7, 1), (7, 2), (7, 3), (7, 4), (7, 5), (7, 6), (7, 7), (1, 10), (7, 8), (7, 9), (7, 10), (7, 11), (7, 12), (7, 13), (7, 14), (6, 10), (11, 0), (11, 1), (11, 2), (11, 3), (11, 4), (11, 5), (11, 6), (11, 7), (11, 8), (11, 9), (11, 10), (11, 11), (11, 12)] rfl rfl
set_option maxRecDepth 20000 in
theorem gX11_table_X8_seatAll : GoodIn wsX11_table (wsV RX11 189 RX8 yX8_seatAll wsX8_seatAll) := goodIn_app (goodIn_r2 csX11_table ciX11_table _ [(6, 16), (6, 17), (6, 18), (1, 10)] rfl rfl) ggX11_table_X8_seatAll
set_option maxRecDepth 20000 in
theorem ggX5_leastFrom_X5_leastOnward : GoodIn wsX5_leastFrom wsX5_leastOnward := goodIn_r2 csX5_leastFrom ciX5_leastFrom _ [(10, 10), (1, 0), (10, 11), (10, 12), (10, 13), (1, 5), (10, 14), (1, 1), (1, 13), (1, 14), (1, 16), (10, 15), (4, 7), (4, 8), (4, 9), (4, 10), (4, 11), (4, 12), (12, 0), (12, 1), (12, 2), (12, 3), (12, 4), (12, 5), (12, 6), (12, 7), (12, 8), (12, 9), (14, 0), (14, 1), (14, 2), (14, 3)] rfl rfl
set_option maxRecDepth 20000 in
theorem gX5_leastFrom_X5_leastOnward : GoodIn wsX5_leastFrom (wsV RX5 53 RX5 yX5_leastOnward wsX5_leastOnward) := goodIn_app (goodIn_r2 csX5_leastFrom ciX5_leastFrom _ [(10, 7), (10, 8), (10, 9), (1, 5)] rfl rfl) ggX5_leastFrom_X5_leastOnward
set_option maxRecDepth 20000 in
theorem ggX1_pick_X1_pickRound : GoodIn wsX1_pick wsX1_pickRound := goodIn_r2 csX1_pick ciX1_pick _ [(2, 23), (2, 7), (1, 1), (1, 8), (2, 8), (2, 9), (2, 10), (2, 11), (2, 12), (1, 6), (2, 13), (2, 14), (2, 15), (2, 16), (2, 17), (1, 0), (1, 10), (2, 18), (1, 20), (2, 19), (4, 0), (4, 1), (4, 2), (4, 3), (4, 4), (4, 5), (4, 6), (4, 7), (4, 8), (4, 9), (4, 10), (4, 11), (4, 12), (3, 0), (3, 1), (3, 2), (3, 3), (3, 4), (3, 5), (3, 6), (3, 7), (3, 8)] rfl rfl
set_option maxRecDepth 20000 in
theorem gX1_pick_X1_pickRound : GoodIn wsX1_pick (wsV RX1 53 RX1 yX1_pickRound wsX1_pickRound) := goodIn_app (goodIn_r2 csX1_pick ciX1_pick _ [(2, 20), (2, 21), (2, 22), (1, 6)] rfl rfl) ggX1_pick_X1_pickRound
set_option maxRecDepth 20000 in
theorem ggX0_tellsFrom_X0_tellsFrom : GoodIn wsX0_tellsFrom wsX0_tellsFrom := goodIn_r2 csX0_tellsFrom ciX0_tellsFrom _ [(0, 0), (1, 0), (1, 1), (1, 2), (1, 3), (1, 4), (1, 5), (1, 6), (1, 7), (1, 8), (1, 9), (1, 10), (1, 11), (1, 12), (1, 13), (1, 14), (1, 15), (1, 16), (1, 17), (1, 18), (1, 19), (1, 20), (1, 21), (1, 22), (1, 23), (2, 0), (3, 0), (3, 1), (3, 2), (3, 3), (3, 4)] rfl rfl
set_option maxRecDepth 20000 in
theorem gX0_tellsFrom_X0_tellsFrom : GoodIn wsX0_tellsFrom (wsV RX0 38 RX0 yX0_tellsFrom wsX0_tellsFrom) := goodIn_app (goodIn_r2 csX0_tellsFrom ciX0_tellsFrom _ [(1, 8), (1, 9), (1, 10), (1, 4)] rfl rfl) ggX0_tellsFrom_X0_tellsFrom
noncomputable def csX6_receives : List (List Cond) := [[.code yX6_receives cX6_receives 4 (some .boolean)], [.methodLink RX6 97 yX6_hasRoom, .instanceMethod yX6_hasRoom, .selects RX6 yX6_hasRoom yX6_hasRoom, .initialized RX6, .code yX6_hasRoom cX6_hasRoom 3 (some .boolean), .fieldLink RX6 42 "SeatsRound$Parcels" "keepers" "LSeatsRound$Keepers;", .fieldLink RX6 87 "SeatsRound$Keepers" "kind" "[I", .fieldLink RX6 11 "SeatsRound$Parcels" "version" "[[I", .methodLink RX6 103 yX6_copiesOn, .instanceMethod yX6_copiesOn, .selects RX6 yX6_copiesOn yX6_copiesOn, .code yX6_copiesOn cX6_copiesOn 2 (some .int), .methodLink RX6 141 yX6_filled, .static yX6_filled, .code yX6_filled cX6_filled 6 (some .int), .methodLink RX6 100 yX6_takesGreater, .instanceMethod yX6_takesGreater, .selects RX6 yX6_takesGreater yX6_takesGreater, .code yX6_takesGreater cX6_takesGreater 4 (some .boolean)], wsX60, wsX20]
set_option maxRecDepth 20000 in
theorem ciX6_receives : ∀ l ∈ csX6_receives, ∀ w ∈ l, w ∈ wsX6_receives := by
  unfold csX6_receives
  refine List.forall_mem_cons.mpr ⟨fun _ h => List.mem_cons.mpr (Or.inl (List.mem_singleton.mp h)), List.forall_mem_cons.mpr ⟨fun _ h => List.mem_cons_of_mem _ (List.mem_append_left _ (List.mem_append_left _ h)), List.forall_mem_cons.mpr ⟨fun _ h => List.mem_cons_of_mem _ (List.mem_append_left _ (List.mem_append_right _ h)), List.forall_mem_cons.mpr ⟨fun _ h => List.mem_cons_of_mem _ (List.mem_append_right _ h), fun l h => absurd h List.not_mem_nil⟩⟩⟩⟩
set_option maxRecDepth 20000 in
theorem ggX6_receives_X6_hasRoom : GoodIn wsX6_receives wsX6_hasRoom := goodIn_r2 csX6_receives ciX6_receives _ [(1, 4), (1, 5), (1, 6), (1, 7), (1, 8), (1, 9), (1, 10), (1, 3), (1, 11), (1, 12), (1, 13), (1, 14), (2, 0), (2, 1), (2, 2), (2, 3), (2, 4), (2, 5), (2, 6), (2, 7), (2, 8), (2, 9), (2, 10), (2, 11), (3, 0), (3, 1), (3, 2), (3, 3), (3, 4), (3, 5)] rfl rfl
set_option maxRecDepth 20000 in
theorem gX6_receives_X6_hasRoom : GoodIn wsX6_receives (wsV RX6 97 RX6 yX6_hasRoom wsX6_hasRoom) := goodIn_app (goodIn_r2 csX6_receives ciX6_receives _ [(1, 0), (1, 1), (1, 2), (1, 3)] rfl rfl) ggX6_receives_X6_hasRoom
noncomputable def csX8_takeAll : List (List Cond) := [[.code yX8_takeAll cX8_takeAll 2 none], [.fieldLink RX8 9 "SeatsRound$Table" "members" "I", .fieldLink RX8 37 "SeatsRound$Table" "weight" "[I", .methodLink RX8 70 arraycopyName, .native arraycopyName, .static arraycopyName, .initialized "java/lang/System", .fieldLink RX8 44 "SeatsRound$Table" "law" "[B", .fieldLink RX8 30 "SeatsRound$Table" "lawLength" "I", .fieldLink RX8 18 "SeatsRound$Table" "copies" "I", .fieldLink RX8 21 "SeatsRound$Table" "streets" "I", .fieldLink RX8 24 "SeatsRound$Table" "way" "I", .methodLink RX8 76 yX8_takeLaw, .instanceMethod yX8_takeLaw, .selects RX8 yX8_takeLaw yX8_takeLaw, .initialized RX8, .code yX8_takeLaw cX8_takeLaw 3 none, .methodLink RX8 61 Lib.Math.min.name, .static Lib.Math.min.name, .initialized "java/lang/Math", .code Lib.Math.min.name Lib.Math.min.code 2 (some .int), .methodLink RX8 67 Lib.Math.max.name, .static Lib.Math.max.name, .code Lib.Math.max.name Lib.Math.max.code 2 (some .int)], wsX80]
set_option maxRecDepth 20000 in
theorem ciX8_takeAll : ∀ l ∈ csX8_takeAll, ∀ w ∈ l, w ∈ wsX8_takeAll := by
  unfold csX8_takeAll
  refine List.forall_mem_cons.mpr ⟨fun _ h => List.mem_cons.mpr (Or.inl (List.mem_singleton.mp h)), List.forall_mem_cons.mpr ⟨fun _ h => List.mem_cons_of_mem _ (List.mem_append_left _ h), List.forall_mem_cons.mpr ⟨fun _ h => List.mem_cons_of_mem _ (List.mem_append_right _ h), fun l h => absurd h List.not_mem_nil⟩⟩⟩
set_option maxRecDepth 20000 in
theorem ggX8_takeAll_X8_takeLaw : GoodIn wsX8_takeAll wsX8_takeLaw := goodIn_r2 csX8_takeAll ciX8_takeAll _ [(1, 15), (1, 16), (1, 17), (1, 18), (1, 19), (1, 20), (1, 21), (1, 22), (1, 7), (1, 6), (1, 2), (1, 3), (1, 4), (1, 5), (2, 0), (2, 1), (2, 2), (2, 3), (2, 4), (2, 5), (2, 6), (2, 7), (2, 8), (2, 9), (2, 10), (2, 11), (2, 12)] rfl rfl
set_option maxRecDepth 20000 in
theorem gX8_takeAll_X8_takeLaw : GoodIn wsX8_takeAll (wsV RX8 76 RX8 yX8_takeLaw wsX8_takeLaw) := goodIn_app (goodIn_r2 csX8_takeAll ciX8_takeAll _ [(1, 11), (1, 12), (1, 13), (1, 14)] rfl rfl) ggX8_takeAll_X8_takeLaw
set_option maxRecDepth 20000 in
theorem ggX6_receives_X6_takesGreater : GoodIn wsX6_receives wsX6_takesGreater := goodIn_r2 csX6_receives ciX6_receives _ [(1, 18), (1, 7), (2, 0), (2, 1), (2, 2), (2, 3), (2, 4), (2, 5), (2, 6), (2, 7), (2, 8), (2, 9), (2, 10), (2, 11)] rfl rfl
set_option maxRecDepth 20000 in
theorem gX6_receives_X6_takesGreater : GoodIn wsX6_receives (wsV RX6 100 RX6 yX6_takesGreater wsX6_takesGreater) := goodIn_app (goodIn_r2 csX6_receives ciX6_receives _ [(1, 15), (1, 16), (1, 17), (1, 3)] rfl rfl) ggX6_receives_X6_takesGreater
noncomputable def csX0_findsFrom : List (List Cond) := [[.code yX0_findsFrom cX0_findsFrom 3 (some .int)], [.fieldLink RX0 25 "SeatsRound$Acts" "strength" "I", .fieldLink RX0 22 "SeatsRound$Acts" "number" "I", .methodLink RX0 41 yX0_begin, .instanceMethod yX0_begin, .selects RX0 yX0_begin yX0_begin, .initialized RX0, .code yX0_begin cX0_begin 2 none, .fieldLink RX0 15 "SeatsRound$Acts" "ran" "I", .fieldLink RX0 9 "SeatsRound$Acts" "bodies" "[I", .methodLink RX0 28 yX0_findsFrom, .instanceMethod yX0_findsFrom, .selects RX0 yX0_findsFrom yX0_findsFrom], wsX00]
set_option maxRecDepth 20000 in
theorem ciX0_findsFrom : ∀ l ∈ csX0_findsFrom, ∀ w ∈ l, w ∈ wsX0_findsFrom := by
  unfold csX0_findsFrom
  refine List.forall_mem_cons.mpr ⟨fun _ h => List.mem_cons.mpr (Or.inl (List.mem_singleton.mp h)), List.forall_mem_cons.mpr ⟨fun _ h => List.mem_cons_of_mem _ (List.mem_append_left _ h), List.forall_mem_cons.mpr ⟨fun _ h => List.mem_cons_of_mem _ (List.mem_append_right _ h), fun l h => absurd h List.not_mem_nil⟩⟩⟩
set_option maxRecDepth 20000 in
theorem ggX0_findsFrom_X0_findsFrom : GoodIn wsX0_findsFrom wsX0_findsFrom := goodIn_r2 csX0_findsFrom ciX0_findsFrom _ [(0, 0), (1, 0), (1, 1), (1, 2), (1, 3), (1, 4), (1, 5), (1, 6), (1, 7), (1, 8), (1, 9), (1, 10), (1, 11), (2, 0), (2, 1), (2, 2), (2, 3), (2, 4)] rfl rfl
set_option maxRecDepth 20000 in
theorem gX0_findsFrom_X0_findsFrom : GoodIn wsX0_findsFrom (wsV RX0 28 RX0 yX0_findsFrom wsX0_findsFrom) := goodIn_app (goodIn_r2 csX0_findsFrom ciX0_findsFrom _ [(1, 9), (1, 10), (1, 11), (1, 5)] rfl rfl) ggX0_findsFrom_X0_findsFrom
noncomputable def csX6_hasRoom : List (List Cond) := [[.code yX6_hasRoom cX6_hasRoom 3 (some .boolean)], [.fieldLink RX6 42 "SeatsRound$Parcels" "keepers" "LSeatsRound$Keepers;", .fieldLink RX6 87 "SeatsRound$Keepers" "kind" "[I", .fieldLink RX6 11 "SeatsRound$Parcels" "version" "[[I", .methodLink RX6 103 yX6_copiesOn, .instanceMethod yX6_copiesOn, .selects RX6 yX6_copiesOn yX6_copiesOn, .initialized RX6, .code yX6_copiesOn cX6_copiesOn 2 (some .int), .methodLink RX6 141 yX6_filled, .static yX6_filled, .code yX6_filled cX6_filled 6 (some .int)], wsX60, wsX20]
set_option maxRecDepth 20000 in
theorem ciX6_hasRoom : ∀ l ∈ csX6_hasRoom, ∀ w ∈ l, w ∈ wsX6_hasRoom := by
  unfold csX6_hasRoom
  refine List.forall_mem_cons.mpr ⟨fun _ h => List.mem_cons.mpr (Or.inl (List.mem_singleton.mp h)), List.forall_mem_cons.mpr ⟨fun _ h => List.mem_cons_of_mem _ (List.mem_append_left _ (List.mem_append_left _ h)), List.forall_mem_cons.mpr ⟨fun _ h => List.mem_cons_of_mem _ (List.mem_append_left _ (List.mem_append_right _ h)), List.forall_mem_cons.mpr ⟨fun _ h => List.mem_cons_of_mem _ (List.mem_append_right _ h), fun l h => absurd h List.not_mem_nil⟩⟩⟩⟩
set_option maxRecDepth 20000 in
theorem ggX6_hasRoom_X6_copiesOn : GoodIn wsX6_hasRoom wsX6_copiesOn := goodIn_r2 csX6_hasRoom ciX6_hasRoom _ [(1, 7), (1, 2), (1, 8), (1, 9), (1, 6), (1, 10), (2, 0), (2, 1), (2, 2), (2, 3), (2, 4), (2, 5), (2, 6), (2, 7), (2, 8), (2, 9), (2, 10), (2, 11)] rfl rfl
set_option maxRecDepth 20000 in
theorem gX6_hasRoom_X6_copiesOn : GoodIn wsX6_hasRoom (wsV RX6 103 RX6 yX6_copiesOn wsX6_copiesOn) := goodIn_app (goodIn_r2 csX6_hasRoom ciX6_hasRoom _ [(1, 3), (1, 4), (1, 5), (1, 6)] rfl rfl) ggX6_hasRoom_X6_copiesOn
set_option maxRecDepth 20000 in
theorem ggX11_tooFew_J6_bitCount_0f7a4 : GoodIn wsX11_tooFew wsJ6_bitCount_0f7a4 := goodIn_r2 csX11_tooFew ciX11_tooFew _ [(5, 3), (5, 4), (5, 5), (5, 6)] rfl rfl
set_option maxRecDepth 20000 in
theorem gX11_tooFew_J6_bitCount_0f7a4 : GoodIn wsX11_tooFew (va_wsS RX11 246 yJ6_bitCount_0f7a4 wsJ6_bitCount_0f7a4) := goodIn_app (goodIn_r2 csX11_tooFew ciX11_tooFew _ [(5, 0), (5, 1), (5, 2)] rfl rfl) ggX11_tooFew_J6_bitCount_0f7a4
noncomputable def csX10_greatestShare : List (List Cond) := [[.code yX10_greatestShare cX10_greatestShare 5 (some .int)], wsX10_greatestShare_r1, wsX10_greatestShare_r2, wsX100, wsX40, wsX80]
set_option maxRecDepth 20000 in
theorem ciX10_greatestShare : ∀ l ∈ csX10_greatestShare, ∀ w ∈ l, w ∈ wsX10_greatestShare := by
  unfold csX10_greatestShare
  refine List.forall_mem_cons.mpr ⟨fun _ h => List.mem_cons.mpr (Or.inl (List.mem_singleton.mp h)), List.forall_mem_cons.mpr ⟨fun _ h => List.mem_cons_of_mem _ (List.mem_append_left _ (List.mem_append_left _ (List.mem_append_left _ (List.mem_append_left _ h)))), List.forall_mem_cons.mpr ⟨fun _ h => List.mem_cons_of_mem _ (List.mem_append_left _ (List.mem_append_left _ (List.mem_append_left _ (List.mem_append_right _ h)))), List.forall_mem_cons.mpr ⟨fun _ h => List.mem_cons_of_mem _ (List.mem_append_left _ (List.mem_append_left _ (List.mem_append_right _ h))), List.forall_mem_cons.mpr ⟨fun _ h => List.mem_cons_of_mem _ (List.mem_append_left _ (List.mem_append_right _ h)), List.forall_mem_cons.mpr ⟨fun _ h => List.mem_cons_of_mem _ (List.mem_append_right _ h), fun l h => absurd h List.not_mem_nil⟩⟩⟩⟩⟩⟩
set_option maxRecDepth 20000 in
theorem ggX10_greatestShare_J7_fill_53178 : GoodIn wsX10_greatestShare wsJ7_fill_53178 := goodIn_r2 csX10_greatestShare ciX10_greatestShare _ [(1, 11)] rfl rfl
set_option maxRecDepth 20000 in
theorem gX10_greatestShare_J7_fill_53178 : GoodIn wsX10_greatestShare (va_wsS RX10 43 yJ7_fill_53178 wsJ7_fill_53178) := goodIn_app (goodIn_r2 csX10_greatestShare ciX10_greatestShare _ [(1, 8), (1, 9), (1, 10)] rfl rfl) ggX10_greatestShare_J7_fill_53178
noncomputable def csX3_readProduct : List (List Cond) := [[.code yX3_readProduct cX3_readProduct 6 (some .int)], wsX3_readProduct_r1, wsX3_readProduct_r2, wsX30]
set_option maxRecDepth 20000 in
theorem ciX3_readProduct : ∀ l ∈ csX3_readProduct, ∀ w ∈ l, w ∈ wsX3_readProduct := by
  unfold csX3_readProduct
  refine List.forall_mem_cons.mpr ⟨fun _ h => List.mem_cons.mpr (Or.inl (List.mem_singleton.mp h)), List.forall_mem_cons.mpr ⟨fun _ h => List.mem_cons_of_mem _ (List.mem_append_left _ (List.mem_append_left _ h)), List.forall_mem_cons.mpr ⟨fun _ h => List.mem_cons_of_mem _ (List.mem_append_left _ (List.mem_append_right _ h)), List.forall_mem_cons.mpr ⟨fun _ h => List.mem_cons_of_mem _ (List.mem_append_right _ h), fun l h => absurd h List.not_mem_nil⟩⟩⟩⟩
set_option maxRecDepth 20000 in
theorem ggX3_readProduct_X3_sign : GoodIn wsX3_readProduct wsX3_sign := goodIn_r2 csX3_readProduct ciX3_readProduct _ [(1, 9), (1, 1), (1, 10), (1, 11), (3, 0), (3, 1), (3, 2), (3, 3), (3, 4), (3, 5), (3, 6), (3, 7)] rfl rfl
set_option maxRecDepth 20000 in
theorem gX3_readProduct_X3_sign : GoodIn wsX3_readProduct (wsV RX3 62 RX3 yX3_sign wsX3_sign) := goodIn_app (goodIn_r2 csX3_readProduct ciX3_readProduct _ [(1, 6), (1, 7), (1, 8), (1, 5)] rfl rfl) ggX3_readProduct_X3_sign
set_option maxRecDepth 20000 in
theorem ggX11_comes_X5_isTold : GoodIn wsX11_comes wsX5_isTold := goodIn_r2 csX11_comes ciX11_comes _ [(1, 14), (1, 15), (1, 16), (3, 0), (3, 1), (3, 2), (3, 3), (3, 4), (3, 5), (3, 6), (3, 7), (3, 8), (3, 9)] rfl rfl
set_option maxRecDepth 20000 in
theorem gX11_comes_X5_isTold : GoodIn wsX11_comes (wsV RX11 317 RX5 yX5_isTold wsX5_isTold) := goodIn_app (goodIn_r2 csX11_comes ciX11_comes _ [(1, 10), (1, 11), (1, 12), (1, 13)] rfl rfl) ggX11_comes_X5_isTold
set_option maxRecDepth 20000 in
theorem ggX6_spread_X4_placeOf : GoodIn wsX6_spread wsX4_placeOf := goodIn_r2 csX6_spread ciX6_spread _ [(1, 11), (1, 12), (1, 13), (1, 14), (10, 0), (10, 1), (10, 2), (10, 3)] rfl rfl
set_option maxRecDepth 20000 in
theorem gX6_spread_X4_placeOf : GoodIn wsX6_spread (wsV RX6 59 RX4 yX4_placeOf wsX4_placeOf) := goodIn_app (goodIn_r2 csX6_spread ciX6_spread _ [(1, 7), (1, 8), (1, 9), (1, 10)] rfl rfl) ggX6_spread_X4_placeOf
set_option maxRecDepth 20000 in
theorem ggX0_findsFrom_X0_begin : GoodIn wsX0_findsFrom wsX0_begin := goodIn_r2 csX0_findsFrom ciX0_findsFrom _ [(1, 6), (1, 7), (1, 8), (2, 0), (2, 1), (2, 2), (2, 3), (2, 4)] rfl rfl
set_option maxRecDepth 20000 in
theorem gX0_findsFrom_X0_begin : GoodIn wsX0_findsFrom (wsV RX0 41 RX0 yX0_begin wsX0_begin) := goodIn_app (goodIn_r2 csX0_findsFrom ciX0_findsFrom _ [(1, 2), (1, 3), (1, 4), (1, 5)] rfl rfl) ggX0_findsFrom_X0_begin
set_option maxRecDepth 20000 in
theorem ggX12_keepsFrom_X12_aboveOf : GoodIn wsX12_keepsFrom wsX12_aboveOf := goodIn_r2 csX12_keepsFrom ciX12_keepsFrom _ [(1, 15)] rfl rfl
set_option maxRecDepth 20000 in
theorem gX12_keepsFrom_X12_aboveOf : GoodIn wsX12_keepsFrom (va_wsS RX12 343 yX12_aboveOf wsX12_aboveOf) := goodIn_app (goodIn_r2 csX12_keepsFrom ciX12_keepsFrom _ [(1, 13), (1, 14), (1, 4)] rfl rfl) ggX12_keepsFrom_X12_aboveOf
set_option maxRecDepth 20000 in
theorem ggX11_write_X2_isUp : GoodIn wsX11_write wsX2_isUp := goodIn_r2 csX11_write ciX11_write _ [(2, 2), (2, 3), (2, 4), (9, 0), (9, 1), (9, 2), (9, 3), (9, 4), (9, 5)] rfl rfl
set_option maxRecDepth 20000 in
theorem gX11_write_X2_isUp : GoodIn wsX11_write (wsV RX11 267 RX2 yX2_isUp wsX2_isUp) := goodIn_app (goodIn_r2 csX11_write ciX11_write _ [(1, 23), (2, 0), (2, 1), (1, 7)] rfl rfl) ggX11_write_X2_isUp
noncomputable def csX6_grow : List (List Cond) := [[.code yX6_grow cX6_grow 4 none], [.fieldLink RX6 46 "SeatsRound$Parcels" "nameList" "LSeatsRound$NameList;", .fieldLink RX6 123 "SeatsRound$NameList" "count" "I", .fieldLink RX6 11 "SeatsRound$Parcels" "version" "[[I", .methodLink RX6 124 yJ7_fill_53178, .static yJ7_fill_53178, .initialized RJ7, .code yJ7_fill_53178 cJ7_fill_53178 4 none], wsX60, wsX40]
set_option maxRecDepth 20000 in
theorem ciX6_grow : ∀ l ∈ csX6_grow, ∀ w ∈ l, w ∈ wsX6_grow := by
  unfold csX6_grow
  refine List.forall_mem_cons.mpr ⟨fun _ h => List.mem_cons.mpr (Or.inl (List.mem_singleton.mp h)), List.forall_mem_cons.mpr ⟨fun _ h => List.mem_cons_of_mem _ (List.mem_append_left _ (List.mem_append_left _ h)), List.forall_mem_cons.mpr ⟨fun _ h => List.mem_cons_of_mem _ (List.mem_append_left _ (List.mem_append_right _ h)), List.forall_mem_cons.mpr ⟨fun _ h => List.mem_cons_of_mem _ (List.mem_append_right _ h), fun l h => absurd h List.not_mem_nil⟩⟩⟩⟩
set_option maxRecDepth 20000 in
theorem ggX6_grow_J7_fill_53178 : GoodIn wsX6_grow wsJ7_fill_53178 := goodIn_r2 csX6_grow ciX6_grow _ [(1, 6)] rfl rfl
set_option maxRecDepth 20000 in
theorem gX6_grow_J7_fill_53178 : GoodIn wsX6_grow (va_wsS RX6 124 yJ7_fill_53178 wsJ7_fill_53178) := goodIn_app (goodIn_r2 csX6_grow ciX6_grow _ [(1, 3), (1, 4), (1, 5)] rfl rfl) ggX6_grow_J7_fill_53178
set_option maxRecDepth 20000 in
theorem ggX11_share_X2_has : GoodIn wsX11_share wsX2_has := goodIn_r2 csX11_share ciX11_share _ [(1, 16), (1, 17), (7, 0), (7, 1), (7, 2), (7, 3), (7, 4), (7, 5)] rfl rfl
set_option maxRecDepth 20000 in
theorem gX11_share_X2_has : GoodIn wsX11_share (wsV RX11 137 RX2 yX2_has wsX2_has) := goodIn_app (goodIn_r2 csX11_share ciX11_share _ [(1, 12), (1, 13), (1, 14), (1, 15)] rfl rfl) ggX11_share_X2_has
set_option maxRecDepth 20000 in
theorem ggX12_strength_X12_in : GoodIn wsX12_strength wsX12_in := goodIn_r2 csX12_strength ciX12_strength _ [(1, 9)] rfl rfl
set_option maxRecDepth 20000 in
theorem gX12_strength_X12_in : GoodIn wsX12_strength (va_wsS RX12 136 yX12_in wsX12_in) := goodIn_app (goodIn_r2 csX12_strength ciX12_strength _ [(1, 7), (1, 8), (1, 4)] rfl rfl) ggX12_strength_X12_in
set_option maxRecDepth 20000 in
theorem ggX12_become_X12_in : GoodIn wsX12_become wsX12_in := goodIn_r2 csX12_become ciX12_become _ [(1, 12)] rfl rfl
set_option maxRecDepth 20000 in
theorem gX12_become_X12_in : GoodIn wsX12_become (va_wsS RX12 136 yX12_in wsX12_in) := goodIn_app (goodIn_r2 csX12_become ciX12_become _ [(1, 10), (1, 11), (1, 7)] rfl rfl) ggX12_become_X12_in
set_option maxRecDepth 20000 in
theorem ggX12_share_X12_in : GoodIn wsX12_share wsX12_in := goodIn_r2 csX12_share ciX12_share _ [(1, 9)] rfl rfl
set_option maxRecDepth 20000 in
theorem gX12_share_X12_in : GoodIn wsX12_share (va_wsS RX12 136 yX12_in wsX12_in) := goodIn_app (goodIn_r2 csX12_share ciX12_share _ [(1, 7), (1, 8), (1, 4)] rfl rfl) ggX12_share_X12_in
noncomputable def csX8_freeFrom : List (List Cond) := [[.code yX8_freeFrom cX8_freeFrom 4 (some .int)], [.fieldLink RX8 48 "SeatsRound$Table" "owner" "[B", .static yX11_placeBehind, .initialized RX11, .code yX11_placeBehind cX11_placeBehind 1 (some .int)], wsX80]
set_option maxRecDepth 20000 in
theorem ciX8_freeFrom : ∀ l ∈ csX8_freeFrom, ∀ w ∈ l, w ∈ wsX8_freeFrom := by
  unfold csX8_freeFrom
  refine List.forall_mem_cons.mpr ⟨fun _ h => List.mem_cons.mpr (Or.inl (List.mem_singleton.mp h)), List.forall_mem_cons.mpr ⟨fun _ h => List.mem_cons_of_mem _ (List.mem_append_left _ h), List.forall_mem_cons.mpr ⟨fun _ h => List.mem_cons_of_mem _ (List.mem_append_right _ h), fun l h => absurd h List.not_mem_nil⟩⟩⟩
set_option maxRecDepth 20000 in
theorem ggX8_freeFrom_X11_placeBehind : GoodIn wsX8_freeFrom wsX11_placeBehind := goodIn_r2 csX8_freeFrom ciX8_freeFrom _ [(1, 3)] rfl rfl
set_option maxRecDepth 20000 in
theorem gX8_freeFrom_X11_placeBehind_n96 : GoodIn wsX8_freeFrom (wsX11_placeBehind) := ggX8_freeFrom_X11_placeBehind
