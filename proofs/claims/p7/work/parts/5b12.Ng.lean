section
set_option maxRecDepth 20000 in
theorem ggX11_order_X5_leastFrom : GoodIn wsX11_order wsX5_leastFrom := goodIn_sl csX11_order ciX11_order _ [(1, 14, 6), (1, 13, 1), (1, 20, 4), (2, 0, 24), (3, 0, 24), (4, 0, 24), (5, 0, 24), (6, 0, 24), (7, 0, 8), (1, 6, 1), (7, 8, 16), (8, 0, 24), (9, 0, 24), (10, 0, 24), (11, 0, 15), (13, 0, 10), (14, 0, 13), (15, 0, 4), (16, 0, 9), (17, 0, 6), (18, 0, 8)] rfl gw_wsX5_leastFrom
set_option maxRecDepth 20000 in
theorem gX11_order_X5_leastFrom : GoodIn wsX11_order (wsV RX11 326 RX5 yX5_leastFrom wsX5_leastFrom) := goodIn_app (goodIn_sl csX11_order ciX11_order _ [(1, 10, 4)] rfl rfl) ggX11_order_X5_leastFrom
set_option maxRecDepth 20000 in
theorem ggX11_harm_X10_leastHarm : GoodIn wsX11_harm wsX10_leastHarm := goodIn_sl csX11_harm ciX11_harm _ [(1, 14, 10), (2, 0, 24), (3, 0, 11), (1, 6, 1), (3, 11, 13), (4, 0, 3), (1, 13, 1), (4, 3, 21), (5, 0, 4), (7, 0, 5), (8, 0, 13), (9, 0, 4)] rfl gw_wsX10_leastHarm
set_option maxRecDepth 20000 in
theorem gX11_harm_X10_leastHarm : GoodIn wsX11_harm (wsV RX11 338 RX10 yX10_leastHarm wsX10_leastHarm) := goodIn_app (goodIn_sl csX11_harm ciX11_harm _ [(1, 10, 4)] rfl rfl) ggX11_harm_X10_leastHarm
noncomputable def csX12_table : List (List Cond) := [[.code yX12_table cX12_table 5 (some .int)], wsX12_table_r1, wsX12_table_r2, wsX12_table_r3, wsX12_table_r4, wsX120]
set_option maxRecDepth 20000 in
theorem ciX12_table : ∀ l ∈ csX12_table, ∀ w ∈ l, w ∈ wsX12_table := by
  unfold csX12_table
  refine List.forall_mem_cons.mpr ⟨fun _ h => List.mem_cons.mpr (Or.inl (List.mem_singleton.mp h)), List.forall_mem_cons.mpr ⟨fun _ h => List.mem_cons_of_mem _ (List.mem_append_left _ (List.mem_append_left _ h)), List.forall_mem_cons.mpr ⟨fun _ h => List.mem_cons_of_mem _ (List.mem_append_left _ (List.mem_append_right _ (List.mem_append_left _ h))), List.forall_mem_cons.mpr ⟨fun _ h => List.mem_cons_of_mem _ (List.mem_append_left _ (List.mem_append_right _ (List.mem_append_right _ (List.mem_append_left _ h)))), List.forall_mem_cons.mpr ⟨fun _ h => List.mem_cons_of_mem _ (List.mem_append_left _ (List.mem_append_right _ (List.mem_append_right _ (List.mem_append_right _ h)))), List.forall_mem_cons.mpr ⟨fun _ h => List.mem_cons_of_mem _ (List.mem_append_right _ h), fun l h => absurd h List.not_mem_nil⟩⟩⟩⟩⟩⟩
set_option maxRecDepth 20000 in
theorem ggX12_table_X12_reads : GoodIn wsX12_table wsX12_reads := goodIn_sl csX12_table ciX12_table _ [(2, 9, 8), (1, 7, 1), (2, 17, 3), (1, 14, 1), (2, 20, 1), (1, 9, 1), (2, 21, 3), (3, 0, 12), (1, 22, 2), (2, 0, 2), (3, 12, 7), (5, 0, 59)] rfl gw_wsX12_reads
set_option maxRecDepth 20000 in
theorem gX12_table_X12_reads : GoodIn wsX12_table (wsV RX12 234 RX12 yX12_reads wsX12_reads) := goodIn_app (goodIn_sl csX12_table ciX12_table _ [(2, 6, 3), (1, 14, 1)] rfl rfl) ggX12_table_X12_reads
noncomputable def csX12_tellsFrom : List (List Cond) := [[.code yX12_tellsFrom cX12_tellsFrom 5 (some .int)], wsX12_tellsFrom_r1, wsX12_tellsFrom_r2, wsX120]
set_option maxRecDepth 20000 in
theorem ciX12_tellsFrom : ∀ l ∈ csX12_tellsFrom, ∀ w ∈ l, w ∈ wsX12_tellsFrom := by
  unfold csX12_tellsFrom
  refine List.forall_mem_cons.mpr ⟨fun _ h => List.mem_cons.mpr (Or.inl (List.mem_singleton.mp h)), List.forall_mem_cons.mpr ⟨fun _ h => List.mem_cons_of_mem _ (List.mem_append_left _ (List.mem_append_left _ h)), List.forall_mem_cons.mpr ⟨fun _ h => List.mem_cons_of_mem _ (List.mem_append_left _ (List.mem_append_right _ h)), List.forall_mem_cons.mpr ⟨fun _ h => List.mem_cons_of_mem _ (List.mem_append_right _ h), fun l h => absurd h List.not_mem_nil⟩⟩⟩⟩
set_option maxRecDepth 20000 in
theorem ggX12_tellsFrom_X12_tellsFrom : GoodIn wsX12_tellsFrom wsX12_tellsFrom := goodIn_sl csX12_tellsFrom ciX12_tellsFrom _ [(0, 0, 1), (1, 0, 24), (2, 0, 3), (3, 0, 59)] rfl gw_wsX12_tellsFrom
set_option maxRecDepth 20000 in
theorem gX12_tellsFrom_X12_tellsFrom : GoodIn wsX12_tellsFrom (wsV RX12 352 RX12 yX12_tellsFrom wsX12_tellsFrom) := goodIn_app (goodIn_sl csX12_tellsFrom ciX12_tellsFrom _ [(2, 0, 3), (1, 4, 1)] rfl rfl) ggX12_tellsFrom_X12_tellsFrom
set_option maxRecDepth 20000 in
theorem ggX12_act_X12_tellsFrom : GoodIn wsX12_act wsX12_tellsFrom := goodIn_sl csX12_act ciX12_act _ [(2, 11, 1), (1, 1, 1), (1, 16, 3), (1, 5, 1), (1, 19, 1), (1, 0, 1), (1, 20, 1), (2, 0, 4), (1, 11, 5), (1, 21, 3), (2, 4, 7), (3, 0, 59)] rfl gw_wsX12_tellsFrom
set_option maxRecDepth 20000 in
theorem gX12_act_X12_tellsFrom : GoodIn wsX12_act (wsV RX12 352 RX12 yX12_tellsFrom wsX12_tellsFrom) := goodIn_app (goodIn_sl csX12_act ciX12_act _ [(2, 8, 3), (1, 5, 1)] rfl rfl) ggX12_act_X12_tellsFrom
set_option maxRecDepth 20000 in
theorem ggX12_act_X12_keepsFrom : GoodIn wsX12_act wsX12_keepsFrom := goodIn_sl csX12_act ciX12_act _ [(2, 3, 1), (1, 1, 1), (1, 16, 3), (1, 5, 1), (1, 19, 1), (1, 0, 1), (1, 20, 1), (1, 11, 5), (1, 21, 3), (2, 0, 3), (2, 4, 4), (3, 0, 59)] rfl gw_wsX12_keepsFrom
set_option maxRecDepth 20000 in
theorem gX12_act_X12_keepsFrom : GoodIn wsX12_act (wsV RX12 346 RX12 yX12_keepsFrom wsX12_keepsFrom) := goodIn_app (goodIn_sl csX12_act ciX12_act _ [(2, 0, 3), (1, 5, 1)] rfl rfl) ggX12_act_X12_keepsFrom
noncomputable def csX12_movesFrom : List (List Cond) := [[.code yX12_movesFrom cX12_movesFrom 5 (some .int)], [.fieldLink RX12 22 "SeatsRoundModel" "kind" "[I", .methodLink RX12 337 yX12_begins, .instanceMethod yX12_begins, .selects RX12 yX12_begins yX12_begins, .initialized RX12, .code yX12_begins cX12_begins 2 none, .fieldLink RX12 334 "SeatsRoundModel" "bodies" "I", .fieldLink RX12 99 "SeatsRoundModel" "trace" "[I", .methodLink RX12 349 yX12_movesFrom, .instanceMethod yX12_movesFrom, .selects RX12 yX12_movesFrom yX12_movesFrom, .methodLink RX12 340 yX12_findsFrom, .instanceMethod yX12_findsFrom, .selects RX12 yX12_findsFrom yX12_findsFrom, .code yX12_findsFrom cX12_findsFrom 4 (some .int), .fieldLink RX12 19 "SeatsRoundModel" "strength" "[I", .methodLink RX12 343 yX12_aboveOf, .static yX12_aboveOf, .code yX12_aboveOf cX12_aboveOf 1 (some .int)], wsX120]
set_option maxRecDepth 20000 in
theorem ciX12_movesFrom : ∀ l ∈ csX12_movesFrom, ∀ w ∈ l, w ∈ wsX12_movesFrom := by
  unfold csX12_movesFrom
  refine List.forall_mem_cons.mpr ⟨fun _ h => List.mem_cons.mpr (Or.inl (List.mem_singleton.mp h)), List.forall_mem_cons.mpr ⟨fun _ h => List.mem_cons_of_mem _ (List.mem_append_left _ h), List.forall_mem_cons.mpr ⟨fun _ h => List.mem_cons_of_mem _ (List.mem_append_right _ h), fun l h => absurd h List.not_mem_nil⟩⟩⟩
set_option maxRecDepth 20000 in
theorem ggX12_movesFrom_X12_findsFrom : GoodIn wsX12_movesFrom wsX12_findsFrom := goodIn_sl csX12_movesFrom ciX12_movesFrom _ [(1, 14, 2), (1, 1, 7), (1, 11, 3), (1, 16, 3), (2, 0, 59)] rfl gw_wsX12_findsFrom
set_option maxRecDepth 20000 in
theorem gX12_movesFrom_X12_findsFrom : GoodIn wsX12_movesFrom (wsV RX12 340 RX12 yX12_findsFrom wsX12_findsFrom) := goodIn_app (goodIn_sl csX12_movesFrom ciX12_movesFrom _ [(1, 11, 3), (1, 4, 1)] rfl rfl) ggX12_movesFrom_X12_findsFrom
set_option maxRecDepth 20000 in
theorem ggX12_trees_X12_wordsBelow : GoodIn wsX12_trees wsX12_wordsBelow := goodIn_sl csX12_trees ciX12_trees _ [(1, 12, 4), (1, 3, 1), (1, 16, 7), (1, 9, 3), (2, 0, 59)] rfl gw_wsX12_wordsBelow
set_option maxRecDepth 20000 in
theorem gX12_trees_X12_wordsBelow : GoodIn wsX12_trees (wsV RX12 307 RX12 yX12_wordsBelow wsX12_wordsBelow) := goodIn_app (goodIn_sl csX12_trees ciX12_trees _ [(1, 9, 3), (1, 3, 1)] rfl rfl) ggX12_trees_X12_wordsBelow
set_option maxRecDepth 20000 in
theorem ggX12_order_X12_setBy : GoodIn wsX12_order wsX12_setBy := goodIn_sl csX12_order ciX12_order _ [(1, 19, 2), (1, 0, 1), (1, 21, 1), (8, 0, 59)] rfl gw_wsX12_setBy
set_option maxRecDepth 20000 in
theorem gX12_order_X12_setBy : GoodIn wsX12_order (wsV RX12 316 RX12 yX12_setBy wsX12_setBy) := goodIn_app (goodIn_sl csX12_order ciX12_order _ [(1, 16, 3), (1, 10, 1)] rfl rfl) ggX12_order_X12_setBy
set_option maxRecDepth 20000 in
theorem ggX12_read_X12_isName : GoodIn wsX12_read wsX12_isName := goodIn_sl csX12_read ciX12_read _ [(1, 16, 2), (1, 10, 2), (1, 7, 1), (1, 12, 1), (5, 0, 59)] rfl gw_wsX12_isName
set_option maxRecDepth 20000 in
theorem gX12_read_X12_isName : GoodIn wsX12_read (wsV RX12 158 RX12 yX12_isName wsX12_isName) := goodIn_app (goodIn_sl csX12_read ciX12_read _ [(1, 13, 3), (1, 7, 1)] rfl rfl) ggX12_read_X12_isName
noncomputable def csX12_shareOf : List (List Cond) := [[.code yX12_shareOf cX12_shareOf 5 (some .int)], wsX12_shareOf_r1, wsX12_shareOf_r2, wsX120]
set_option maxRecDepth 20000 in
theorem ciX12_shareOf : ∀ l ∈ csX12_shareOf, ∀ w ∈ l, w ∈ wsX12_shareOf := by
  unfold csX12_shareOf
  refine List.forall_mem_cons.mpr ⟨fun _ h => List.mem_cons.mpr (Or.inl (List.mem_singleton.mp h)), List.forall_mem_cons.mpr ⟨fun _ h => List.mem_cons_of_mem _ (List.mem_append_left _ (List.mem_append_left _ h)), List.forall_mem_cons.mpr ⟨fun _ h => List.mem_cons_of_mem _ (List.mem_append_left _ (List.mem_append_right _ h)), List.forall_mem_cons.mpr ⟨fun _ h => List.mem_cons_of_mem _ (List.mem_append_right _ h), fun l h => absurd h List.not_mem_nil⟩⟩⟩⟩
set_option maxRecDepth 20000 in
theorem ggX12_shareOf_X12_numberOf : GoodIn wsX12_shareOf wsX12_numberOf := goodIn_sl csX12_shareOf ciX12_shareOf _ [(1, 7, 4), (3, 0, 59)] rfl gw_wsX12_numberOf
set_option maxRecDepth 20000 in
theorem gX12_shareOf_X12_numberOf : GoodIn wsX12_shareOf (wsV RX12 162 RX12 yX12_numberOf wsX12_numberOf) := goodIn_app (goodIn_sl csX12_shareOf ciX12_shareOf _ [(1, 3, 4)] rfl rfl) ggX12_shareOf_X12_numberOf
set_option maxRecDepth 20000 in
theorem ggX12_moves_X12_isIn : GoodIn wsX12_moves wsX12_isIn := goodIn_sl csX12_moves ciX12_moves _ [(1, 15, 2), (5, 0, 59)] rfl gw_wsX12_isIn
set_option maxRecDepth 20000 in
theorem gX12_moves_X12_isIn : GoodIn wsX12_moves (wsV RX12 223 RX12 yX12_isIn wsX12_isIn) := goodIn_app (goodIn_sl csX12_moves ciX12_moves _ [(1, 12, 3), (1, 6, 1)] rfl rfl) ggX12_moves_X12_isIn
noncomputable def csX12_areUnlike : List (List Cond) := [[.code yX12_areUnlike cX12_areUnlike 7 (some .boolean)], [.methodLink RX12 300 yX12_leafOf, .instanceMethod yX12_leafOf, .selects RX12 yX12_leafOf yX12_leafOf, .initialized RX12, .code yX12_leafOf cX12_leafOf 5 (some .int), .fieldLink RX12 133 "SeatsRoundModel" "names" "I", .fieldLink RX12 68 "SeatsRoundModel" "version" "[I"], wsX120]
set_option maxRecDepth 20000 in
theorem ciX12_areUnlike : ∀ l ∈ csX12_areUnlike, ∀ w ∈ l, w ∈ wsX12_areUnlike := by
  unfold csX12_areUnlike
  refine List.forall_mem_cons.mpr ⟨fun _ h => List.mem_cons.mpr (Or.inl (List.mem_singleton.mp h)), List.forall_mem_cons.mpr ⟨fun _ h => List.mem_cons_of_mem _ (List.mem_append_left _ h), List.forall_mem_cons.mpr ⟨fun _ h => List.mem_cons_of_mem _ (List.mem_append_right _ h), fun l h => absurd h List.not_mem_nil⟩⟩⟩
set_option maxRecDepth 20000 in
theorem ggX12_areUnlike_X12_leafOf : GoodIn wsX12_areUnlike wsX12_leafOf := goodIn_sl csX12_areUnlike ciX12_areUnlike _ [(1, 4, 3), (2, 0, 59)] rfl gw_wsX12_leafOf
set_option maxRecDepth 20000 in
theorem gX12_areUnlike_X12_leafOf : GoodIn wsX12_areUnlike (wsV RX12 300 RX12 yX12_leafOf wsX12_leafOf) := goodIn_app (goodIn_sl csX12_areUnlike ciX12_areUnlike _ [(1, 0, 4)] rfl rfl) ggX12_areUnlike_X12_leafOf
set_option maxRecDepth 20000 in
theorem ggX12_ofKeeper_X12_many : GoodIn wsX12_ofKeeper wsX12_many := goodIn_sl csX12_ofKeeper ciX12_ofKeeper _ [(1, 22, 2), (2, 0, 1), (3, 0, 59)] rfl gw_wsX12_many
set_option maxRecDepth 20000 in
theorem gX12_ofKeeper_X12_many : GoodIn wsX12_ofKeeper (wsV RX12 173 RX12 yX12_many wsX12_many) := goodIn_app (goodIn_sl csX12_ofKeeper ciX12_ofKeeper _ [(1, 19, 3), (1, 9, 1)] rfl rfl) ggX12_ofKeeper_X12_many
noncomputable def csX12_count : List (List Cond) := [[.code yX12_count cX12_count 4 (some .int)], [.fieldLink RX12 133 "SeatsRoundModel" "names" "I", .fieldLink RX12 140 "SeatsRoundModel" "keepers" "I", .fieldLink RX12 143 "SeatsRoundModel" "tables" "I", .fieldLink RX12 146 "SeatsRoundModel" "taped" "I", .fieldLink RX12 290 "SeatsRoundModel" "writings" "I", .fieldLink RX12 334 "SeatsRoundModel" "bodies" "I", .methodLink RX12 173 yX12_many, .instanceMethod yX12_many, .selects RX12 yX12_many yX12_many, .initialized RX12, .code yX12_many cX12_many 5 (some .int), .fieldLink RX12 68 "SeatsRoundModel" "version" "[I", .fieldLink RX12 71 "SeatsRoundModel" "kept" "[I"], wsX120]
set_option maxRecDepth 20000 in
theorem ciX12_count : ∀ l ∈ csX12_count, ∀ w ∈ l, w ∈ wsX12_count := by
  unfold csX12_count
  refine List.forall_mem_cons.mpr ⟨fun _ h => List.mem_cons.mpr (Or.inl (List.mem_singleton.mp h)), List.forall_mem_cons.mpr ⟨fun _ h => List.mem_cons_of_mem _ (List.mem_append_left _ h), List.forall_mem_cons.mpr ⟨fun _ h => List.mem_cons_of_mem _ (List.mem_append_right _ h), fun l h => absurd h List.not_mem_nil⟩⟩⟩
set_option maxRecDepth 20000 in
theorem ggX12_count_X12_many : GoodIn wsX12_count wsX12_many := goodIn_sl csX12_count ciX12_count _ [(1, 10, 3), (2, 0, 59)] rfl gw_wsX12_many
set_option maxRecDepth 20000 in
theorem gX12_count_X12_many : GoodIn wsX12_count (wsV RX12 173 RX12 yX12_many wsX12_many) := goodIn_app (goodIn_sl csX12_count ciX12_count _ [(1, 6, 4)] rfl rfl) ggX12_count_X12_many
noncomputable def csX6_reaches : List (List Cond) := [[.code yX6_reaches cX6_reaches 3 (some .boolean)], wsX6_reaches_r1, wsX6_reaches_r2, wsX60, wsX20, wsX10]
set_option maxRecDepth 20000 in
theorem ciX6_reaches : ∀ l ∈ csX6_reaches, ∀ w ∈ l, w ∈ wsX6_reaches := by
  unfold csX6_reaches
  refine List.forall_mem_cons.mpr ⟨fun _ h => List.mem_cons.mpr (Or.inl (List.mem_singleton.mp h)), List.forall_mem_cons.mpr ⟨fun _ h => List.mem_cons_of_mem _ (List.mem_append_left _ (List.mem_append_left _ (List.mem_append_left _ (List.mem_append_left _ h)))), List.forall_mem_cons.mpr ⟨fun _ h => List.mem_cons_of_mem _ (List.mem_append_left _ (List.mem_append_left _ (List.mem_append_left _ (List.mem_append_right _ h)))), List.forall_mem_cons.mpr ⟨fun _ h => List.mem_cons_of_mem _ (List.mem_append_left _ (List.mem_append_left _ (List.mem_append_right _ h))), List.forall_mem_cons.mpr ⟨fun _ h => List.mem_cons_of_mem _ (List.mem_append_left _ (List.mem_append_right _ h)), List.forall_mem_cons.mpr ⟨fun _ h => List.mem_cons_of_mem _ (List.mem_append_right _ h), fun l h => absurd h List.not_mem_nil⟩⟩⟩⟩⟩⟩
set_option maxRecDepth 20000 in
theorem ggX6_reaches_X6_isKeptFor : GoodIn wsX6_reaches wsX6_isKeptFor := goodIn_sl csX6_reaches ciX6_reaches _ [(1, 8, 4), (1, 0, 1), (1, 12, 2), (1, 3, 1), (1, 14, 10), (2, 0, 3), (3, 0, 12), (5, 0, 9), (4, 0, 6)] rfl gw_wsX6_isKeptFor
set_option maxRecDepth 20000 in
theorem gX6_reaches_X6_isKeptFor : GoodIn wsX6_reaches (wsV RX6 90 RX6 yX6_isKeptFor wsX6_isKeptFor) := goodIn_app (goodIn_sl csX6_reaches ciX6_reaches _ [(1, 4, 4)] rfl rfl) ggX6_reaches_X6_isKeptFor
noncomputable def csX8_unevenness : List (List Cond) := [[.code yX8_unevenness cX8_unevenness 4 (some .int)], wsX8_unevenness_r1, wsX8_unevenness_r2, wsX80]
set_option maxRecDepth 20000 in
theorem ciX8_unevenness : ∀ l ∈ csX8_unevenness, ∀ w ∈ l, w ∈ wsX8_unevenness := by
  unfold csX8_unevenness
  refine List.forall_mem_cons.mpr ⟨fun _ h => List.mem_cons.mpr (Or.inl (List.mem_singleton.mp h)), List.forall_mem_cons.mpr ⟨fun _ h => List.mem_cons_of_mem _ (List.mem_append_left _ (List.mem_append_left _ h)), List.forall_mem_cons.mpr ⟨fun _ h => List.mem_cons_of_mem _ (List.mem_append_left _ (List.mem_append_right _ h)), List.forall_mem_cons.mpr ⟨fun _ h => List.mem_cons_of_mem _ (List.mem_append_right _ h), fun l h => absurd h List.not_mem_nil⟩⟩⟩⟩
set_option maxRecDepth 20000 in
theorem ggX8_unevenness_X8_countOdds : GoodIn wsX8_unevenness wsX8_countOdds := goodIn_sl csX8_unevenness ciX8_unevenness _ [(1, 13, 2), (1, 1, 1), (1, 15, 7), (1, 12, 1), (1, 22, 2), (2, 0, 2), (1, 0, 1), (2, 2, 11), (3, 0, 13)] rfl gw_wsX8_countOdds
set_option maxRecDepth 20000 in
theorem gX8_unevenness_X8_countOdds : GoodIn wsX8_unevenness (wsV RX8 108 RX8 yX8_countOdds wsX8_countOdds) := goodIn_app (goodIn_sl csX8_unevenness ciX8_unevenness _ [(1, 9, 4)] rfl rfl) ggX8_unevenness_X8_countOdds
noncomputable def csX10_leastHarm : List (List Cond) := [[.code yX10_leastHarm cX10_leastHarm 6 (some .int)], wsX10_leastHarm_r1, wsX10_leastHarm_r2, wsX10_leastHarm_r3, wsX10_leastHarm_r4, wsX100, wsX80, wsX40]
set_option maxRecDepth 20000 in
theorem ciX10_leastHarm : ∀ l ∈ csX10_leastHarm, ∀ w ∈ l, w ∈ wsX10_leastHarm := by
  unfold csX10_leastHarm
  refine List.forall_mem_cons.mpr ⟨fun _ h => List.mem_cons.mpr (Or.inl (List.mem_singleton.mp h)), List.forall_mem_cons.mpr ⟨fun _ h => List.mem_cons_of_mem _ (List.mem_append_left _ (List.mem_append_left _ (List.mem_append_left _ (List.mem_append_left _ h)))), List.forall_mem_cons.mpr ⟨fun _ h => List.mem_cons_of_mem _ (List.mem_append_left _ (List.mem_append_left _ (List.mem_append_left _ (List.mem_append_right _ (List.mem_append_left _ h))))), List.forall_mem_cons.mpr ⟨fun _ h => List.mem_cons_of_mem _ (List.mem_append_left _ (List.mem_append_left _ (List.mem_append_left _ (List.mem_append_right _ (List.mem_append_right _ (List.mem_append_left _ h)))))), List.forall_mem_cons.mpr ⟨fun _ h => List.mem_cons_of_mem _ (List.mem_append_left _ (List.mem_append_left _ (List.mem_append_left _ (List.mem_append_right _ (List.mem_append_right _ (List.mem_append_right _ h)))))), List.forall_mem_cons.mpr ⟨fun _ h => List.mem_cons_of_mem _ (List.mem_append_left _ (List.mem_append_left _ (List.mem_append_right _ h))), List.forall_mem_cons.mpr ⟨fun _ h => List.mem_cons_of_mem _ (List.mem_append_left _ (List.mem_append_right _ h)), List.forall_mem_cons.mpr ⟨fun _ h => List.mem_cons_of_mem _ (List.mem_append_right _ h), fun l h => absurd h List.not_mem_nil⟩⟩⟩⟩⟩⟩⟩⟩
set_option maxRecDepth 20000 in
theorem ggX10_leastHarm_X8_takeAll : GoodIn wsX10_leastHarm wsX8_takeAll := goodIn_sl csX10_leastHarm ciX10_leastHarm _ [(1, 7, 15), (1, 6, 1), (1, 22, 2), (2, 0, 6), (6, 0, 13)] rfl gw_wsX8_takeAll
set_option maxRecDepth 20000 in
theorem gX10_leastHarm_X8_takeAll : GoodIn wsX10_leastHarm (wsV RX10 29 RX8 yX8_takeAll wsX8_takeAll) := goodIn_app (goodIn_sl csX10_leastHarm ciX10_leastHarm _ [(1, 3, 4)] rfl rfl) ggX10_leastHarm_X8_takeAll
noncomputable def csX8_countOdds : List (List Cond) := [[.code yX8_countOdds cX8_countOdds 3 none], wsX8_countOdds_r1, wsX8_countOdds_r2, wsX80]
set_option maxRecDepth 20000 in
theorem ciX8_countOdds : ∀ l ∈ csX8_countOdds, ∀ w ∈ l, w ∈ wsX8_countOdds := by
  unfold csX8_countOdds
  refine List.forall_mem_cons.mpr ⟨fun _ h => List.mem_cons.mpr (Or.inl (List.mem_singleton.mp h)), List.forall_mem_cons.mpr ⟨fun _ h => List.mem_cons_of_mem _ (List.mem_append_left _ (List.mem_append_left _ h)), List.forall_mem_cons.mpr ⟨fun _ h => List.mem_cons_of_mem _ (List.mem_append_left _ (List.mem_append_right _ h)), List.forall_mem_cons.mpr ⟨fun _ h => List.mem_cons_of_mem _ (List.mem_append_right _ h), fun l h => absurd h List.not_mem_nil⟩⟩⟩⟩
set_option maxRecDepth 20000 in
theorem ggX8_countOdds_X8_firstFor : GoodIn wsX8_countOdds wsX8_firstFor := goodIn_sl csX8_countOdds ciX8_countOdds _ [(1, 10, 8), (1, 9, 1), (1, 18, 6), (2, 0, 2), (3, 0, 13)] rfl gw_wsX8_firstFor
set_option maxRecDepth 20000 in
theorem gX8_countOdds_X8_firstFor : GoodIn wsX8_countOdds (wsV RX8 105 RX8 yX8_firstFor wsX8_firstFor) := goodIn_app (goodIn_sl csX8_countOdds ciX8_countOdds _ [(1, 6, 4)] rfl rfl) ggX8_countOdds_X8_firstFor
set_option maxRecDepth 20000 in
theorem ggX11_trees_X6_compare : GoodIn wsX11_trees wsX6_compare := goodIn_sl csX11_trees ciX11_trees _ [(1, 12, 6), (1, 11, 1), (1, 18, 6), (2, 0, 2), (5, 0, 12), (6, 0, 4)] rfl gw_wsX6_compare
set_option maxRecDepth 20000 in
theorem gX11_trees_X6_compare : GoodIn wsX11_trees (wsV RX11 300 RX6 yX6_compare wsX6_compare) := goodIn_app (goodIn_sl csX11_trees ciX11_trees _ [(1, 8, 4)] rfl rfl) ggX11_trees_X6_compare
noncomputable def csX0_movesFrom : List (List Cond) := [[.code yX0_movesFrom cX0_movesFrom 4 (some .int)], [.fieldLink RX0 19 "SeatsRound$Acts" "own" "I", .fieldLink RX0 22 "SeatsRound$Acts" "number" "I", .methodLink RX0 41 yX0_begin, .instanceMethod yX0_begin, .selects RX0 yX0_begin yX0_begin, .initialized RX0, .code yX0_begin cX0_begin 2 none, .fieldLink RX0 15 "SeatsRound$Acts" "ran" "I", .fieldLink RX0 9 "SeatsRound$Acts" "bodies" "[I", .methodLink RX0 35 yX0_movesFrom, .instanceMethod yX0_movesFrom, .selects RX0 yX0_movesFrom yX0_movesFrom, .methodLink RX0 28 yX0_findsFrom, .instanceMethod yX0_findsFrom, .selects RX0 yX0_findsFrom yX0_findsFrom, .code yX0_findsFrom cX0_findsFrom 3 (some .int), .fieldLink RX0 25 "SeatsRound$Acts" "strength" "I"], wsX00]
set_option maxRecDepth 20000 in
theorem ciX0_movesFrom : ∀ l ∈ csX0_movesFrom, ∀ w ∈ l, w ∈ wsX0_movesFrom := by
  unfold csX0_movesFrom
  refine List.forall_mem_cons.mpr ⟨fun _ h => List.mem_cons.mpr (Or.inl (List.mem_singleton.mp h)), List.forall_mem_cons.mpr ⟨fun _ h => List.mem_cons_of_mem _ (List.mem_append_left _ h), List.forall_mem_cons.mpr ⟨fun _ h => List.mem_cons_of_mem _ (List.mem_append_right _ h), fun l h => absurd h List.not_mem_nil⟩⟩⟩
set_option maxRecDepth 20000 in
theorem ggX0_movesFrom_X0_movesFrom : GoodIn wsX0_movesFrom wsX0_movesFrom := goodIn_sl csX0_movesFrom ciX0_movesFrom _ [(0, 0, 1), (1, 0, 17), (2, 0, 5)] rfl gw_wsX0_movesFrom
set_option maxRecDepth 20000 in
theorem gX0_movesFrom_X0_movesFrom : GoodIn wsX0_movesFrom (wsV RX0 35 RX0 yX0_movesFrom wsX0_movesFrom) := goodIn_app (goodIn_sl csX0_movesFrom ciX0_movesFrom _ [(1, 9, 3), (1, 5, 1)] rfl rfl) ggX0_movesFrom_X0_movesFrom
noncomputable def csX0_run : List (List Cond) := [[.code yX0_run cX0_run 6 (some .int)], wsX0_run_r1, wsX0_run_r2, wsX00]
set_option maxRecDepth 20000 in
theorem ciX0_run : ∀ l ∈ csX0_run, ∀ w ∈ l, w ∈ wsX0_run := by
  unfold csX0_run
  refine List.forall_mem_cons.mpr ⟨fun _ h => List.mem_cons.mpr (Or.inl (List.mem_singleton.mp h)), List.forall_mem_cons.mpr ⟨fun _ h => List.mem_cons_of_mem _ (List.mem_append_left _ (List.mem_append_left _ h)), List.forall_mem_cons.mpr ⟨fun _ h => List.mem_cons_of_mem _ (List.mem_append_left _ (List.mem_append_right _ h)), List.forall_mem_cons.mpr ⟨fun _ h => List.mem_cons_of_mem _ (List.mem_append_right _ h), fun l h => absurd h List.not_mem_nil⟩⟩⟩⟩
set_option maxRecDepth 20000 in
theorem ggX0_run_X0_keepsFrom : GoodIn wsX0_run wsX0_keepsFrom := goodIn_sl csX0_run ciX0_run _ [(1, 17, 1), (1, 2, 1), (1, 8, 3), (1, 6, 1), (1, 11, 6), (1, 18, 4), (1, 0, 1), (1, 3, 3), (1, 7, 1), (1, 1, 1), (3, 0, 5)] rfl gw_wsX0_keepsFrom
set_option maxRecDepth 20000 in
theorem gX0_run_X0_keepsFrom : GoodIn wsX0_run (wsV RX0 32 RX0 yX0_keepsFrom wsX0_keepsFrom) := goodIn_app (goodIn_sl csX0_run ciX0_run _ [(1, 14, 3), (1, 6, 1)] rfl rfl) ggX0_run_X0_keepsFrom
set_option maxRecDepth 20000 in
theorem ggX0_movesFrom_X0_findsFrom : GoodIn wsX0_movesFrom wsX0_findsFrom := goodIn_sl csX0_movesFrom ciX0_movesFrom _ [(1, 15, 2), (1, 1, 8), (1, 12, 3), (2, 0, 5)] rfl gw_wsX0_findsFrom
set_option maxRecDepth 20000 in
theorem gX0_movesFrom_X0_findsFrom : GoodIn wsX0_movesFrom (wsV RX0 28 RX0 yX0_findsFrom wsX0_findsFrom) := goodIn_app (goodIn_sl csX0_movesFrom ciX0_movesFrom _ [(1, 12, 3), (1, 5, 1)] rfl rfl) ggX0_movesFrom_X0_findsFrom
set_option maxRecDepth 20000 in
theorem ggX11_read_X11_tableAt : GoodIn wsX11_read wsX11_tableAt := goodIn_sl csX11_read ciX11_read _ [(1, 20, 3), (7, 0, 13)] rfl gw_wsX11_tableAt
set_option maxRecDepth 20000 in
theorem gX11_read_X11_tableAt : GoodIn wsX11_read (wsV RX11 192 RX11 yX11_tableAt wsX11_tableAt) := goodIn_app (goodIn_sl csX11_read ciX11_read _ [(1, 16, 4)] rfl rfl) ggX11_read_X11_tableAt
noncomputable def csX6_allKept : List (List Cond) := [[.code yX6_allKept cX6_allKept 3 (some .int)], [.fieldLink RX6 42 "SeatsRound$Parcels" "keepers" "LSeatsRound$Keepers;", .fieldLink RX6 120 "SeatsRound$Keepers" "count" "I", .methodLink RX6 145 yX6_keptBy, .instanceMethod yX6_keptBy, .selects RX6 yX6_keptBy yX6_keptBy, .initialized RX6, .code yX6_keptBy cX6_keptBy 2 (some .int), .fieldLink RX6 16 "SeatsRound$Parcels" "kept" "[[I", .methodLink RX6 141 yX6_filled, .static yX6_filled, .code yX6_filled cX6_filled 6 (some .int)], wsX60, wsX20]
set_option maxRecDepth 20000 in
theorem ciX6_allKept : ∀ l ∈ csX6_allKept, ∀ w ∈ l, w ∈ wsX6_allKept := by
  unfold csX6_allKept
  refine List.forall_mem_cons.mpr ⟨fun _ h => List.mem_cons.mpr (Or.inl (List.mem_singleton.mp h)), List.forall_mem_cons.mpr ⟨fun _ h => List.mem_cons_of_mem _ (List.mem_append_left _ (List.mem_append_left _ h)), List.forall_mem_cons.mpr ⟨fun _ h => List.mem_cons_of_mem _ (List.mem_append_left _ (List.mem_append_right _ h)), List.forall_mem_cons.mpr ⟨fun _ h => List.mem_cons_of_mem _ (List.mem_append_right _ h), fun l h => absurd h List.not_mem_nil⟩⟩⟩⟩
set_option maxRecDepth 20000 in
theorem ggX6_allKept_X6_keptBy : GoodIn wsX6_allKept wsX6_keptBy := goodIn_sl csX6_allKept ciX6_allKept _ [(1, 6, 4), (1, 5, 1), (1, 10, 1), (2, 0, 12)] rfl gw_wsX6_keptBy
set_option maxRecDepth 20000 in
theorem gX6_allKept_X6_keptBy : GoodIn wsX6_allKept (wsV RX6 145 RX6 yX6_keptBy wsX6_keptBy) := goodIn_app (goodIn_sl csX6_allKept ciX6_allKept _ [(1, 2, 4)] rfl rfl) ggX6_allKept_X6_keptBy
set_option maxRecDepth 20000 in
theorem ggX11_moves_J6_bitCount_0f7a4 : GoodIn wsX11_moves wsJ6_bitCount_0f7a4 := goodIn_sl csX11_moves ciX11_moves _ [(5, 7, 4)] rfl gw_wsJ6_bitCount_0f7a4
set_option maxRecDepth 20000 in
theorem gX11_moves_J6_bitCount_0f7a4 : GoodIn wsX11_moves (va_wsS RX11 246 yJ6_bitCount_0f7a4 wsJ6_bitCount_0f7a4) := goodIn_app (goodIn_sl csX11_moves ciX11_moves _ [(5, 4, 3)] rfl rfl) ggX11_moves_J6_bitCount_0f7a4
noncomputable def csX3_readOperand : List (List Cond) := [[.code yX3_readOperand cX3_readOperand 4 (some .int)], wsX3_readOperand_r1, wsX3_readOperand_r2, wsX30]
set_option maxRecDepth 20000 in
theorem ciX3_readOperand : ∀ l ∈ csX3_readOperand, ∀ w ∈ l, w ∈ wsX3_readOperand := by
  unfold csX3_readOperand
  refine List.forall_mem_cons.mpr ⟨fun _ h => List.mem_cons.mpr (Or.inl (List.mem_singleton.mp h)), List.forall_mem_cons.mpr ⟨fun _ h => List.mem_cons_of_mem _ (List.mem_append_left _ (List.mem_append_left _ h)), List.forall_mem_cons.mpr ⟨fun _ h => List.mem_cons_of_mem _ (List.mem_append_left _ (List.mem_append_right _ h)), List.forall_mem_cons.mpr ⟨fun _ h => List.mem_cons_of_mem _ (List.mem_append_right _ h), fun l h => absurd h List.not_mem_nil⟩⟩⟩⟩
set_option maxRecDepth 20000 in
theorem ggX3_readOperand_X3_sign : GoodIn wsX3_readOperand wsX3_sign := goodIn_sl csX3_readOperand ciX3_readOperand _ [(1, 10, 1), (1, 4, 1), (1, 11, 2), (3, 0, 8)] rfl gw_wsX3_sign
set_option maxRecDepth 20000 in
theorem gX3_readOperand_X3_sign : GoodIn wsX3_readOperand (wsV RX3 62 RX3 yX3_sign wsX3_sign) := goodIn_app (goodIn_sl csX3_readOperand ciX3_readOperand _ [(1, 6, 4)] rfl rfl) ggX3_readOperand_X3_sign
noncomputable def csX3_look : List (List Cond) := [[.code yX3_look cX3_look 5 none], [.fieldLink RX3 66 "SeatsRound$Table" "members" "I", .fieldLink RX3 25 "SeatsRound$Law" "members" "I", .fieldLink RX3 31 "SeatsRound$Law" "weights" "I", .fieldLink RX3 34 "SeatsRound$Law" "greatest" "I", .fieldLink RX3 73 "SeatsRound$Keepers" "street" "[I", .fieldLink RX3 79 "SeatsRound$Table" "weight" "[I", .methodLink RX3 82 Lib.Math.max.name, .static Lib.Math.max.name, .initialized "java/lang/Math", .code Lib.Math.max.name Lib.Math.max.code 2 (some .int), .fieldLink RX3 28 "SeatsRound$Law" "streetsIn" "I", .methodLink RX3 67 yJ6_bitCount_0f7a4, .static yJ6_bitCount_0f7a4, .initialized RJ6, .code yJ6_bitCount_0f7a4 cJ6_bitCount_0f7a4 1 (some .int), .constant RJ6 265 (1431655765), .constant RJ6 266 (858993459), .constant RJ6 267 (252645135)], wsX80, wsX30, wsX20]
set_option maxRecDepth 20000 in
theorem ciX3_look : ∀ l ∈ csX3_look, ∀ w ∈ l, w ∈ wsX3_look := by
  unfold csX3_look
  refine List.forall_mem_cons.mpr ⟨fun _ h => List.mem_cons.mpr (Or.inl (List.mem_singleton.mp h)), List.forall_mem_cons.mpr ⟨fun _ h => List.mem_cons_of_mem _ (List.mem_append_left _ (List.mem_append_left _ (List.mem_append_left _ h))), List.forall_mem_cons.mpr ⟨fun _ h => List.mem_cons_of_mem _ (List.mem_append_left _ (List.mem_append_left _ (List.mem_append_right _ h))), List.forall_mem_cons.mpr ⟨fun _ h => List.mem_cons_of_mem _ (List.mem_append_left _ (List.mem_append_right _ h)), List.forall_mem_cons.mpr ⟨fun _ h => List.mem_cons_of_mem _ (List.mem_append_right _ h), fun l h => absurd h List.not_mem_nil⟩⟩⟩⟩⟩
set_option maxRecDepth 20000 in
theorem ggX3_look_J6_bitCount_0f7a4 : GoodIn wsX3_look wsJ6_bitCount_0f7a4 := goodIn_sl csX3_look ciX3_look _ [(1, 14, 4)] rfl gw_wsJ6_bitCount_0f7a4
set_option maxRecDepth 20000 in
theorem gX3_look_J6_bitCount_0f7a4 : GoodIn wsX3_look (va_wsS RX3 67 yJ6_bitCount_0f7a4 wsJ6_bitCount_0f7a4) := goodIn_app (goodIn_sl csX3_look ciX3_look _ [(1, 11, 3)] rfl rfl) ggX3_look_J6_bitCount_0f7a4
set_option maxRecDepth 20000 in
theorem ggX11_moves_X4_placeOf : GoodIn wsX11_moves wsX4_placeOf := goodIn_sl csX11_moves ciX11_moves _ [(1, 23, 1), (2, 0, 3), (7, 0, 4)] rfl gw_wsX4_placeOf
set_option maxRecDepth 20000 in
theorem gX11_moves_X4_placeOf : GoodIn wsX11_moves (wsV RX11 127 RX4 yX4_placeOf wsX4_placeOf) := goodIn_app (goodIn_sl csX11_moves ciX11_moves _ [(1, 19, 4)] rfl rfl) ggX11_moves_X4_placeOf
set_option maxRecDepth 20000 in
theorem ggX0_movesFrom_X0_begin : GoodIn wsX0_movesFrom wsX0_begin := goodIn_sl csX0_movesFrom ciX0_movesFrom _ [(1, 6, 3), (2, 0, 5)] rfl gw_wsX0_begin
set_option maxRecDepth 20000 in
theorem gX0_movesFrom_X0_begin : GoodIn wsX0_movesFrom (wsV RX0 41 RX0 yX0_begin wsX0_begin) := goodIn_app (goodIn_sl csX0_movesFrom ciX0_movesFrom _ [(1, 2, 4)] rfl rfl) ggX0_movesFrom_X0_begin
set_option maxRecDepth 20000 in
theorem ggX12_tellsFrom_X12_aboveOf : GoodIn wsX12_tellsFrom wsX12_aboveOf := goodIn_sl csX12_tellsFrom ciX12_tellsFrom _ [(1, 19, 1)] rfl gw_wsX12_aboveOf
set_option maxRecDepth 20000 in
theorem gX12_tellsFrom_X12_aboveOf : GoodIn wsX12_tellsFrom (va_wsS RX12 343 yX12_aboveOf wsX12_aboveOf) := goodIn_app (goodIn_sl csX12_tellsFrom ciX12_tellsFrom _ [(1, 17, 2), (1, 4, 1)] rfl rfl) ggX12_tellsFrom_X12_aboveOf
set_option maxRecDepth 20000 in
theorem ggX11_keeperOf_X4_has : GoodIn wsX11_keeperOf wsX4_has := goodIn_sl csX11_keeperOf ciX11_keeperOf _ [(1, 16, 2), (9, 0, 4)] rfl gw_wsX4_has
set_option maxRecDepth 20000 in
theorem gX11_keeperOf_X4_has : GoodIn wsX11_keeperOf (wsV RX11 123 RX4 yX4_has wsX4_has) := goodIn_app (goodIn_sl csX11_keeperOf ciX11_keeperOf _ [(1, 12, 4)] rfl rfl) ggX11_keeperOf_X4_has
set_option maxRecDepth 20000 in
theorem ggX11_taken_X11_isUnder : GoodIn wsX11_taken wsX11_isUnder := goodIn_sl csX11_taken ciX11_taken _ [(2, 2, 2)] rfl gw_wsX11_isUnder
set_option maxRecDepth 20000 in
theorem gX11_taken_X11_isUnder : GoodIn wsX11_taken (va_wsS RX11 401 yX11_isUnder wsX11_isUnder) := goodIn_app (goodIn_sl csX11_taken ciX11_taken _ [(2, 0, 2), (1, 6, 1)] rfl rfl) ggX11_taken_X11_isUnder
set_option maxRecDepth 20000 in
theorem ggX11_seat_X11_isPlace : GoodIn wsX11_seat wsX11_isPlace := goodIn_sl csX11_seat ciX11_seat _ [(1, 10, 1)] rfl gw_wsX11_isPlace
set_option maxRecDepth 20000 in
theorem gX11_seat_X11_isPlace : GoodIn wsX11_seat (va_wsS RX11 215 yX11_isPlace wsX11_isPlace) := goodIn_app (goodIn_sl csX11_seat ciX11_seat _ [(1, 8, 2), (1, 4, 1)] rfl rfl) ggX11_seat_X11_isPlace
set_option maxRecDepth 20000 in
theorem ggX11_lies_X11_upward : GoodIn wsX11_lies wsX11_upward := goodIn_sl csX11_lies ciX11_lies _ [(1, 15, 1)] rfl gw_wsX11_upward
set_option maxRecDepth 20000 in
theorem gX11_lies_X11_upward : GoodIn wsX11_lies (va_wsS RX11 309 yX11_upward wsX11_upward) := goodIn_app (goodIn_sl csX11_lies ciX11_lies _ [(1, 12, 3)] rfl rfl) ggX11_lies_X11_upward
set_option maxRecDepth 20000 in
theorem ggX12_barred_X12_in : GoodIn wsX12_barred wsX12_in := goodIn_sl csX12_barred ciX12_barred _ [(1, 9, 1)] rfl gw_wsX12_in
set_option maxRecDepth 20000 in
theorem gX12_barred_X12_in : GoodIn wsX12_barred (va_wsS RX12 136 yX12_in wsX12_in) := goodIn_app (goodIn_sl csX12_barred ciX12_barred _ [(1, 7, 2), (1, 5, 1)] rfl rfl) ggX12_barred_X12_in
set_option maxRecDepth 20000 in
theorem ggX12_knows_X12_in : GoodIn wsX12_knows wsX12_in := goodIn_sl csX12_knows ciX12_knows _ [(1, 11, 1)] rfl gw_wsX12_in
set_option maxRecDepth 20000 in
theorem gX12_knows_X12_in : GoodIn wsX12_knows (va_wsS RX12 136 yX12_in wsX12_in) := goodIn_app (goodIn_sl csX12_knows ciX12_knows _ [(1, 9, 2), (1, 6, 1)] rfl rfl) ggX12_knows_X12_in
noncomputable def csX8_sumOf : List (List Cond) := [[.code yX8_sumOf cX8_sumOf 3 (some .int)], [.constant RX8 86 (104729), .fieldLink RX8 15 "SeatsRound$Table" "turn" "I", .fieldLink RX8 37 "SeatsRound$Table" "weight" "[I", .static yX11_strewn, .initialized RX11, .code yX11_strewn cX11_strewn 1 (some .int), .constant RX11 423 (1103515245)], wsX80]
set_option maxRecDepth 20000 in
theorem ciX8_sumOf : ∀ l ∈ csX8_sumOf, ∀ w ∈ l, w ∈ wsX8_sumOf := by
  unfold csX8_sumOf
  refine List.forall_mem_cons.mpr ⟨fun _ h => List.mem_cons.mpr (Or.inl (List.mem_singleton.mp h)), List.forall_mem_cons.mpr ⟨fun _ h => List.mem_cons_of_mem _ (List.mem_append_left _ h), List.forall_mem_cons.mpr ⟨fun _ h => List.mem_cons_of_mem _ (List.mem_append_right _ h), fun l h => absurd h List.not_mem_nil⟩⟩⟩
set_option maxRecDepth 20000 in
theorem ggX8_sumOf_X11_strewn : GoodIn wsX8_sumOf wsX11_strewn := goodIn_sl csX8_sumOf ciX8_sumOf _ [(1, 5, 2)] rfl gw_wsX11_strewn
set_option maxRecDepth 20000 in
theorem gX8_sumOf_X11_strewn_n87 : GoodIn wsX8_sumOf (wsX11_strewn) := ggX8_sumOf_X11_strewn
end
section
noncomputable def csX5_leastFrom : List (List Cond) := [[.code yX5_leastFrom cX5_leastFrom 5 (some .int)], wsX5_leastFrom_r1, wsX5_leastFrom_r2, wsX5_leastFrom_r3, wsX5_leastFrom_r4, wsX5_leastFrom_r5, wsX5_leastFrom_r6, wsX5_leastFrom_r7, wsX5_leastFrom_r8, wsX5_leastFrom_r9, wsX5_leastFrom_r10, wsX5_leastFrom_r11, wsX50, wsX80, wsX40, wsX10, wsX20, wsX30]
set_option maxRecDepth 20000 in
theorem ciX5_leastFrom : ∀ l ∈ csX5_leastFrom, ∀ w ∈ l, w ∈ wsX5_leastFrom := by
  unfold csX5_leastFrom
  refine List.forall_mem_cons.mpr ⟨fun _ h => List.mem_cons.mpr (Or.inl (List.mem_singleton.mp h)), List.forall_mem_cons.mpr ⟨fun _ h => List.mem_cons_of_mem _ (List.mem_append_left _ (List.mem_append_left _ (List.mem_append_left _ (List.mem_append_left _ (List.mem_append_left _ (List.mem_append_left _ (List.mem_append_left _ h))))))), List.forall_mem_cons.mpr ⟨fun _ h => List.mem_cons_of_mem _ (List.mem_append_left _ (List.mem_append_left _ (List.mem_append_left _ (List.mem_append_left _ (List.mem_append_left _ (List.mem_append_left _ (List.mem_append_right _ (List.mem_append_left _ h)))))))), List.forall_mem_cons.mpr ⟨fun _ h => List.mem_cons_of_mem _ (List.mem_append_left _ (List.mem_append_left _ (List.mem_append_left _ (List.mem_append_left _ (List.mem_append_left _ (List.mem_append_left _ (List.mem_append_right _ (List.mem_append_right _ (List.mem_append_left _ h))))))))), List.forall_mem_cons.mpr ⟨fun _ h => List.mem_cons_of_mem _ (List.mem_append_left _ (List.mem_append_left _ (List.mem_append_left _ (List.mem_append_left _ (List.mem_append_left _ (List.mem_append_left _ (List.mem_append_right _ (List.mem_append_right _ (List.mem_append_right _ (List.mem_append_left _ h)))))))))), List.forall_mem_cons.mpr ⟨fun _ h => List.mem_cons_of_mem _ (List.mem_append_left _ (List.mem_append_left _ (List.mem_append_left _ (List.mem_append_left _ (List.mem_append_left _ (List.mem_append_left _ (List.mem_append_right _ (List.mem_append_right _ (List.mem_append_right _ (List.mem_append_right _ (List.mem_append_left _ h))))))))))), List.forall_mem_cons.mpr ⟨fun _ h => List.mem_cons_of_mem _ (List.mem_append_left _ (List.mem_append_left _ (List.mem_append_left _ (List.mem_append_left _ (List.mem_append_left _ (List.mem_append_left _ (List.mem_append_right _ (List.mem_append_right _ (List.mem_append_right _ (List.mem_append_right _ (List.mem_append_right _ (List.mem_append_left _ h)))))))))))), List.forall_mem_cons.mpr ⟨fun _ h => List.mem_cons_of_mem _ (List.mem_append_left _ (List.mem_append_left _ (List.mem_append_left _ (List.mem_append_left _ (List.mem_append_left _ (List.mem_append_left _ (List.mem_append_right _ (List.mem_append_right _ (List.mem_append_right _ (List.mem_append_right _ (List.mem_append_right _ (List.mem_append_right _ (List.mem_append_left _ h))))))))))))), List.forall_mem_cons.mpr ⟨fun _ h => List.mem_cons_of_mem _ (List.mem_append_left _ (List.mem_append_left _ (List.mem_append_left _ (List.mem_append_left _ (List.mem_append_left _ (List.mem_append_left _ (List.mem_append_right _ (List.mem_append_right _ (List.mem_append_right _ (List.mem_append_right _ (List.mem_append_right _ (List.mem_append_right _ (List.mem_append_right _ (List.mem_append_left _ h)))))))))))))), List.forall_mem_cons.mpr ⟨fun _ h => List.mem_cons_of_mem _ (List.mem_append_left _ (List.mem_append_left _ (List.mem_append_left _ (List.mem_append_left _ (List.mem_append_left _ (List.mem_append_left _ (List.mem_append_right _ (List.mem_append_right _ (List.mem_append_right _ (List.mem_append_right _ (List.mem_append_right _ (List.mem_append_right _ (List.mem_append_right _ (List.mem_append_right _ (List.mem_append_left _ h))))))))))))))), List.forall_mem_cons.mpr ⟨fun _ h => List.mem_cons_of_mem _ (List.mem_append_left _ (List.mem_append_left _ (List.mem_append_left _ (List.mem_append_left _ (List.mem_append_left _ (List.mem_append_left _ (List.mem_append_right _ (List.mem_append_right _ (List.mem_append_right _ (List.mem_append_right _ (List.mem_append_right _ (List.mem_append_right _ (List.mem_append_right _ (List.mem_append_right _ (List.mem_append_right _ (List.mem_append_left _ h)))))))))))))))), List.forall_mem_cons.mpr ⟨fun _ h => List.mem_cons_of_mem _ (List.mem_append_left _ (List.mem_append_left _ (List.mem_append_left _ (List.mem_append_left _ (List.mem_append_left _ (List.mem_append_left _ (List.mem_append_right _ (List.mem_append_right _ (List.mem_append_right _ (List.mem_append_right _ (List.mem_append_right _ (List.mem_append_right _ (List.mem_append_right _ (List.mem_append_right _ (List.mem_append_right _ (List.mem_append_right _ h)))))))))))))))), List.forall_mem_cons.mpr ⟨fun _ h => List.mem_cons_of_mem _ (List.mem_append_left _ (List.mem_append_left _ (List.mem_append_left _ (List.mem_append_left _ (List.mem_append_left _ (List.mem_append_right _ h)))))), List.forall_mem_cons.mpr ⟨fun _ h => List.mem_cons_of_mem _ (List.mem_append_left _ (List.mem_append_left _ (List.mem_append_left _ (List.mem_append_left _ (List.mem_append_right _ h))))), List.forall_mem_cons.mpr ⟨fun _ h => List.mem_cons_of_mem _ (List.mem_append_left _ (List.mem_append_left _ (List.mem_append_left _ (List.mem_append_right _ h)))), List.forall_mem_cons.mpr ⟨fun _ h => List.mem_cons_of_mem _ (List.mem_append_left _ (List.mem_append_left _ (List.mem_append_right _ h))), List.forall_mem_cons.mpr ⟨fun _ h => List.mem_cons_of_mem _ (List.mem_append_left _ (List.mem_append_right _ h)), List.forall_mem_cons.mpr ⟨fun _ h => List.mem_cons_of_mem _ (List.mem_append_right _ h), fun l h => absurd h List.not_mem_nil⟩⟩⟩⟩⟩⟩⟩⟩⟩⟩⟩⟩⟩⟩⟩⟩⟩⟩
set_option maxRecDepth 20000 in
theorem ggX5_leastFrom_X5_seatSet : GoodIn wsX5_leastFrom wsX5_seatSet := goodIn_sl csX5_leastFrom ciX5_leastFrom _ [(1, 6, 1), (1, 0, 1), (1, 7, 17), (2, 0, 24), (3, 0, 24), (4, 0, 24), (5, 0, 24), (6, 0, 24), (7, 0, 24), (8, 0, 24), (9, 0, 24), (10, 0, 7), (12, 0, 10), (13, 0, 13), (14, 0, 4), (15, 0, 9), (16, 0, 6), (17, 0, 8)] rfl gw_wsX5_seatSet
set_option maxRecDepth 20000 in
theorem gX5_leastFrom_X5_seatSet : GoodIn wsX5_leastFrom (wsV RX5 49 RX5 yX5_seatSet wsX5_seatSet) := goodIn_app (goodIn_sl csX5_leastFrom ciX5_leastFrom _ [(1, 2, 4)] rfl rfl) ggX5_leastFrom_X5_seatSet
noncomputable def csX5_seatSet : List (List Cond) := [[.code yX5_seatSet cX5_seatSet 6 (some .boolean)], wsX5_seatSet_r1, wsX5_seatSet_r2, wsX5_seatSet_r3, wsX5_seatSet_r4, wsX5_seatSet_r5, wsX5_seatSet_r6, wsX5_seatSet_r7, wsX5_seatSet_r8, wsX5_seatSet_r9, wsX5_seatSet_r10, wsX50, wsX80, wsX40, wsX10, wsX20, wsX30]
set_option maxRecDepth 20000 in
theorem ciX5_seatSet : ∀ l ∈ csX5_seatSet, ∀ w ∈ l, w ∈ wsX5_seatSet := by
  unfold csX5_seatSet
  refine List.forall_mem_cons.mpr ⟨fun _ h => List.mem_cons.mpr (Or.inl (List.mem_singleton.mp h)), List.forall_mem_cons.mpr ⟨fun _ h => List.mem_cons_of_mem _ (List.mem_append_left _ (List.mem_append_left _ (List.mem_append_left _ (List.mem_append_left _ (List.mem_append_left _ (List.mem_append_left _ (List.mem_append_left _ h))))))), List.forall_mem_cons.mpr ⟨fun _ h => List.mem_cons_of_mem _ (List.mem_append_left _ (List.mem_append_left _ (List.mem_append_left _ (List.mem_append_left _ (List.mem_append_left _ (List.mem_append_left _ (List.mem_append_right _ (List.mem_append_left _ h)))))))), List.forall_mem_cons.mpr ⟨fun _ h => List.mem_cons_of_mem _ (List.mem_append_left _ (List.mem_append_left _ (List.mem_append_left _ (List.mem_append_left _ (List.mem_append_left _ (List.mem_append_left _ (List.mem_append_right _ (List.mem_append_right _ (List.mem_append_left _ h))))))))), List.forall_mem_cons.mpr ⟨fun _ h => List.mem_cons_of_mem _ (List.mem_append_left _ (List.mem_append_left _ (List.mem_append_left _ (List.mem_append_left _ (List.mem_append_left _ (List.mem_append_left _ (List.mem_append_right _ (List.mem_append_right _ (List.mem_append_right _ (List.mem_append_left _ h)))))))))), List.forall_mem_cons.mpr ⟨fun _ h => List.mem_cons_of_mem _ (List.mem_append_left _ (List.mem_append_left _ (List.mem_append_left _ (List.mem_append_left _ (List.mem_append_left _ (List.mem_append_left _ (List.mem_append_right _ (List.mem_append_right _ (List.mem_append_right _ (List.mem_append_right _ (List.mem_append_left _ h))))))))))), List.forall_mem_cons.mpr ⟨fun _ h => List.mem_cons_of_mem _ (List.mem_append_left _ (List.mem_append_left _ (List.mem_append_left _ (List.mem_append_left _ (List.mem_append_left _ (List.mem_append_left _ (List.mem_append_right _ (List.mem_append_right _ (List.mem_append_right _ (List.mem_append_right _ (List.mem_append_right _ (List.mem_append_left _ h)))))))))))), List.forall_mem_cons.mpr ⟨fun _ h => List.mem_cons_of_mem _ (List.mem_append_left _ (List.mem_append_left _ (List.mem_append_left _ (List.mem_append_left _ (List.mem_append_left _ (List.mem_append_left _ (List.mem_append_right _ (List.mem_append_right _ (List.mem_append_right _ (List.mem_append_right _ (List.mem_append_right _ (List.mem_append_right _ (List.mem_append_left _ h))))))))))))), List.forall_mem_cons.mpr ⟨fun _ h => List.mem_cons_of_mem _ (List.mem_append_left _ (List.mem_append_left _ (List.mem_append_left _ (List.mem_append_left _ (List.mem_append_left _ (List.mem_append_left _ (List.mem_append_right _ (List.mem_append_right _ (List.mem_append_right _ (List.mem_append_right _ (List.mem_append_right _ (List.mem_append_right _ (List.mem_append_right _ (List.mem_append_left _ h)))))))))))))), List.forall_mem_cons.mpr ⟨fun _ h => List.mem_cons_of_mem _ (List.mem_append_left _ (List.mem_append_left _ (List.mem_append_left _ (List.mem_append_left _ (List.mem_append_left _ (List.mem_append_left _ (List.mem_append_right _ (List.mem_append_right _ (List.mem_append_right _ (List.mem_append_right _ (List.mem_append_right _ (List.mem_append_right _ (List.mem_append_right _ (List.mem_append_right _ (List.mem_append_left _ h))))))))))))))), List.forall_mem_cons.mpr ⟨fun _ h => List.mem_cons_of_mem _ (List.mem_append_left _ (List.mem_append_left _ (List.mem_append_left _ (List.mem_append_left _ (List.mem_append_left _ (List.mem_append_left _ (List.mem_append_right _ (List.mem_append_right _ (List.mem_append_right _ (List.mem_append_right _ (List.mem_append_right _ (List.mem_append_right _ (List.mem_append_right _ (List.mem_append_right _ (List.mem_append_right _ h))))))))))))))), List.forall_mem_cons.mpr ⟨fun _ h => List.mem_cons_of_mem _ (List.mem_append_left _ (List.mem_append_left _ (List.mem_append_left _ (List.mem_append_left _ (List.mem_append_left _ (List.mem_append_right _ h)))))), List.forall_mem_cons.mpr ⟨fun _ h => List.mem_cons_of_mem _ (List.mem_append_left _ (List.mem_append_left _ (List.mem_append_left _ (List.mem_append_left _ (List.mem_append_right _ h))))), List.forall_mem_cons.mpr ⟨fun _ h => List.mem_cons_of_mem _ (List.mem_append_left _ (List.mem_append_left _ (List.mem_append_left _ (List.mem_append_right _ h)))), List.forall_mem_cons.mpr ⟨fun _ h => List.mem_cons_of_mem _ (List.mem_append_left _ (List.mem_append_left _ (List.mem_append_right _ h))), List.forall_mem_cons.mpr ⟨fun _ h => List.mem_cons_of_mem _ (List.mem_append_left _ (List.mem_append_right _ h)), List.forall_mem_cons.mpr ⟨fun _ h => List.mem_cons_of_mem _ (List.mem_append_right _ h), fun l h => absurd h List.not_mem_nil⟩⟩⟩⟩⟩⟩⟩⟩⟩⟩⟩⟩⟩⟩⟩⟩⟩
set_option maxRecDepth 20000 in
theorem ggX5_seatSet_X1_choose : GoodIn wsX5_seatSet wsX1_choose := goodIn_sl csX5_seatSet ciX5_seatSet _ [(7, 14, 8), (2, 9, 3), (7, 22, 2), (8, 0, 4), (7, 13, 1), (8, 4, 12), (1, 15, 1), (8, 16, 1), (6, 6, 1), (6, 2, 1), (1, 18, 1), (6, 11, 4), (8, 17, 7), (9, 0, 12), (6, 19, 2), (9, 12, 12), (10, 0, 1), (14, 0, 9), (12, 0, 13), (15, 0, 6)] rfl gw_wsX1_choose
set_option maxRecDepth 20000 in
theorem gX5_seatSet_X1_choose : GoodIn wsX5_seatSet (wsV RX5 99 RX1 yX1_choose wsX1_choose) := goodIn_app (goodIn_sl csX5_seatSet ciX5_seatSet _ [(7, 10, 4)] rfl rfl) ggX5_seatSet_X1_choose
noncomputable def csX6_mendAll : List (List Cond) := [[.code yX6_mendAll cX6_mendAll 7 (some .int)], wsX6_mendAll_r1, wsX6_mendAll_r2, wsX6_mendAll_r3, wsX6_mendAll_r4, wsX6_mendAll_r5, wsX6_mendAll_r6, wsX60, wsX40, wsX80, wsX10, wsX20]
set_option maxRecDepth 20000 in
theorem ciX6_mendAll : ∀ l ∈ csX6_mendAll, ∀ w ∈ l, w ∈ wsX6_mendAll := by
  unfold csX6_mendAll
  refine List.forall_mem_cons.mpr ⟨fun _ h => List.mem_cons.mpr (Or.inl (List.mem_singleton.mp h)), List.forall_mem_cons.mpr ⟨fun _ h => List.mem_cons_of_mem _ (List.mem_append_left _ (List.mem_append_left _ (List.mem_append_left _ (List.mem_append_left _ (List.mem_append_left _ (List.mem_append_left _ h)))))), List.forall_mem_cons.mpr ⟨fun _ h => List.mem_cons_of_mem _ (List.mem_append_left _ (List.mem_append_left _ (List.mem_append_left _ (List.mem_append_left _ (List.mem_append_left _ (List.mem_append_right _ (List.mem_append_left _ h))))))), List.forall_mem_cons.mpr ⟨fun _ h => List.mem_cons_of_mem _ (List.mem_append_left _ (List.mem_append_left _ (List.mem_append_left _ (List.mem_append_left _ (List.mem_append_left _ (List.mem_append_right _ (List.mem_append_right _ (List.mem_append_left _ h)))))))), List.forall_mem_cons.mpr ⟨fun _ h => List.mem_cons_of_mem _ (List.mem_append_left _ (List.mem_append_left _ (List.mem_append_left _ (List.mem_append_left _ (List.mem_append_left _ (List.mem_append_right _ (List.mem_append_right _ (List.mem_append_right _ (List.mem_append_left _ h))))))))), List.forall_mem_cons.mpr ⟨fun _ h => List.mem_cons_of_mem _ (List.mem_append_left _ (List.mem_append_left _ (List.mem_append_left _ (List.mem_append_left _ (List.mem_append_left _ (List.mem_append_right _ (List.mem_append_right _ (List.mem_append_right _ (List.mem_append_right _ (List.mem_append_left _ h)))))))))), List.forall_mem_cons.mpr ⟨fun _ h => List.mem_cons_of_mem _ (List.mem_append_left _ (List.mem_append_left _ (List.mem_append_left _ (List.mem_append_left _ (List.mem_append_left _ (List.mem_append_right _ (List.mem_append_right _ (List.mem_append_right _ (List.mem_append_right _ (List.mem_append_right _ h)))))))))), List.forall_mem_cons.mpr ⟨fun _ h => List.mem_cons_of_mem _ (List.mem_append_left _ (List.mem_append_left _ (List.mem_append_left _ (List.mem_append_left _ (List.mem_append_right _ h))))), List.forall_mem_cons.mpr ⟨fun _ h => List.mem_cons_of_mem _ (List.mem_append_left _ (List.mem_append_left _ (List.mem_append_left _ (List.mem_append_right _ h)))), List.forall_mem_cons.mpr ⟨fun _ h => List.mem_cons_of_mem _ (List.mem_append_left _ (List.mem_append_left _ (List.mem_append_right _ h))), List.forall_mem_cons.mpr ⟨fun _ h => List.mem_cons_of_mem _ (List.mem_append_left _ (List.mem_append_right _ h)), List.forall_mem_cons.mpr ⟨fun _ h => List.mem_cons_of_mem _ (List.mem_append_right _ h), fun l h => absurd h List.not_mem_nil⟩⟩⟩⟩⟩⟩⟩⟩⟩⟩⟩⟩
set_option maxRecDepth 20000 in
theorem ggX6_mendAll_X1_choose : GoodIn wsX6_mendAll wsX1_choose := goodIn_sl csX6_mendAll ciX6_mendAll _ [(2, 7, 9), (1, 17, 1), (2, 16, 7), (2, 6, 1), (2, 23, 1), (3, 0, 24), (4, 0, 24), (5, 0, 6), (10, 0, 9), (9, 0, 13), (11, 0, 6)] rfl gw_wsX1_choose
set_option maxRecDepth 20000 in
theorem gX6_mendAll_X1_choose : GoodIn wsX6_mendAll (wsV RX6 65 RX1 yX1_choose wsX1_choose) := goodIn_app (goodIn_sl csX6_mendAll ciX6_mendAll _ [(2, 3, 4)] rfl rfl) ggX6_mendAll_X1_choose
set_option maxRecDepth 20000 in
theorem ggX12_ofTable_X12_even : GoodIn wsX12_ofTable wsX12_even := goodIn_sl csX12_ofTable ciX12_ofTable _ [(1, 17, 6), (1, 8, 1), (1, 23, 1), (2, 0, 6), (1, 0, 1), (1, 4, 1), (2, 6, 18), (3, 0, 2), (4, 0, 59)] rfl gw_wsX12_even
set_option maxRecDepth 20000 in
theorem gX12_ofTable_X12_even : GoodIn wsX12_ofTable (wsV RX12 278 RX12 yX12_even wsX12_even) := goodIn_app (goodIn_sl csX12_ofTable ciX12_ofTable _ [(1, 14, 3), (1, 8, 1)] rfl rfl) ggX12_ofTable_X12_even
noncomputable def csX12_product : List (List Cond) := [[.code yX12_product cX12_product 4 (some .int)], wsX12_product_r1, wsX12_product_r2, wsX120]
set_option maxRecDepth 20000 in
theorem ciX12_product : ∀ l ∈ csX12_product, ∀ w ∈ l, w ∈ wsX12_product := by
  unfold csX12_product
  refine List.forall_mem_cons.mpr ⟨fun _ h => List.mem_cons.mpr (Or.inl (List.mem_singleton.mp h)), List.forall_mem_cons.mpr ⟨fun _ h => List.mem_cons_of_mem _ (List.mem_append_left _ (List.mem_append_left _ h)), List.forall_mem_cons.mpr ⟨fun _ h => List.mem_cons_of_mem _ (List.mem_append_left _ (List.mem_append_right _ h)), List.forall_mem_cons.mpr ⟨fun _ h => List.mem_cons_of_mem _ (List.mem_append_right _ h), fun l h => absurd h List.not_mem_nil⟩⟩⟩⟩
set_option maxRecDepth 20000 in
theorem ggX12_product_X12_one : GoodIn wsX12_product wsX12_one := goodIn_sl csX12_product ciX12_product _ [(1, 13, 1), (1, 0, 2), (1, 14, 5), (1, 6, 3), (1, 5, 1), (1, 9, 4), (1, 19, 5), (2, 0, 5), (0, 0, 1), (1, 2, 3), (2, 5, 4), (3, 0, 59)] rfl gw_wsX12_one
set_option maxRecDepth 20000 in
theorem gX12_product_X12_one : GoodIn wsX12_product (wsV RX12 194 RX12 yX12_one wsX12_one) := goodIn_app (goodIn_sl csX12_product ciX12_product _ [(1, 2, 4)] rfl rfl) ggX12_product_X12_one
noncomputable def csX12_choose : List (List Cond) := [[.code yX12_choose cX12_choose 7 none], wsX12_choose_r1, wsX12_choose_r2, wsX120]
set_option maxRecDepth 20000 in
theorem ciX12_choose : ∀ l ∈ csX12_choose, ∀ w ∈ l, w ∈ wsX12_choose := by
  unfold csX12_choose
  refine List.forall_mem_cons.mpr ⟨fun _ h => List.mem_cons.mpr (Or.inl (List.mem_singleton.mp h)), List.forall_mem_cons.mpr ⟨fun _ h => List.mem_cons_of_mem _ (List.mem_append_left _ (List.mem_append_left _ h)), List.forall_mem_cons.mpr ⟨fun _ h => List.mem_cons_of_mem _ (List.mem_append_left _ (List.mem_append_right _ h)), List.forall_mem_cons.mpr ⟨fun _ h => List.mem_cons_of_mem _ (List.mem_append_right _ h), fun l h => absurd h List.not_mem_nil⟩⟩⟩⟩
set_option maxRecDepth 20000 in
theorem ggX12_choose_X12_pick : GoodIn wsX12_choose wsX12_pick := goodIn_sl csX12_choose ciX12_choose _ [(1, 10, 1), (1, 1, 1), (1, 11, 2), (1, 3, 1), (1, 13, 3), (1, 9, 1), (1, 16, 8), (2, 0, 10), (3, 0, 59)] rfl gw_wsX12_pick
set_option maxRecDepth 20000 in
theorem gX12_choose_X12_pick : GoodIn wsX12_choose (wsV RX12 253 RX12 yX12_pick wsX12_pick) := goodIn_app (goodIn_sl csX12_choose ciX12_choose _ [(1, 6, 4)] rfl rfl) ggX12_choose_X12_pick
noncomputable def csX12_tries : List (List Cond) := [[.code yX12_tries cX12_tries 5 none], wsX12_tries_r1, wsX12_tries_r2, wsX12_tries_r3, wsX12_tries_r4, wsX120]
set_option maxRecDepth 20000 in
theorem ciX12_tries : ∀ l ∈ csX12_tries, ∀ w ∈ l, w ∈ wsX12_tries := by
  unfold csX12_tries
  refine List.forall_mem_cons.mpr ⟨fun _ h => List.mem_cons.mpr (Or.inl (List.mem_singleton.mp h)), List.forall_mem_cons.mpr ⟨fun _ h => List.mem_cons_of_mem _ (List.mem_append_left _ (List.mem_append_left _ h)), List.forall_mem_cons.mpr ⟨fun _ h => List.mem_cons_of_mem _ (List.mem_append_left _ (List.mem_append_right _ (List.mem_append_left _ h))), List.forall_mem_cons.mpr ⟨fun _ h => List.mem_cons_of_mem _ (List.mem_append_left _ (List.mem_append_right _ (List.mem_append_right _ (List.mem_append_left _ h)))), List.forall_mem_cons.mpr ⟨fun _ h => List.mem_cons_of_mem _ (List.mem_append_left _ (List.mem_append_right _ (List.mem_append_right _ (List.mem_append_right _ h)))), List.forall_mem_cons.mpr ⟨fun _ h => List.mem_cons_of_mem _ (List.mem_append_right _ h), fun l h => absurd h List.not_mem_nil⟩⟩⟩⟩⟩⟩
set_option maxRecDepth 20000 in
theorem ggX12_tries_X12_numbers : GoodIn wsX12_tries wsX12_numbers := goodIn_sl csX12_tries ciX12_tries _ [(1, 22, 2), (2, 0, 3), (1, 4, 3), (1, 8, 5), (1, 0, 1), (5, 0, 59)] rfl gw_wsX12_numbers
set_option maxRecDepth 20000 in
theorem gX12_tries_X12_numbers : GoodIn wsX12_tries (wsV RX12 231 RX12 yX12_numbers wsX12_numbers) := goodIn_app (goodIn_sl csX12_tries ciX12_tries _ [(1, 19, 3), (1, 11, 1)] rfl rfl) ggX12_tries_X12_numbers
set_option maxRecDepth 20000 in
theorem ggX12_act_X12_movesFrom : GoodIn wsX12_act wsX12_movesFrom := goodIn_sl csX12_act ciX12_act _ [(2, 7, 1), (1, 1, 1), (1, 16, 3), (1, 5, 1), (1, 19, 1), (1, 0, 1), (1, 20, 1), (2, 4, 3), (1, 11, 5), (1, 21, 3), (3, 0, 59)] rfl gw_wsX12_movesFrom
set_option maxRecDepth 20000 in
theorem gX12_act_X12_movesFrom : GoodIn wsX12_act (wsV RX12 349 RX12 yX12_movesFrom wsX12_movesFrom) := goodIn_app (goodIn_sl csX12_act ciX12_act _ [(2, 4, 3), (1, 5, 1)] rfl rfl) ggX12_act_X12_movesFrom
set_option maxRecDepth 20000 in
theorem ggX12_keeperOf_X12_isName : GoodIn wsX12_keeperOf wsX12_isName := goodIn_sl csX12_keeperOf ciX12_keeperOf _ [(1, 14, 2), (1, 8, 2), (1, 5, 1), (1, 10, 1), (4, 0, 59)] rfl gw_wsX12_isName
set_option maxRecDepth 20000 in
theorem gX12_keeperOf_X12_isName : GoodIn wsX12_keeperOf (wsV RX12 158 RX12 yX12_isName wsX12_isName) := goodIn_app (goodIn_sl csX12_keeperOf ciX12_keeperOf _ [(1, 11, 3), (1, 5, 1)] rfl rfl) ggX12_keeperOf_X12_isName
set_option maxRecDepth 20000 in
theorem ggX12_write_X12_bits : GoodIn wsX12_write wsX12_bits := goodIn_sl csX12_write ciX12_write _ [(4, 11, 1), (1, 3, 2), (6, 0, 59)] rfl gw_wsX12_bits
set_option maxRecDepth 20000 in
theorem gX12_write_X12_bits : GoodIn wsX12_write (wsV RX12 281 RX12 yX12_bits wsX12_bits) := goodIn_app (goodIn_sl csX12_write ciX12_write _ [(4, 8, 3), (1, 11, 1)] rfl rfl) ggX12_write_X12_bits
set_option maxRecDepth 20000 in
theorem ggX12_choose_X12_streetsOf : GoodIn wsX12_choose wsX12_streetsOf := goodIn_sl csX12_choose ciX12_choose _ [(2, 13, 1), (1, 0, 1), (2, 14, 1), (1, 5, 1), (3, 0, 59)] rfl gw_wsX12_streetsOf
set_option maxRecDepth 20000 in
theorem gX12_choose_X12_streetsOf : GoodIn wsX12_choose (wsV RX12 257 RX12 yX12_streetsOf wsX12_streetsOf) := goodIn_app (goodIn_sl csX12_choose ciX12_choose _ [(2, 10, 3), (1, 9, 1)] rfl rfl) ggX12_choose_X12_streetsOf
set_option maxRecDepth 20000 in
theorem ggX12_choose_X12_isChosen : GoodIn wsX12_choose wsX12_isChosen := goodIn_sl csX12_choose ciX12_choose _ [(2, 18, 1), (1, 0, 1), (1, 5, 1), (3, 0, 59)] rfl gw_wsX12_isChosen
set_option maxRecDepth 20000 in
theorem gX12_choose_X12_isChosen : GoodIn wsX12_choose (wsV RX12 260 RX12 yX12_isChosen wsX12_isChosen) := goodIn_app (goodIn_sl csX12_choose ciX12_choose _ [(2, 15, 3), (1, 9, 1)] rfl rfl) ggX12_choose_X12_isChosen
noncomputable def csX12_reads : List (List Cond) := [[.code yX12_reads cX12_reads 7 (some .int)], wsX12_reads_r1, wsX12_reads_r2, wsX120]
set_option maxRecDepth 20000 in
theorem ciX12_reads : ∀ l ∈ csX12_reads, ∀ w ∈ l, w ∈ wsX12_reads := by
  unfold csX12_reads
  refine List.forall_mem_cons.mpr ⟨fun _ h => List.mem_cons.mpr (Or.inl (List.mem_singleton.mp h)), List.forall_mem_cons.mpr ⟨fun _ h => List.mem_cons_of_mem _ (List.mem_append_left _ (List.mem_append_left _ h)), List.forall_mem_cons.mpr ⟨fun _ h => List.mem_cons_of_mem _ (List.mem_append_left _ (List.mem_append_right _ h)), List.forall_mem_cons.mpr ⟨fun _ h => List.mem_cons_of_mem _ (List.mem_append_right _ h), fun l h => absurd h List.not_mem_nil⟩⟩⟩⟩
set_option maxRecDepth 20000 in
theorem ggX12_reads_X12_eats : GoodIn wsX12_reads wsX12_eats := goodIn_sl csX12_reads ciX12_reads _ [(1, 17, 1), (1, 3, 1), (1, 1, 1), (1, 8, 5), (1, 7, 1), (1, 0, 1), (1, 13, 1), (3, 0, 59)] rfl gw_wsX12_eats
set_option maxRecDepth 20000 in
theorem gX12_reads_X12_eats : GoodIn wsX12_reads (wsV RX12 203 RX12 yX12_eats wsX12_eats) := goodIn_app (goodIn_sl csX12_reads ciX12_reads _ [(1, 14, 3), (1, 11, 1)] rfl rfl) ggX12_reads_X12_eats
noncomputable def csX12_keeps : List (List Cond) := [[.code yX12_keeps cX12_keeps 8 (some .int)], [.fieldLink RX12 240 "SeatsRoundModel" "pickedMany" "I", .fieldLink RX12 118 "SeatsRoundModel" "picked" "[I", .fieldLink RX12 74 "SeatsRoundModel" "keptFor" "[I", .fieldLink RX12 71 "SeatsRoundModel" "kept" "[I", .methodLink RX12 287 yX12_isAwake, .instanceMethod yX12_isAwake, .selects RX12 yX12_isAwake yX12_isAwake, .initialized RX12, .code yX12_isAwake cX12_isAwake 2 (some .boolean), .fieldLink RX12 22 "SeatsRoundModel" "kind" "[I", .fieldLink RX12 28 "SeatsRoundModel" "isFallen" "[Z"], wsX120]
set_option maxRecDepth 20000 in
theorem ciX12_keeps : ∀ l ∈ csX12_keeps, ∀ w ∈ l, w ∈ wsX12_keeps := by
  unfold csX12_keeps
  refine List.forall_mem_cons.mpr ⟨fun _ h => List.mem_cons.mpr (Or.inl (List.mem_singleton.mp h)), List.forall_mem_cons.mpr ⟨fun _ h => List.mem_cons_of_mem _ (List.mem_append_left _ h), List.forall_mem_cons.mpr ⟨fun _ h => List.mem_cons_of_mem _ (List.mem_append_right _ h), fun l h => absurd h List.not_mem_nil⟩⟩⟩
set_option maxRecDepth 20000 in
theorem ggX12_keeps_X12_isAwake : GoodIn wsX12_keeps wsX12_isAwake := goodIn_sl csX12_keeps ciX12_keeps _ [(1, 8, 3), (2, 0, 59)] rfl gw_wsX12_isAwake
set_option maxRecDepth 20000 in
theorem gX12_keeps_X12_isAwake : GoodIn wsX12_keeps (wsV RX12 287 RX12 yX12_isAwake wsX12_isAwake) := goodIn_app (goodIn_sl csX12_keeps ciX12_keeps _ [(1, 4, 4)] rfl rfl) ggX12_keeps_X12_isAwake
set_option maxRecDepth 20000 in
theorem ggX12_reads_X12_here : GoodIn wsX12_reads wsX12_here := goodIn_sl csX12_reads ciX12_reads _ [(1, 12, 1), (1, 1, 1), (1, 7, 1), (1, 0, 1), (1, 13, 1), (3, 0, 59)] rfl gw_wsX12_here
set_option maxRecDepth 20000 in
theorem gX12_reads_X12_here : GoodIn wsX12_reads (wsV RX12 187 RX12 yX12_here wsX12_here) := goodIn_app (goodIn_sl csX12_reads ciX12_reads _ [(1, 8, 4)] rfl rfl) ggX12_reads_X12_here
noncomputable def csX1_pickByJumps : List (List Cond) := [[.code yX1_pickByJumps cX1_pickByJumps 4 none], [.fieldLink RX1 31 "SeatsRound$Choice" "pickBits" "I", .fieldLink RX1 59 "SeatsRound$Table" "members" "I", .methodLink RX1 82 yX1_pickFirstFrom, .instanceMethod yX1_pickFirstFrom, .selects RX1 yX1_pickFirstFrom yX1_pickFirstFrom, .initialized RX1, .code yX1_pickFirstFrom cX1_pickFirstFrom 5 none, .fieldLink RX1 56 "SeatsRound$Table" "seats" "I", .fieldLink RX1 62 "SeatsRound$Table" "ahead" "[S", .fieldLink RX1 66 "SeatsRound$Table" "owner" "[B", .methodLink RX1 70 yX1_isPicked, .instanceMethod yX1_isPicked, .selects RX1 yX1_isPicked yX1_isPicked, .code yX1_isPicked cX1_isPicked 2 (some .boolean), .methodLink RX1 74 yX1_takePick, .instanceMethod yX1_takePick, .selects RX1 yX1_takePick yX1_takePick, .code yX1_takePick cX1_takePick 2 none, .fieldLink RX1 18 "SeatsRound$Choice" "pickCount" "I", .fieldLink RX1 9 "SeatsRound$Choice" "picks" "[I", .static yX11_placeBehind, .initialized RX11, .code yX11_placeBehind cX11_placeBehind 1 (some .int)], wsX10, wsX80]
set_option maxRecDepth 20000 in
theorem ciX1_pickByJumps : ∀ l ∈ csX1_pickByJumps, ∀ w ∈ l, w ∈ wsX1_pickByJumps := by
  unfold csX1_pickByJumps
  refine List.forall_mem_cons.mpr ⟨fun _ h => List.mem_cons.mpr (Or.inl (List.mem_singleton.mp h)), List.forall_mem_cons.mpr ⟨fun _ h => List.mem_cons_of_mem _ (List.mem_append_left _ (List.mem_append_left _ h)), List.forall_mem_cons.mpr ⟨fun _ h => List.mem_cons_of_mem _ (List.mem_append_left _ (List.mem_append_right _ h)), List.forall_mem_cons.mpr ⟨fun _ h => List.mem_cons_of_mem _ (List.mem_append_right _ h), fun l h => absurd h List.not_mem_nil⟩⟩⟩⟩
set_option maxRecDepth 20000 in
theorem ggX1_pickByJumps_X1_pickFirstFrom : GoodIn wsX1_pickByJumps wsX1_pickFirstFrom := goodIn_sl csX1_pickByJumps ciX1_pickByJumps _ [(1, 6, 7), (1, 5, 1), (1, 13, 1), (1, 0, 1), (1, 14, 9), (3, 0, 13), (2, 0, 9)] rfl gw_wsX1_pickFirstFrom
set_option maxRecDepth 20000 in
theorem gX1_pickByJumps_X1_pickFirstFrom : GoodIn wsX1_pickByJumps (wsV RX1 82 RX1 yX1_pickFirstFrom wsX1_pickFirstFrom) := goodIn_app (goodIn_sl csX1_pickByJumps ciX1_pickByJumps _ [(1, 2, 4)] rfl rfl) ggX1_pickByJumps_X1_pickFirstFrom
noncomputable def csX1_pick : List (List Cond) := [[.code yX1_pick cX1_pick 3 none], wsX1_pick_r1, wsX1_pick_r2, wsX10, wsX80]
set_option maxRecDepth 20000 in
theorem ciX1_pick : ∀ l ∈ csX1_pick, ∀ w ∈ l, w ∈ wsX1_pick := by
  unfold csX1_pick
  refine List.forall_mem_cons.mpr ⟨fun _ h => List.mem_cons.mpr (Or.inl (List.mem_singleton.mp h)), List.forall_mem_cons.mpr ⟨fun _ h => List.mem_cons_of_mem _ (List.mem_append_left _ (List.mem_append_left _ (List.mem_append_left _ h))), List.forall_mem_cons.mpr ⟨fun _ h => List.mem_cons_of_mem _ (List.mem_append_left _ (List.mem_append_left _ (List.mem_append_right _ h))), List.forall_mem_cons.mpr ⟨fun _ h => List.mem_cons_of_mem _ (List.mem_append_left _ (List.mem_append_right _ h)), List.forall_mem_cons.mpr ⟨fun _ h => List.mem_cons_of_mem _ (List.mem_append_right _ h), fun l h => absurd h List.not_mem_nil⟩⟩⟩⟩⟩
set_option maxRecDepth 20000 in
theorem ggX1_pick_X1_pickByJumps : GoodIn wsX1_pick wsX1_pickByJumps := goodIn_sl csX1_pick ciX1_pick _ [(2, 2, 1), (1, 1, 1), (1, 8, 1), (2, 3, 3), (1, 6, 1), (2, 6, 12), (1, 0, 1), (1, 10, 1), (2, 18, 1), (1, 20, 1), (2, 19, 1), (3, 0, 9), (4, 0, 13)] rfl gw_wsX1_pickByJumps
set_option maxRecDepth 20000 in
theorem gX1_pick_X1_pickByJumps : GoodIn wsX1_pick (wsV RX1 50 RX1 yX1_pickByJumps wsX1_pickByJumps) := goodIn_app (goodIn_sl csX1_pick ciX1_pick _ [(1, 23, 1), (2, 0, 2), (1, 6, 1)] rfl rfl) ggX1_pick_X1_pickByJumps
noncomputable def csX3_workOut : List (List Cond) := [[.code yX3_workOut cX3_workOut 5 (some .int)], wsX3_workOut_r1, wsX3_workOut_r2, wsX3_workOut_r3, wsX3_workOut_r4, wsX80, wsX30, wsX20]
set_option maxRecDepth 20000 in
theorem ciX3_workOut : ∀ l ∈ csX3_workOut, ∀ w ∈ l, w ∈ wsX3_workOut := by
  unfold csX3_workOut
  refine List.forall_mem_cons.mpr ⟨fun _ h => List.mem_cons.mpr (Or.inl (List.mem_singleton.mp h)), List.forall_mem_cons.mpr ⟨fun _ h => List.mem_cons_of_mem _ (List.mem_append_left _ (List.mem_append_left _ (List.mem_append_left _ (List.mem_append_left _ h)))), List.forall_mem_cons.mpr ⟨fun _ h => List.mem_cons_of_mem _ (List.mem_append_left _ (List.mem_append_left _ (List.mem_append_left _ (List.mem_append_right _ (List.mem_append_left _ h))))), List.forall_mem_cons.mpr ⟨fun _ h => List.mem_cons_of_mem _ (List.mem_append_left _ (List.mem_append_left _ (List.mem_append_left _ (List.mem_append_right _ (List.mem_append_right _ (List.mem_append_left _ h)))))), List.forall_mem_cons.mpr ⟨fun _ h => List.mem_cons_of_mem _ (List.mem_append_left _ (List.mem_append_left _ (List.mem_append_left _ (List.mem_append_right _ (List.mem_append_right _ (List.mem_append_right _ h)))))), List.forall_mem_cons.mpr ⟨fun _ h => List.mem_cons_of_mem _ (List.mem_append_left _ (List.mem_append_left _ (List.mem_append_right _ h))), List.forall_mem_cons.mpr ⟨fun _ h => List.mem_cons_of_mem _ (List.mem_append_left _ (List.mem_append_right _ h)), List.forall_mem_cons.mpr ⟨fun _ h => List.mem_cons_of_mem _ (List.mem_append_right _ h), fun l h => absurd h List.not_mem_nil⟩⟩⟩⟩⟩⟩⟩⟩
set_option maxRecDepth 20000 in
theorem ggX3_workOut_X3_look : GoodIn wsX3_workOut wsX3_look := goodIn_sl csX3_workOut ciX3_workOut _ [(1, 13, 11), (2, 0, 8), (5, 0, 13), (6, 0, 8), (7, 0, 6)] rfl gw_wsX3_look
set_option maxRecDepth 20000 in
theorem gX3_workOut_X3_look : GoodIn wsX3_workOut (wsV RX3 45 RX3 yX3_look wsX3_look) := goodIn_app (goodIn_sl csX3_workOut ciX3_workOut _ [(1, 9, 4)] rfl rfl) ggX3_workOut_X3_look
noncomputable def csX11_table : List (List Cond) := [[.code yX11_table cX11_table 6 (some .int)], wsX11_table_r1, wsX11_table_r2, wsX11_table_r3, wsX11_table_r4, wsX11_table_r5, wsX11_table_r6, wsX11_table_r7, wsX110, wsX20, wsX90, wsX80, wsX30]
set_option maxRecDepth 20000 in
theorem ciX11_table : ∀ l ∈ csX11_table, ∀ w ∈ l, w ∈ wsX11_table := by
  unfold csX11_table
  refine List.forall_mem_cons.mpr ⟨fun _ h => List.mem_cons.mpr (Or.inl (List.mem_singleton.mp h)), List.forall_mem_cons.mpr ⟨fun _ h => List.mem_cons_of_mem _ (List.mem_append_left _ (List.mem_append_left _ (List.mem_append_left _ (List.mem_append_left _ (List.mem_append_left _ (List.mem_append_left _ h)))))), List.forall_mem_cons.mpr ⟨fun _ h => List.mem_cons_of_mem _ (List.mem_append_left _ (List.mem_append_left _ (List.mem_append_left _ (List.mem_append_left _ (List.mem_append_left _ (List.mem_append_right _ (List.mem_append_left _ h))))))), List.forall_mem_cons.mpr ⟨fun _ h => List.mem_cons_of_mem _ (List.mem_append_left _ (List.mem_append_left _ (List.mem_append_left _ (List.mem_append_left _ (List.mem_append_left _ (List.mem_append_right _ (List.mem_append_right _ (List.mem_append_left _ h)))))))), List.forall_mem_cons.mpr ⟨fun _ h => List.mem_cons_of_mem _ (List.mem_append_left _ (List.mem_append_left _ (List.mem_append_left _ (List.mem_append_left _ (List.mem_append_left _ (List.mem_append_right _ (List.mem_append_right _ (List.mem_append_right _ (List.mem_append_left _ h))))))))), List.forall_mem_cons.mpr ⟨fun _ h => List.mem_cons_of_mem _ (List.mem_append_left _ (List.mem_append_left _ (List.mem_append_left _ (List.mem_append_left _ (List.mem_append_left _ (List.mem_append_right _ (List.mem_append_right _ (List.mem_append_right _ (List.mem_append_right _ (List.mem_append_left _ h)))))))))), List.forall_mem_cons.mpr ⟨fun _ h => List.mem_cons_of_mem _ (List.mem_append_left _ (List.mem_append_left _ (List.mem_append_left _ (List.mem_append_left _ (List.mem_append_left _ (List.mem_append_right _ (List.mem_append_right _ (List.mem_append_right _ (List.mem_append_right _ (List.mem_append_right _ (List.mem_append_left _ h))))))))))), List.forall_mem_cons.mpr ⟨fun _ h => List.mem_cons_of_mem _ (List.mem_append_left _ (List.mem_append_left _ (List.mem_append_left _ (List.mem_append_left _ (List.mem_append_left _ (List.mem_append_right _ (List.mem_append_right _ (List.mem_append_right _ (List.mem_append_right _ (List.mem_append_right _ (List.mem_append_right _ h))))))))))), List.forall_mem_cons.mpr ⟨fun _ h => List.mem_cons_of_mem _ (List.mem_append_left _ (List.mem_append_left _ (List.mem_append_left _ (List.mem_append_left _ (List.mem_append_right _ h))))), List.forall_mem_cons.mpr ⟨fun _ h => List.mem_cons_of_mem _ (List.mem_append_left _ (List.mem_append_left _ (List.mem_append_left _ (List.mem_append_right _ h)))), List.forall_mem_cons.mpr ⟨fun _ h => List.mem_cons_of_mem _ (List.mem_append_left _ (List.mem_append_left _ (List.mem_append_right _ h))), List.forall_mem_cons.mpr ⟨fun _ h => List.mem_cons_of_mem _ (List.mem_append_left _ (List.mem_append_right _ h)), List.forall_mem_cons.mpr ⟨fun _ h => List.mem_cons_of_mem _ (List.mem_append_right _ h), fun l h => absurd h List.not_mem_nil⟩⟩⟩⟩⟩⟩⟩⟩⟩⟩⟩⟩⟩
set_option maxRecDepth 20000 in
theorem ggX11_table_X8_takeMembers : GoodIn wsX11_table wsX8_takeMembers := goodIn_sl csX11_table ciX11_table _ [(1, 15, 9), (2, 0, 1), (11, 0, 13), (9, 0, 6)] rfl gw_wsX8_takeMembers
set_option maxRecDepth 20000 in
theorem gX11_table_X8_takeMembers : GoodIn wsX11_table (wsV RX11 173 RX8 yX8_takeMembers wsX8_takeMembers) := goodIn_app (goodIn_sl csX11_table ciX11_table _ [(1, 12, 3), (1, 10, 1)] rfl rfl) ggX11_table_X8_takeMembers
noncomputable def csX5_leastOnward : List (List Cond) := [[.code yX5_leastOnward cX5_leastOnward 5 (some .int)], [.fieldLink RX5 15 "SeatsRound$Orders" "toldCount" "I", .methodLink RX5 108 yX5_sumOver, .instanceMethod yX5_sumOver, .selects RX5 yX5_sumOver yX5_sumOver, .initialized RX5, .code yX5_sumOver cX5_sumOver 6 (some .int), .fieldLink RX5 30 "SeatsRound$Orders" "least" "[I", .fieldLink RX5 37 "SeatsRound$Orders" "nameList" "LSeatsRound$NameList;", .fieldLink RX5 90 "SeatsRound$NameList" "count" "I", .fieldLink RX5 27 "SeatsRound$Orders" "holders" "[[I", .methodLink RX5 111 yJ6_bitCount_0f7a4, .static yJ6_bitCount_0f7a4, .initialized RJ6, .code yJ6_bitCount_0f7a4 cJ6_bitCount_0f7a4 1 (some .int), .constant RJ6 265 (1431655765), .constant RJ6 266 (858993459), .constant RJ6 267 (252645135)], wsX50, wsX40]
set_option maxRecDepth 20000 in
theorem ciX5_leastOnward : ∀ l ∈ csX5_leastOnward, ∀ w ∈ l, w ∈ wsX5_leastOnward := by
  unfold csX5_leastOnward
  refine List.forall_mem_cons.mpr ⟨fun _ h => List.mem_cons.mpr (Or.inl (List.mem_singleton.mp h)), List.forall_mem_cons.mpr ⟨fun _ h => List.mem_cons_of_mem _ (List.mem_append_left _ (List.mem_append_left _ h)), List.forall_mem_cons.mpr ⟨fun _ h => List.mem_cons_of_mem _ (List.mem_append_left _ (List.mem_append_right _ h)), List.forall_mem_cons.mpr ⟨fun _ h => List.mem_cons_of_mem _ (List.mem_append_right _ h), fun l h => absurd h List.not_mem_nil⟩⟩⟩⟩
set_option maxRecDepth 20000 in
theorem ggX5_leastOnward_X5_sumOver : GoodIn wsX5_leastOnward wsX5_sumOver := goodIn_sl csX5_leastOnward ciX5_leastOnward _ [(1, 5, 12), (2, 0, 10), (3, 0, 4)] rfl gw_wsX5_sumOver
set_option maxRecDepth 20000 in
theorem gX5_leastOnward_X5_sumOver : GoodIn wsX5_leastOnward (wsV RX5 108 RX5 yX5_sumOver wsX5_sumOver) := goodIn_app (goodIn_sl csX5_leastOnward ciX5_leastOnward _ [(1, 1, 4)] rfl rfl) ggX5_leastOnward_X5_sumOver
noncomputable def csX0_tellsFrom : List (List Cond) := [[.code yX0_tellsFrom cX0_tellsFrom 4 (some .int)], wsX0_tellsFrom_r1, wsX0_tellsFrom_r2, wsX00]
set_option maxRecDepth 20000 in
theorem ciX0_tellsFrom : ∀ l ∈ csX0_tellsFrom, ∀ w ∈ l, w ∈ wsX0_tellsFrom := by
  unfold csX0_tellsFrom
  refine List.forall_mem_cons.mpr ⟨fun _ h => List.mem_cons.mpr (Or.inl (List.mem_singleton.mp h)), List.forall_mem_cons.mpr ⟨fun _ h => List.mem_cons_of_mem _ (List.mem_append_left _ (List.mem_append_left _ h)), List.forall_mem_cons.mpr ⟨fun _ h => List.mem_cons_of_mem _ (List.mem_append_left _ (List.mem_append_right _ h)), List.forall_mem_cons.mpr ⟨fun _ h => List.mem_cons_of_mem _ (List.mem_append_right _ h), fun l h => absurd h List.not_mem_nil⟩⟩⟩⟩
set_option maxRecDepth 20000 in
theorem ggX0_tellsFrom_X0_movesFrom : GoodIn wsX0_tellsFrom wsX0_movesFrom := goodIn_sl csX0_tellsFrom ciX0_tellsFrom _ [(1, 18, 1), (1, 0, 1), (1, 19, 1), (1, 1, 7), (1, 15, 3), (1, 20, 4), (2, 0, 1), (3, 0, 5)] rfl gw_wsX0_movesFrom
set_option maxRecDepth 20000 in
theorem gX0_tellsFrom_X0_movesFrom : GoodIn wsX0_tellsFrom (wsV RX0 35 RX0 yX0_movesFrom wsX0_movesFrom) := goodIn_app (goodIn_sl csX0_tellsFrom ciX0_tellsFrom _ [(1, 15, 3), (1, 4, 1)] rfl rfl) ggX0_tellsFrom_X0_movesFrom
noncomputable def csX6_handBack : List (List Cond) := [[.code yX6_handBack cX6_handBack 4 none], [.fieldLink RX6 42 "SeatsRound$Parcels" "keepers" "LSeatsRound$Keepers;", .fieldLink RX6 120 "SeatsRound$Keepers" "count" "I", .fieldLink RX6 46 "SeatsRound$Parcels" "nameList" "LSeatsRound$NameList;", .fieldLink RX6 123 "SeatsRound$NameList" "count" "I", .fieldLink RX6 16 "SeatsRound$Parcels" "kept" "[[I", .fieldLink RX6 19 "SeatsRound$Parcels" "keptFor" "[[I", .methodLink RX6 100 yX6_takesGreater, .instanceMethod yX6_takesGreater, .selects RX6 yX6_takesGreater yX6_takesGreater, .initialized RX6, .code yX6_takesGreater cX6_takesGreater 4 (some .boolean), .fieldLink RX6 11 "SeatsRound$Parcels" "version" "[[I"], wsX60, wsX20, wsX40]
set_option maxRecDepth 20000 in
theorem ciX6_handBack : ∀ l ∈ csX6_handBack, ∀ w ∈ l, w ∈ wsX6_handBack := by
  unfold csX6_handBack
  refine List.forall_mem_cons.mpr ⟨fun _ h => List.mem_cons.mpr (Or.inl (List.mem_singleton.mp h)), List.forall_mem_cons.mpr ⟨fun _ h => List.mem_cons_of_mem _ (List.mem_append_left _ (List.mem_append_left _ (List.mem_append_left _ h))), List.forall_mem_cons.mpr ⟨fun _ h => List.mem_cons_of_mem _ (List.mem_append_left _ (List.mem_append_left _ (List.mem_append_right _ h))), List.forall_mem_cons.mpr ⟨fun _ h => List.mem_cons_of_mem _ (List.mem_append_left _ (List.mem_append_right _ h)), List.forall_mem_cons.mpr ⟨fun _ h => List.mem_cons_of_mem _ (List.mem_append_right _ h), fun l h => absurd h List.not_mem_nil⟩⟩⟩⟩⟩
set_option maxRecDepth 20000 in
theorem ggX6_handBack_X6_takesGreater : GoodIn wsX6_handBack wsX6_takesGreater := goodIn_sl csX6_handBack ciX6_handBack _ [(1, 10, 2), (2, 0, 12)] rfl gw_wsX6_takesGreater
set_option maxRecDepth 20000 in
theorem gX6_handBack_X6_takesGreater : GoodIn wsX6_handBack (wsV RX6 100 RX6 yX6_takesGreater wsX6_takesGreater) := goodIn_app (goodIn_sl csX6_handBack ciX6_handBack _ [(1, 6, 4)] rfl rfl) ggX6_handBack_X6_takesGreater
set_option maxRecDepth 20000 in
theorem ggX11_trees_X6_unlikeLeaves : GoodIn wsX11_trees wsX6_unlikeLeaves := goodIn_sl csX11_trees ciX11_trees _ [(2, 9, 1), (1, 13, 2), (5, 0, 12)] rfl gw_wsX6_unlikeLeaves
set_option maxRecDepth 20000 in
theorem gX11_trees_X6_unlikeLeaves : GoodIn wsX11_trees (wsV RX11 306 RX6 yX6_unlikeLeaves wsX6_unlikeLeaves) := goodIn_app (goodIn_sl csX11_trees ciX11_trees _ [(2, 6, 3), (1, 11, 1)] rfl rfl) ggX11_trees_X6_unlikeLeaves
noncomputable def csX8_seatAll : List (List Cond) := [[.code yX8_seatAll cX8_seatAll 4 none], wsX8_seatAll_r1, wsX8_seatAll_r2, wsX80]
set_option maxRecDepth 20000 in
theorem ciX8_seatAll : ∀ l ∈ csX8_seatAll, ∀ w ∈ l, w ∈ wsX8_seatAll := by
  unfold csX8_seatAll
  refine List.forall_mem_cons.mpr ⟨fun _ h => List.mem_cons.mpr (Or.inl (List.mem_singleton.mp h)), List.forall_mem_cons.mpr ⟨fun _ h => List.mem_cons_of_mem _ (List.mem_append_left _ (List.mem_append_left _ h)), List.forall_mem_cons.mpr ⟨fun _ h => List.mem_cons_of_mem _ (List.mem_append_left _ (List.mem_append_right _ h)), List.forall_mem_cons.mpr ⟨fun _ h => List.mem_cons_of_mem _ (List.mem_append_right _ h), fun l h => absurd h List.not_mem_nil⟩⟩⟩⟩
set_option maxRecDepth 20000 in
theorem ggX8_seatAll_X8_freeFrom : GoodIn wsX8_seatAll wsX8_freeFrom := goodIn_sl csX8_seatAll ciX8_seatAll _ [(1, 18, 1), (1, 3, 1), (1, 19, 1), (1, 11, 1), (1, 20, 1), (3, 0, 13)] rfl gw_wsX8_freeFrom
set_option maxRecDepth 20000 in
theorem gX8_seatAll_X8_freeFrom : GoodIn wsX8_seatAll (wsV RX8 90 RX8 yX8_freeFrom wsX8_freeFrom) := goodIn_app (goodIn_sl csX8_seatAll ciX8_seatAll _ [(1, 14, 4)] rfl rfl) ggX8_seatAll_X8_freeFrom
set_option maxRecDepth 20000 in
theorem ggX11_table_X8_init : GoodIn wsX11_table wsX8_init := goodIn_sl csX11_table ciX11_table _ [(5, 19, 4), (1, 16, 1), (5, 23, 1), (6, 0, 4), (2, 12, 1), (6, 4, 2), (1, 17, 1), (6, 6, 2), (2, 13, 1), (6, 8, 3), (11, 0, 13)] rfl gw_wsX8_init
set_option maxRecDepth 20000 in
theorem gX11_table_X8_init_n56 : GoodIn wsX11_table (wsX8_init) := ggX11_table_X8_init
noncomputable def csX8_takeMembers : List (List Cond) := [[.code yX8_takeMembers cX8_takeMembers 4 none], [.fieldLink RX8 9 "SeatsRound$Table" "members" "I", .fieldLink RX8 37 "SeatsRound$Table" "weight" "[I", .methodLink RX8 55 yX2_counting, .instanceMethod yX2_counting, .selects RX2 yX2_counting yX2_counting, .initialized RX2, .code yX2_counting cX2_counting 3 (some .int), .fieldLink RX2 9 "SeatsRound$Keepers" "kind" "[I", .fieldLink RX2 18 "SeatsRound$Keepers" "strength" "[I"], wsX80, wsX20]
set_option maxRecDepth 20000 in
theorem ciX8_takeMembers : ∀ l ∈ csX8_takeMembers, ∀ w ∈ l, w ∈ wsX8_takeMembers := by
  unfold csX8_takeMembers
  refine List.forall_mem_cons.mpr ⟨fun _ h => List.mem_cons.mpr (Or.inl (List.mem_singleton.mp h)), List.forall_mem_cons.mpr ⟨fun _ h => List.mem_cons_of_mem _ (List.mem_append_left _ (List.mem_append_left _ h)), List.forall_mem_cons.mpr ⟨fun _ h => List.mem_cons_of_mem _ (List.mem_append_left _ (List.mem_append_right _ h)), List.forall_mem_cons.mpr ⟨fun _ h => List.mem_cons_of_mem _ (List.mem_append_right _ h), fun l h => absurd h List.not_mem_nil⟩⟩⟩⟩
set_option maxRecDepth 20000 in
theorem ggX8_takeMembers_X2_counting : GoodIn wsX8_takeMembers wsX2_counting := goodIn_sl csX8_takeMembers ciX8_takeMembers _ [(1, 6, 3), (3, 0, 6)] rfl gw_wsX2_counting
set_option maxRecDepth 20000 in
theorem gX8_takeMembers_X2_counting : GoodIn wsX8_takeMembers (wsV RX8 55 RX2 yX2_counting wsX2_counting) := goodIn_app (goodIn_sl csX8_takeMembers ciX8_takeMembers _ [(1, 2, 4)] rfl rfl) ggX8_takeMembers_X2_counting
set_option maxRecDepth 20000 in
theorem ggX11_ofKeeper_X2_counting : GoodIn wsX11_ofKeeper wsX2_counting := goodIn_sl csX11_ofKeeper ciX11_ofKeeper _ [(1, 17, 3), (4, 0, 6)] rfl gw_wsX2_counting
set_option maxRecDepth 20000 in
theorem gX11_ofKeeper_X2_counting : GoodIn wsX11_ofKeeper (wsV RX11 156 RX2 yX2_counting wsX2_counting) := goodIn_app (goodIn_sl csX11_ofKeeper ciX11_ofKeeper _ [(1, 14, 3), (1, 11, 1)] rfl rfl) ggX11_ofKeeper_X2_counting
noncomputable def csX1_choose : List (List Cond) := [[.code yX1_choose cX1_choose 4 none], wsX1_choose_r1, wsX1_choose_r2, wsX1_choose_r3, wsX10, wsX80, wsX20]
set_option maxRecDepth 20000 in
theorem ciX1_choose : ∀ l ∈ csX1_choose, ∀ w ∈ l, w ∈ wsX1_choose := by
  unfold csX1_choose
  refine List.forall_mem_cons.mpr ⟨fun _ h => List.mem_cons.mpr (Or.inl (List.mem_singleton.mp h)), List.forall_mem_cons.mpr ⟨fun _ h => List.mem_cons_of_mem _ (List.mem_append_left _ (List.mem_append_left _ (List.mem_append_left _ (List.mem_append_left _ h)))), List.forall_mem_cons.mpr ⟨fun _ h => List.mem_cons_of_mem _ (List.mem_append_left _ (List.mem_append_left _ (List.mem_append_left _ (List.mem_append_right _ (List.mem_append_left _ h))))), List.forall_mem_cons.mpr ⟨fun _ h => List.mem_cons_of_mem _ (List.mem_append_left _ (List.mem_append_left _ (List.mem_append_left _ (List.mem_append_right _ (List.mem_append_right _ h))))), List.forall_mem_cons.mpr ⟨fun _ h => List.mem_cons_of_mem _ (List.mem_append_left _ (List.mem_append_left _ (List.mem_append_right _ h))), List.forall_mem_cons.mpr ⟨fun _ h => List.mem_cons_of_mem _ (List.mem_append_left _ (List.mem_append_right _ h)), List.forall_mem_cons.mpr ⟨fun _ h => List.mem_cons_of_mem _ (List.mem_append_right _ h), fun l h => absurd h List.not_mem_nil⟩⟩⟩⟩⟩⟩⟩
set_option maxRecDepth 20000 in
theorem ggX1_choose_X1_isChosen : GoodIn wsX1_choose wsX1_isChosen := goodIn_sl csX1_choose ciX1_choose _ [(3, 23, 1), (1, 1, 1), (4, 0, 9)] rfl gw_wsX1_isChosen
set_option maxRecDepth 20000 in
theorem gX1_choose_X1_isChosen : GoodIn wsX1_choose (wsV RX1 111 RX1 yX1_isChosen wsX1_isChosen) := goodIn_app (goodIn_sl csX1_choose ciX1_choose _ [(3, 20, 3), (1, 16, 1)] rfl rfl) ggX1_choose_X1_isChosen
noncomputable def csX3_readPart : List (List Cond) := [[.code yX3_readPart cX3_readPart 5 (some .int)], wsX3_readPart_r1, wsX3_readPart_r2, wsX3_readPart_r3, wsX30, wsX80]
set_option maxRecDepth 20000 in
theorem ciX3_readPart : ∀ l ∈ csX3_readPart, ∀ w ∈ l, w ∈ wsX3_readPart := by
  unfold csX3_readPart
  refine List.forall_mem_cons.mpr ⟨fun _ h => List.mem_cons.mpr (Or.inl (List.mem_singleton.mp h)), List.forall_mem_cons.mpr ⟨fun _ h => List.mem_cons_of_mem _ (List.mem_append_left _ (List.mem_append_left _ (List.mem_append_left _ h))), List.forall_mem_cons.mpr ⟨fun _ h => List.mem_cons_of_mem _ (List.mem_append_left _ (List.mem_append_left _ (List.mem_append_right _ (List.mem_append_left _ h)))), List.forall_mem_cons.mpr ⟨fun _ h => List.mem_cons_of_mem _ (List.mem_append_left _ (List.mem_append_left _ (List.mem_append_right _ (List.mem_append_right _ h)))), List.forall_mem_cons.mpr ⟨fun _ h => List.mem_cons_of_mem _ (List.mem_append_left _ (List.mem_append_right _ h)), List.forall_mem_cons.mpr ⟨fun _ h => List.mem_cons_of_mem _ (List.mem_append_right _ h), fun l h => absurd h List.not_mem_nil⟩⟩⟩⟩⟩⟩
set_option maxRecDepth 20000 in
theorem ggX3_readPart_X3_sign : GoodIn wsX3_readPart wsX3_sign := goodIn_sl csX3_readPart ciX3_readPart _ [(1, 9, 1), (1, 0, 1), (1, 10, 2), (4, 0, 8)] rfl gw_wsX3_sign
set_option maxRecDepth 20000 in
theorem gX3_readPart_X3_sign : GoodIn wsX3_readPart (wsV RX3 62 RX3 yX3_sign wsX3_sign) := goodIn_app (goodIn_sl csX3_readPart ciX3_readPart _ [(1, 5, 4)] rfl rfl) ggX3_readPart_X3_sign
noncomputable def csX6_movePiece : List (List Cond) := [[.code yX6_movePiece cX6_movePiece 4 (some .int)], [.fieldLink RX6 42 "SeatsRound$Parcels" "keepers" "LSeatsRound$Keepers;", .fieldLink RX6 22 "SeatsRound$Parcels" "pieces" "[[I", .fieldLink RX6 25 "SeatsRound$Parcels" "pieceTo" "[[I", .fieldLink RX6 11 "SeatsRound$Parcels" "version" "[[I", .methodLink RX6 117 yX2_isUp, .instanceMethod yX2_isUp, .selects RX2 yX2_isUp yX2_isUp, .initialized RX2, .code yX2_isUp cX2_isUp 2 (some .boolean), .fieldLink RX2 24 "SeatsRound$Keepers" "fallen" "[Z", .fieldLink RX2 9 "SeatsRound$Keepers" "kind" "[I", .methodLink RX6 100 yX6_takesGreater, .instanceMethod yX6_takesGreater, .selects RX6 yX6_takesGreater yX6_takesGreater, .initialized RX6, .code yX6_takesGreater cX6_takesGreater 4 (some .boolean)], wsX60, wsX20]
set_option maxRecDepth 20000 in
theorem ciX6_movePiece : ∀ l ∈ csX6_movePiece, ∀ w ∈ l, w ∈ wsX6_movePiece := by
  unfold csX6_movePiece
  refine List.forall_mem_cons.mpr ⟨fun _ h => List.mem_cons.mpr (Or.inl (List.mem_singleton.mp h)), List.forall_mem_cons.mpr ⟨fun _ h => List.mem_cons_of_mem _ (List.mem_append_left _ (List.mem_append_left _ h)), List.forall_mem_cons.mpr ⟨fun _ h => List.mem_cons_of_mem _ (List.mem_append_left _ (List.mem_append_right _ h)), List.forall_mem_cons.mpr ⟨fun _ h => List.mem_cons_of_mem _ (List.mem_append_right _ h), fun l h => absurd h List.not_mem_nil⟩⟩⟩⟩
set_option maxRecDepth 20000 in
theorem ggX6_movePiece_X2_isUp : GoodIn wsX6_movePiece wsX2_isUp := goodIn_sl csX6_movePiece ciX6_movePiece _ [(1, 8, 3), (3, 0, 6)] rfl gw_wsX2_isUp
set_option maxRecDepth 20000 in
theorem gX6_movePiece_X2_isUp : GoodIn wsX6_movePiece (wsV RX6 117 RX2 yX2_isUp wsX2_isUp) := goodIn_app (goodIn_sl csX6_movePiece ciX6_movePiece _ [(1, 4, 4)] rfl rfl) ggX6_movePiece_X2_isUp
noncomputable def csX4_addFrom : List (List Cond) := [[.code yX4_addFrom cX4_addFrom 12 (some .int)], [.constantLong RX4 39 (6), .fieldLink RX4 20 "SeatsRound$NameList" "read" "[B", .methodLink RX4 41 yX4_find, .instanceMethod yX4_find, .selects RX4 yX4_find yX4_find, .initialized RX4, .code yX4_find cX4_find 5 (some .int), .fieldLink RX4 24 "SeatsRound$NameList" "count" "I", .fieldLink RX4 16 "SeatsRound$NameList" "size" "[I", .fieldLink RX4 11 "SeatsRound$NameList" "bytes" "[[B", .methodLink RX4 28 yX4_isAlike, .static yX4_isAlike, .code yX4_isAlike cX4_isAlike 5 (some .boolean), .methodLink RX4 45 yX4_add, .instanceMethod yX4_add, .selects RX4 yX4_add yX4_add, .code yX4_add cX4_add 4 (some .int), .methodLink RX4 32 arraycopyName, .native arraycopyName, .static arraycopyName, .initialized "java/lang/System"], wsX40]
set_option maxRecDepth 20000 in
theorem ciX4_addFrom : ∀ l ∈ csX4_addFrom, ∀ w ∈ l, w ∈ wsX4_addFrom := by
  unfold csX4_addFrom
  refine List.forall_mem_cons.mpr ⟨fun _ h => List.mem_cons.mpr (Or.inl (List.mem_singleton.mp h)), List.forall_mem_cons.mpr ⟨fun _ h => List.mem_cons_of_mem _ (List.mem_append_left _ h), List.forall_mem_cons.mpr ⟨fun _ h => List.mem_cons_of_mem _ (List.mem_append_right _ h), fun l h => absurd h List.not_mem_nil⟩⟩⟩
set_option maxRecDepth 20000 in
theorem ggX4_addFrom_X4_find : GoodIn wsX4_addFrom wsX4_find := goodIn_sl csX4_addFrom ciX4_addFrom _ [(1, 6, 6), (1, 5, 1), (1, 12, 1), (2, 0, 4)] rfl gw_wsX4_find
set_option maxRecDepth 20000 in
theorem gX4_addFrom_X4_find : GoodIn wsX4_addFrom (wsV RX4 41 RX4 yX4_find wsX4_find) := goodIn_app (goodIn_sl csX4_addFrom ciX4_addFrom _ [(1, 2, 4)] rfl rfl) ggX4_addFrom_X4_find
set_option maxRecDepth 20000 in
theorem ggX8_seatAll_J7_fill_031fb : GoodIn wsX8_seatAll wsJ7_fill_031fb := goodIn_sl csX8_seatAll ciX8_seatAll _ [(1, 9, 1)] rfl gw_wsJ7_fill_031fb
set_option maxRecDepth 20000 in
theorem gX8_seatAll_J7_fill_031fb : GoodIn wsX8_seatAll (va_wsS RX8 80 yJ7_fill_031fb wsJ7_fill_031fb) := goodIn_app (goodIn_sl csX8_seatAll ciX8_seatAll _ [(1, 6, 3)] rfl rfl) ggX8_seatAll_J7_fill_031fb
noncomputable def csX6_empty : List (List Cond) := [[.code yX6_empty cX6_empty 2 none], [.fieldLink RX6 11 "SeatsRound$Parcels" "version" "[[I", .fieldLink RX6 16 "SeatsRound$Parcels" "kept" "[[I", .methodLink RX6 124 yJ7_fill_53178, .static yJ7_fill_53178, .initialized RJ7, .code yJ7_fill_53178 cJ7_fill_53178 4 none], wsX60]
set_option maxRecDepth 20000 in
theorem ciX6_empty : ∀ l ∈ csX6_empty, ∀ w ∈ l, w ∈ wsX6_empty := by
  unfold csX6_empty
  refine List.forall_mem_cons.mpr ⟨fun _ h => List.mem_cons.mpr (Or.inl (List.mem_singleton.mp h)), List.forall_mem_cons.mpr ⟨fun _ h => List.mem_cons_of_mem _ (List.mem_append_left _ h), List.forall_mem_cons.mpr ⟨fun _ h => List.mem_cons_of_mem _ (List.mem_append_right _ h), fun l h => absurd h List.not_mem_nil⟩⟩⟩
set_option maxRecDepth 20000 in
theorem ggX6_empty_J7_fill_53178 : GoodIn wsX6_empty wsJ7_fill_53178 := goodIn_sl csX6_empty ciX6_empty _ [(1, 5, 1)] rfl gw_wsJ7_fill_53178
set_option maxRecDepth 20000 in
theorem gX6_empty_J7_fill_53178 : GoodIn wsX6_empty (va_wsS RX6 124 yJ7_fill_53178 wsJ7_fill_53178) := goodIn_app (goodIn_sl csX6_empty ciX6_empty _ [(1, 2, 3)] rfl rfl) ggX6_empty_J7_fill_53178
set_option maxRecDepth 20000 in
theorem ggX11_become_X11_isKind : GoodIn wsX11_become wsX11_isKind := goodIn_sl csX11_become ciX11_become _ [(1, 12, 1)] rfl gw_wsX11_isKind
set_option maxRecDepth 20000 in
theorem gX11_become_X11_isKind : GoodIn wsX11_become (va_wsS RX11 138 yX11_isKind wsX11_isKind) := goodIn_app (goodIn_sl csX11_become ciX11_become _ [(1, 9, 3)] rfl rfl) ggX11_become_X11_isKind
noncomputable def csX12_sits : List (List Cond) := [[.code yX12_sits cX12_sits 6 none], [.fieldLink RX12 62 "SeatsRoundModel" "seats" "[I", .fieldLink RX12 59 "SeatsRoundModel" "seatMany" "[I", .fieldLink RX12 140 "SeatsRoundModel" "keepers" "I", .fieldLink RX12 53 "SeatsRoundModel" "counts" "[I", .fieldLink RX12 35 "SeatsRoundModel" "tableZ" "[I", .methodLink RX12 223 yX12_isIn, .instanceMethod yX12_isIn, .selects RX12 yX12_isIn yX12_isIn, .initialized RX12, .code yX12_isIn cX12_isIn 3 (some .boolean), .fieldLink RX12 32 "SeatsRoundModel" "tableOf" "[I", .methodLink RX12 227 yX12_mixed, .static yX12_mixed, .code yX12_mixed cX12_mixed 3 (some .int), .constant RX12 221 (104729), .constant RX12 222 (1103515245)], wsX120]
set_option maxRecDepth 20000 in
theorem ciX12_sits : ∀ l ∈ csX12_sits, ∀ w ∈ l, w ∈ wsX12_sits := by
  unfold csX12_sits
  refine List.forall_mem_cons.mpr ⟨fun _ h => List.mem_cons.mpr (Or.inl (List.mem_singleton.mp h)), List.forall_mem_cons.mpr ⟨fun _ h => List.mem_cons_of_mem _ (List.mem_append_left _ h), List.forall_mem_cons.mpr ⟨fun _ h => List.mem_cons_of_mem _ (List.mem_append_right _ h), fun l h => absurd h List.not_mem_nil⟩⟩⟩
set_option maxRecDepth 20000 in
theorem ggX12_sits_X12_mixed : GoodIn wsX12_sits wsX12_mixed := goodIn_sl csX12_sits ciX12_sits _ [(1, 13, 3)] rfl gw_wsX12_mixed
set_option maxRecDepth 20000 in
theorem gX12_sits_X12_mixed : GoodIn wsX12_sits (va_wsS RX12 227 yX12_mixed wsX12_mixed) := goodIn_app (goodIn_sl csX12_sits ciX12_sits _ [(1, 11, 2), (1, 8, 1)] rfl rfl) ggX12_sits_X12_mixed
set_option maxRecDepth 20000 in
theorem ggX12_reads_X12_held : GoodIn wsX12_reads wsX12_held := goodIn_sl csX12_reads ciX12_reads _ [(2, 15, 1)] rfl gw_wsX12_held
set_option maxRecDepth 20000 in
theorem gX12_reads_X12_held : GoodIn wsX12_reads (va_wsS RX12 218 yX12_held wsX12_held) := goodIn_app (goodIn_sl csX12_reads ciX12_reads _ [(2, 13, 2), (1, 11, 1)] rfl rfl) ggX12_reads_X12_held
set_option maxRecDepth 20000 in
theorem ggX12_reads_X12_in : GoodIn wsX12_reads wsX12_in := goodIn_sl csX12_reads ciX12_reads _ [(1, 20, 1)] rfl gw_wsX12_in
set_option maxRecDepth 20000 in
theorem gX12_reads_X12_in : GoodIn wsX12_reads (va_wsS RX12 136 yX12_in wsX12_in) := goodIn_app (goodIn_sl csX12_reads ciX12_reads _ [(1, 18, 2), (1, 11, 1)] rfl rfl) ggX12_reads_X12_in
set_option maxRecDepth 20000 in
theorem ggX12_noon_X12_in : GoodIn wsX12_noon wsX12_in := goodIn_sl csX12_noon ciX12_noon _ [(1, 9, 1)] rfl gw_wsX12_in
set_option maxRecDepth 20000 in
theorem gX12_noon_X12_in : GoodIn wsX12_noon (va_wsS RX12 136 yX12_in wsX12_in) := goodIn_app (goodIn_sl csX12_noon ciX12_noon _ [(1, 7, 2), (1, 4, 1)] rfl rfl) ggX12_noon_X12_in
end
section
set_option maxRecDepth 20000 in
theorem ggX11_write_X6_spread : GoodIn wsX11_write wsX6_spread := goodIn_sl csX11_write ciX11_write _ [(2, 9, 11), (1, 13, 1), (2, 20, 4), (3, 0, 24), (4, 0, 15), (1, 19, 1), (4, 15, 9), (5, 0, 24), (6, 0, 6), (2, 8, 1), (6, 6, 14), (2, 0, 2), (1, 7, 1), (2, 2, 3), (6, 20, 4), (7, 0, 16), (11, 0, 12), (12, 0, 13), (13, 0, 9), (10, 0, 4), (9, 0, 6)] rfl gw_wsX6_spread
set_option maxRecDepth 20000 in
theorem gX11_write_X6_spread : GoodIn wsX11_write (wsV RX11 270 RX6 yX6_spread wsX6_spread) := goodIn_app (goodIn_sl csX11_write ciX11_write _ [(2, 5, 4)] rfl rfl) ggX11_write_X6_spread
set_option maxRecDepth 20000 in
theorem ggX12_read_X12_chooseName : GoodIn wsX12_read wsX12_chooseName := goodIn_sl csX12_read ciX12_read _ [(2, 3, 5), (1, 7, 1), (2, 8, 8), (1, 1, 1), (2, 16, 4), (1, 2, 1), (2, 20, 4), (3, 0, 6), (1, 9, 1), (3, 6, 18), (4, 0, 6), (5, 0, 59)] rfl gw_wsX12_chooseName
set_option maxRecDepth 20000 in
theorem gX12_read_X12_chooseName : GoodIn wsX12_read (wsV RX12 269 RX12 yX12_chooseName wsX12_chooseName) := goodIn_app (goodIn_sl csX12_read ciX12_read _ [(2, 0, 3), (1, 7, 1)] rfl rfl) ggX12_read_X12_chooseName
set_option maxRecDepth 20000 in
theorem ggX11_keeperOf_X1_choose : GoodIn wsX11_keeperOf wsX1_choose := goodIn_sl csX11_keeperOf ciX11_keeperOf _ [(2, 5, 17), (2, 4, 1), (2, 22, 2), (3, 0, 16), (1, 8, 1), (3, 16, 8), (4, 0, 24), (5, 0, 4), (8, 0, 9), (7, 0, 13), (10, 0, 6)] rfl gw_wsX1_choose
set_option maxRecDepth 20000 in
theorem gX11_keeperOf_X1_choose : GoodIn wsX11_keeperOf (wsV RX11 234 RX1 yX1_choose wsX1_choose) := goodIn_app (goodIn_sl csX11_keeperOf ciX11_keeperOf _ [(2, 1, 4)] rfl rfl) ggX11_keeperOf_X1_choose
set_option maxRecDepth 20000 in
theorem ggX12_share_X12_findOdds : GoodIn wsX12_share wsX12_findOdds := goodIn_sl csX12_share ciX12_share _ [(3, 10, 1), (1, 0, 1), (1, 21, 1), (2, 5, 3), (1, 4, 1), (2, 8, 8), (1, 14, 1), (1, 20, 1), (2, 16, 8), (3, 0, 7), (4, 0, 59)] rfl gw_wsX12_findOdds
set_option maxRecDepth 20000 in
theorem gX12_share_X12_findOdds : GoodIn wsX12_share (wsV RX12 275 RX12 yX12_findOdds wsX12_findOdds) := goodIn_app (goodIn_sl csX12_share ciX12_share _ [(3, 7, 3), (1, 4, 1)] rfl rfl) ggX12_share_X12_findOdds
noncomputable def csX12_sum : List (List Cond) := [[.code yX12_sum cX12_sum 4 (some .int)], wsX12_sum_r1, wsX12_sum_r2, wsX120]
set_option maxRecDepth 20000 in
theorem ciX12_sum : ∀ l ∈ csX12_sum, ∀ w ∈ l, w ∈ wsX12_sum := by
  unfold csX12_sum
  refine List.forall_mem_cons.mpr ⟨fun _ h => List.mem_cons.mpr (Or.inl (List.mem_singleton.mp h)), List.forall_mem_cons.mpr ⟨fun _ h => List.mem_cons_of_mem _ (List.mem_append_left _ (List.mem_append_left _ h)), List.forall_mem_cons.mpr ⟨fun _ h => List.mem_cons_of_mem _ (List.mem_append_left _ (List.mem_append_right _ h)), List.forall_mem_cons.mpr ⟨fun _ h => List.mem_cons_of_mem _ (List.mem_append_right _ h), fun l h => absurd h List.not_mem_nil⟩⟩⟩⟩
set_option maxRecDepth 20000 in
theorem ggX12_sum_X12_product : GoodIn wsX12_sum wsX12_product := goodIn_sl csX12_sum ciX12_sum _ [(2, 5, 1), (1, 0, 2), (2, 6, 3), (1, 5, 19), (2, 0, 5), (0, 0, 1), (1, 2, 3), (3, 0, 59)] rfl gw_wsX12_product
set_option maxRecDepth 20000 in
theorem gX12_sum_X12_product : GoodIn wsX12_sum (wsV RX12 191 RX12 yX12_product wsX12_product) := goodIn_app (goodIn_sl csX12_sum ciX12_sum _ [(1, 2, 4)] rfl rfl) ggX12_sum_X12_product
set_option maxRecDepth 20000 in
theorem ggX12_shareOf_X12_pick : GoodIn wsX12_shareOf wsX12_pick := goodIn_sl csX12_shareOf ciX12_shareOf _ [(1, 14, 4), (1, 2, 1), (1, 18, 3), (1, 6, 1), (1, 21, 2), (1, 1, 1), (1, 23, 1), (2, 0, 14), (3, 0, 59)] rfl gw_wsX12_pick
set_option maxRecDepth 20000 in
theorem gX12_shareOf_X12_pick : GoodIn wsX12_shareOf (wsV RX12 253 RX12 yX12_pick wsX12_pick) := goodIn_app (goodIn_sl csX12_shareOf ciX12_shareOf _ [(1, 11, 3), (1, 6, 1)] rfl rfl) ggX12_shareOf_X12_pick
set_option maxRecDepth 20000 in
theorem ggX12_table_X12_numbers : GoodIn wsX12_table wsX12_numbers := goodIn_sl csX12_table ciX12_table _ [(1, 21, 3), (2, 0, 2), (1, 0, 1), (1, 4, 2), (2, 2, 3), (1, 14, 1), (2, 5, 1), (1, 2, 1), (5, 0, 59)] rfl gw_wsX12_numbers
set_option maxRecDepth 20000 in
theorem gX12_table_X12_numbers : GoodIn wsX12_table (wsV RX12 231 RX12 yX12_numbers wsX12_numbers) := goodIn_app (goodIn_sl csX12_table ciX12_table _ [(1, 18, 3), (1, 14, 1)] rfl rfl) ggX12_table_X12_numbers
set_option maxRecDepth 20000 in
theorem ggX12_order_X12_nextOrder : GoodIn wsX12_order wsX12_nextOrder := goodIn_sl csX12_order ciX12_order _ [(7, 4, 1), (1, 4, 1), (8, 0, 59)] rfl gw_wsX12_nextOrder
set_option maxRecDepth 20000 in
theorem gX12_order_X12_nextOrder : GoodIn wsX12_order (wsV RX12 328 RX12 yX12_nextOrder wsX12_nextOrder) := goodIn_app (goodIn_sl csX12_order ciX12_order _ [(7, 1, 3), (1, 10, 1)] rfl rfl) ggX12_order_X12_nextOrder
set_option maxRecDepth 20000 in
theorem ggX12_table_X12_countsNow : GoodIn wsX12_table wsX12_countsNow := goodIn_sl csX12_table ciX12_table _ [(1, 15, 3), (5, 0, 59)] rfl gw_wsX12_countsNow
set_option maxRecDepth 20000 in
theorem gX12_table_X12_countsNow : GoodIn wsX12_table (wsV RX12 170 RX12 yX12_countsNow wsX12_countsNow) := goodIn_app (goodIn_sl csX12_table ciX12_table _ [(1, 11, 4)] rfl rfl) ggX12_table_X12_countsNow
set_option maxRecDepth 20000 in
theorem ggX12_order_X12_bits : GoodIn wsX12_order wsX12_bits := goodIn_sl csX12_order ciX12_order _ [(6, 17, 1), (5, 14, 1), (5, 17, 1), (8, 0, 59)] rfl gw_wsX12_bits
set_option maxRecDepth 20000 in
theorem gX12_order_X12_bits : GoodIn wsX12_order (wsV RX12 281 RX12 yX12_bits wsX12_bits) := goodIn_app (goodIn_sl csX12_order ciX12_order _ [(6, 14, 3), (1, 10, 1)] rfl rfl) ggX12_order_X12_bits
set_option maxRecDepth 20000 in
theorem ggX12_ofKeeper_X12_countsNow : GoodIn wsX12_ofKeeper wsX12_countsNow := goodIn_sl csX12_ofKeeper ciX12_ofKeeper _ [(1, 18, 1), (1, 1, 1), (1, 3, 1), (3, 0, 59)] rfl gw_wsX12_countsNow
set_option maxRecDepth 20000 in
theorem gX12_ofKeeper_X12_countsNow : GoodIn wsX12_ofKeeper (wsV RX12 170 RX12 yX12_countsNow wsX12_countsNow) := goodIn_app (goodIn_sl csX12_ofKeeper ciX12_ofKeeper _ [(1, 15, 3), (1, 9, 1)] rfl rfl) ggX12_ofKeeper_X12_countsNow
set_option maxRecDepth 20000 in
theorem ggX12_name_X12_comesName : GoodIn wsX12_name wsX12_comesName := goodIn_sl csX12_name ciX12_name _ [(1, 17, 1), (1, 12, 1), (1, 3, 1), (1, 13, 1), (1, 1, 1), (2, 0, 59)] rfl gw_wsX12_comesName
set_option maxRecDepth 20000 in
theorem gX12_name_X12_comesName : GoodIn wsX12_name (wsV RX12 153 RX12 yX12_comesName wsX12_comesName) := goodIn_app (goodIn_sl csX12_name ciX12_name _ [(1, 14, 3), (1, 6, 1)] rfl rfl) ggX12_name_X12_comesName
set_option maxRecDepth 20000 in
theorem ggX12_movesFrom_X12_begins : GoodIn wsX12_movesFrom wsX12_begins := goodIn_sl csX12_movesFrom ciX12_movesFrom _ [(1, 5, 3), (2, 0, 59)] rfl gw_wsX12_begins
set_option maxRecDepth 20000 in
theorem gX12_movesFrom_X12_begins : GoodIn wsX12_movesFrom (wsV RX12 337 RX12 yX12_begins wsX12_begins) := goodIn_app (goodIn_sl csX12_movesFrom ciX12_movesFrom _ [(1, 1, 4)] rfl rfl) ggX12_movesFrom_X12_begins
noncomputable def csX12_movesBy : List (List Cond) := [[.code yX12_movesBy cX12_movesBy 7 (some .int)], [.fieldLink RX12 310 "SeatsRoundModel" "comers" "I", .fieldLink RX12 130 "SeatsRoundModel" "tried" "[I", .fieldLink RX12 133 "SeatsRoundModel" "names" "I", .fieldLink RX12 127 "SeatsRoundModel" "keepsBy" "[I", .methodLink RX12 316 yX12_setBy, .instanceMethod yX12_setBy, .selects RX12 yX12_setBy yX12_setBy, .initialized RX12, .code yX12_setBy cX12_setBy 5 (some .int), .fieldLink RX12 32 "SeatsRoundModel" "tableOf" "[I", .fieldLink RX12 86 "SeatsRoundModel" "comer" "[I", .methodLink RX12 284 yX12_ones, .static yX12_ones, .code yX12_ones cX12_ones 3 (some .int)], wsX120]
set_option maxRecDepth 20000 in
theorem ciX12_movesBy : ∀ l ∈ csX12_movesBy, ∀ w ∈ l, w ∈ wsX12_movesBy := by
  unfold csX12_movesBy
  refine List.forall_mem_cons.mpr ⟨fun _ h => List.mem_cons.mpr (Or.inl (List.mem_singleton.mp h)), List.forall_mem_cons.mpr ⟨fun _ h => List.mem_cons_of_mem _ (List.mem_append_left _ h), List.forall_mem_cons.mpr ⟨fun _ h => List.mem_cons_of_mem _ (List.mem_append_right _ h), fun l h => absurd h List.not_mem_nil⟩⟩⟩
set_option maxRecDepth 20000 in
theorem ggX12_movesBy_X12_setBy : GoodIn wsX12_movesBy wsX12_setBy := goodIn_sl csX12_movesBy ciX12_movesBy _ [(1, 8, 2), (1, 0, 1), (1, 10, 1), (2, 0, 59)] rfl gw_wsX12_setBy
set_option maxRecDepth 20000 in
theorem gX12_movesBy_X12_setBy : GoodIn wsX12_movesBy (wsV RX12 316 RX12 yX12_setBy wsX12_setBy) := goodIn_app (goodIn_sl csX12_movesBy ciX12_movesBy _ [(1, 4, 4)] rfl rfl) ggX12_movesBy_X12_setBy
noncomputable def csX12_hasRoom : List (List Cond) := [[.code yX12_hasRoom cX12_hasRoom 3 (some .boolean)], [.fieldLink RX12 22 "SeatsRoundModel" "kind" "[I", .fieldLink RX12 68 "SeatsRoundModel" "version" "[I", .methodLink RX12 173 yX12_many, .instanceMethod yX12_many, .selects RX12 yX12_many yX12_many, .initialized RX12, .code yX12_many cX12_many 5 (some .int), .fieldLink RX12 71 "SeatsRoundModel" "kept" "[I"], wsX120]
set_option maxRecDepth 20000 in
theorem ciX12_hasRoom : ∀ l ∈ csX12_hasRoom, ∀ w ∈ l, w ∈ wsX12_hasRoom := by
  unfold csX12_hasRoom
  refine List.forall_mem_cons.mpr ⟨fun _ h => List.mem_cons.mpr (Or.inl (List.mem_singleton.mp h)), List.forall_mem_cons.mpr ⟨fun _ h => List.mem_cons_of_mem _ (List.mem_append_left _ h), List.forall_mem_cons.mpr ⟨fun _ h => List.mem_cons_of_mem _ (List.mem_append_right _ h), fun l h => absurd h List.not_mem_nil⟩⟩⟩
set_option maxRecDepth 20000 in
theorem ggX12_hasRoom_X12_many : GoodIn wsX12_hasRoom wsX12_many := goodIn_sl csX12_hasRoom ciX12_hasRoom _ [(1, 6, 1), (1, 1, 1), (1, 7, 1), (2, 0, 59)] rfl gw_wsX12_many
set_option maxRecDepth 20000 in
theorem gX12_hasRoom_X12_many : GoodIn wsX12_hasRoom (wsV RX12 173 RX12 yX12_many wsX12_many) := goodIn_app (goodIn_sl csX12_hasRoom ciX12_hasRoom _ [(1, 2, 4)] rfl rfl) ggX12_hasRoom_X12_many
noncomputable def csX12_even : List (List Cond) := [[.code yX12_even cX12_even 5 (some .int)], wsX12_even_r1, wsX12_even_r2, wsX120]
set_option maxRecDepth 20000 in
theorem ciX12_even : ∀ l ∈ csX12_even, ∀ w ∈ l, w ∈ wsX12_even := by
  unfold csX12_even
  refine List.forall_mem_cons.mpr ⟨fun _ h => List.mem_cons.mpr (Or.inl (List.mem_singleton.mp h)), List.forall_mem_cons.mpr ⟨fun _ h => List.mem_cons_of_mem _ (List.mem_append_left _ (List.mem_append_left _ h)), List.forall_mem_cons.mpr ⟨fun _ h => List.mem_cons_of_mem _ (List.mem_append_left _ (List.mem_append_right _ h)), List.forall_mem_cons.mpr ⟨fun _ h => List.mem_cons_of_mem _ (List.mem_append_right _ h), fun l h => absurd h List.not_mem_nil⟩⟩⟩⟩
set_option maxRecDepth 20000 in
theorem ggX12_even_X12_isIn : GoodIn wsX12_even wsX12_isIn := goodIn_sl csX12_even ciX12_even _ [(2, 5, 1), (1, 13, 1), (3, 0, 59)] rfl gw_wsX12_isIn
set_option maxRecDepth 20000 in
theorem gX12_even_X12_isIn : GoodIn wsX12_even (wsV RX12 223 RX12 yX12_isIn wsX12_isIn) := goodIn_app (goodIn_sl csX12_even ciX12_even _ [(2, 2, 3), (1, 5, 1)] rfl rfl) ggX12_even_X12_isIn
noncomputable def csX3_readSum : List (List Cond) := [[.code yX3_readSum cX3_readSum 6 (some .int)], wsX3_readSum_r1, wsX3_readSum_r2, wsX30]
set_option maxRecDepth 20000 in
theorem ciX3_readSum : ∀ l ∈ csX3_readSum, ∀ w ∈ l, w ∈ wsX3_readSum := by
  unfold csX3_readSum
  refine List.forall_mem_cons.mpr ⟨fun _ h => List.mem_cons.mpr (Or.inl (List.mem_singleton.mp h)), List.forall_mem_cons.mpr ⟨fun _ h => List.mem_cons_of_mem _ (List.mem_append_left _ (List.mem_append_left _ h)), List.forall_mem_cons.mpr ⟨fun _ h => List.mem_cons_of_mem _ (List.mem_append_left _ (List.mem_append_right _ h)), List.forall_mem_cons.mpr ⟨fun _ h => List.mem_cons_of_mem _ (List.mem_append_right _ h), fun l h => absurd h List.not_mem_nil⟩⟩⟩⟩
set_option maxRecDepth 20000 in
theorem ggX3_readSum_X3_readProduct : GoodIn wsX3_readSum wsX3_readProduct := goodIn_sl csX3_readSum ciX3_readSum _ [(2, 7, 1), (1, 0, 2), (2, 8, 3), (1, 5, 19), (2, 0, 7), (0, 0, 1), (1, 2, 3), (3, 0, 8)] rfl gw_wsX3_readProduct
set_option maxRecDepth 20000 in
theorem gX3_readSum_X3_readProduct : GoodIn wsX3_readSum (wsV RX3 100 RX3 yX3_readProduct wsX3_readProduct) := goodIn_app (goodIn_sl csX3_readSum ciX3_readSum _ [(1, 2, 4)] rfl rfl) ggX3_readSum_X3_readProduct
set_option maxRecDepth 20000 in
theorem ggX3_readPart_X3_readSum : GoodIn wsX3_readPart wsX3_readSum := goodIn_sl csX3_readPart ciX3_readPart _ [(1, 15, 1), (1, 1, 1), (1, 0, 1), (1, 16, 3), (1, 8, 1), (1, 5, 3), (1, 9, 3), (1, 19, 1), (1, 12, 3), (1, 20, 4), (2, 0, 15), (4, 0, 8)] rfl gw_wsX3_readSum
set_option maxRecDepth 20000 in
theorem gX3_readPart_X3_readSum : GoodIn wsX3_readPart (wsV RX3 88 RX3 yX3_readSum wsX3_readSum) := goodIn_app (goodIn_sl csX3_readPart ciX3_readPart _ [(1, 12, 3), (1, 8, 1)] rfl rfl) ggX3_readPart_X3_readSum
set_option maxRecDepth 20000 in
theorem ggX1_pick_X1_pickBySums : GoodIn wsX1_pick wsX1_pickBySums := goodIn_sl csX1_pick ciX1_pick _ [(1, 7, 2), (1, 0, 1), (1, 9, 2), (1, 1, 1), (1, 11, 12), (4, 0, 13), (3, 0, 9)] rfl gw_wsX1_pickBySums
set_option maxRecDepth 20000 in
theorem gX1_pick_X1_pickBySums : GoodIn wsX1_pick (wsV RX1 46 RX1 yX1_pickBySums wsX1_pickBySums) := goodIn_app (goodIn_sl csX1_pick ciX1_pick _ [(1, 3, 4)] rfl rfl) ggX1_pick_X1_pickBySums
set_option maxRecDepth 20000 in
theorem ggX11_share_X8_firstFor : GoodIn wsX11_share wsX8_firstFor := goodIn_sl csX11_share ciX11_share _ [(2, 8, 8), (1, 21, 1), (2, 16, 5), (1, 8, 1), (2, 21, 2), (5, 0, 13)] rfl gw_wsX8_firstFor
set_option maxRecDepth 20000 in
theorem gX11_share_X8_firstFor : GoodIn wsX11_share (wsV RX11 257 RX8 yX8_firstFor wsX8_firstFor) := goodIn_app (goodIn_sl csX11_share ciX11_share _ [(3, 7, 1), (2, 6, 2), (1, 21, 1)] rfl rfl) ggX11_share_X8_firstFor
noncomputable def csX0_keepsFrom : List (List Cond) := [[.code yX0_keepsFrom cX0_keepsFrom 4 (some .int)], [.fieldLink RX0 19 "SeatsRound$Acts" "own" "I", .methodLink RX0 41 yX0_begin, .instanceMethod yX0_begin, .selects RX0 yX0_begin yX0_begin, .initialized RX0, .code yX0_begin cX0_begin 2 none, .fieldLink RX0 15 "SeatsRound$Acts" "ran" "I", .fieldLink RX0 9 "SeatsRound$Acts" "bodies" "[I", .methodLink RX0 32 yX0_keepsFrom, .instanceMethod yX0_keepsFrom, .selects RX0 yX0_keepsFrom yX0_keepsFrom, .methodLink RX0 35 yX0_movesFrom, .instanceMethod yX0_movesFrom, .selects RX0 yX0_movesFrom yX0_movesFrom, .code yX0_movesFrom cX0_movesFrom 4 (some .int), .fieldLink RX0 22 "SeatsRound$Acts" "number" "I", .methodLink RX0 28 yX0_findsFrom, .instanceMethod yX0_findsFrom, .selects RX0 yX0_findsFrom yX0_findsFrom, .code yX0_findsFrom cX0_findsFrom 3 (some .int), .fieldLink RX0 25 "SeatsRound$Acts" "strength" "I"], wsX00]
set_option maxRecDepth 20000 in
theorem ciX0_keepsFrom : ∀ l ∈ csX0_keepsFrom, ∀ w ∈ l, w ∈ wsX0_keepsFrom := by
  unfold csX0_keepsFrom
  refine List.forall_mem_cons.mpr ⟨fun _ h => List.mem_cons.mpr (Or.inl (List.mem_singleton.mp h)), List.forall_mem_cons.mpr ⟨fun _ h => List.mem_cons_of_mem _ (List.mem_append_left _ h), List.forall_mem_cons.mpr ⟨fun _ h => List.mem_cons_of_mem _ (List.mem_append_right _ h), fun l h => absurd h List.not_mem_nil⟩⟩⟩
set_option maxRecDepth 20000 in
theorem ggX0_keepsFrom_X0_movesFrom : GoodIn wsX0_keepsFrom wsX0_movesFrom := goodIn_sl csX0_keepsFrom ciX0_keepsFrom _ [(1, 14, 1), (1, 0, 1), (1, 15, 1), (1, 1, 7), (1, 11, 3), (1, 16, 5), (2, 0, 5)] rfl gw_wsX0_movesFrom
set_option maxRecDepth 20000 in
theorem gX0_keepsFrom_X0_movesFrom : GoodIn wsX0_keepsFrom (wsV RX0 35 RX0 yX0_movesFrom wsX0_movesFrom) := goodIn_app (goodIn_sl csX0_keepsFrom ciX0_keepsFrom _ [(1, 11, 3), (1, 4, 1)] rfl rfl) ggX0_keepsFrom_X0_movesFrom
set_option maxRecDepth 20000 in
theorem ggX6_movePiece_X6_takesGreater : GoodIn wsX6_movePiece wsX6_takesGreater := goodIn_sl csX6_movePiece ciX6_movePiece _ [(1, 15, 1), (1, 3, 1), (2, 0, 12)] rfl gw_wsX6_takesGreater
set_option maxRecDepth 20000 in
theorem gX6_movePiece_X6_takesGreater : GoodIn wsX6_movePiece (wsV RX6 100 RX6 yX6_takesGreater wsX6_takesGreater) := goodIn_app (goodIn_sl csX6_movePiece ciX6_movePiece _ [(1, 11, 4)] rfl rfl) ggX6_movePiece_X6_takesGreater
noncomputable def csX1_pickBySums : List (List Cond) := [[.code yX1_pickBySums cX1_pickBySums 7 none], [.fieldLink RX1 59 "SeatsRound$Table" "members" "I", .fieldLink RX1 18 "SeatsRound$Choice" "pickCount" "I", .fieldLink RX1 34 "SeatsRound$Choice" "sums" "[I", .fieldLink RX1 9 "SeatsRound$Choice" "picks" "[I", .fieldLink RX1 31 "SeatsRound$Choice" "pickBits" "I", .methodLink RX1 85 yX8_sumOf, .instanceMethod yX8_sumOf, .selects RX8 yX8_sumOf yX8_sumOf, .initialized RX8, .code yX8_sumOf cX8_sumOf 3 (some .int), .constant RX8 86 (104729), .fieldLink RX8 15 "SeatsRound$Table" "turn" "I", .fieldLink RX8 37 "SeatsRound$Table" "weight" "[I", .static yX11_strewn, .initialized RX11, .code yX11_strewn cX11_strewn 1 (some .int), .constant RX11 423 (1103515245)], wsX80, wsX10]
set_option maxRecDepth 20000 in
theorem ciX1_pickBySums : ∀ l ∈ csX1_pickBySums, ∀ w ∈ l, w ∈ wsX1_pickBySums := by
  unfold csX1_pickBySums
  refine List.forall_mem_cons.mpr ⟨fun _ h => List.mem_cons.mpr (Or.inl (List.mem_singleton.mp h)), List.forall_mem_cons.mpr ⟨fun _ h => List.mem_cons_of_mem _ (List.mem_append_left _ (List.mem_append_left _ h)), List.forall_mem_cons.mpr ⟨fun _ h => List.mem_cons_of_mem _ (List.mem_append_left _ (List.mem_append_right _ h)), List.forall_mem_cons.mpr ⟨fun _ h => List.mem_cons_of_mem _ (List.mem_append_right _ h), fun l h => absurd h List.not_mem_nil⟩⟩⟩⟩
set_option maxRecDepth 20000 in
theorem ggX1_pickBySums_X8_sumOf : GoodIn wsX1_pickBySums wsX8_sumOf := goodIn_sl csX1_pickBySums ciX1_pickBySums _ [(1, 9, 8), (2, 0, 13)] rfl gw_wsX8_sumOf
set_option maxRecDepth 20000 in
theorem gX1_pickBySums_X8_sumOf : GoodIn wsX1_pickBySums (wsV RX1 85 RX8 yX8_sumOf wsX8_sumOf) := goodIn_app (goodIn_sl csX1_pickBySums ciX1_pickBySums _ [(1, 5, 4)] rfl rfl) ggX1_pickBySums_X8_sumOf
set_option maxRecDepth 20000 in
theorem ggX11_ofKeeper_X6_keptBy : GoodIn wsX11_ofKeeper wsX6_keptBy := goodIn_sl csX11_ofKeeper ciX11_ofKeeper _ [(2, 8, 2), (2, 2, 2), (1, 23, 1), (2, 4, 1), (5, 0, 12)] rfl gw_wsX6_keptBy
set_option maxRecDepth 20000 in
theorem gX11_ofKeeper_X6_keptBy : GoodIn wsX11_ofKeeper (wsV RX11 166 RX6 yX6_keptBy wsX6_keptBy) := goodIn_app (goodIn_sl csX11_ofKeeper ciX11_ofKeeper _ [(2, 5, 3), (1, 23, 1)] rfl rfl) ggX11_ofKeeper_X6_keptBy
set_option maxRecDepth 20000 in
theorem ggX11_moves_X8_alikeIn : GoodIn wsX11_moves wsX8_alikeIn := goodIn_sl csX11_moves ciX11_moves _ [(1, 16, 3), (8, 0, 13)] rfl gw_wsX8_alikeIn
set_option maxRecDepth 20000 in
theorem gX11_moves_X8_alikeIn : GoodIn wsX11_moves (wsV RX11 260 RX8 yX8_alikeIn wsX8_alikeIn) := goodIn_app (goodIn_sl csX11_moves ciX11_moves _ [(1, 12, 4)] rfl rfl) ggX11_moves_X8_alikeIn
noncomputable def csX1_pickRound : List (List Cond) := [[.code yX1_pickRound cX1_pickRound 5 none], [.fieldLink RX1 56 "SeatsRound$Table" "seats" "I", .fieldLink RX1 31 "SeatsRound$Choice" "pickBits" "I", .fieldLink RX1 59 "SeatsRound$Table" "members" "I", .fieldLink RX1 62 "SeatsRound$Table" "ahead" "[S", .fieldLink RX1 66 "SeatsRound$Table" "owner" "[B", .methodLink RX1 70 yX1_isPicked, .instanceMethod yX1_isPicked, .selects RX1 yX1_isPicked yX1_isPicked, .initialized RX1, .code yX1_isPicked cX1_isPicked 2 (some .boolean), .methodLink RX1 74 yX1_takePick, .instanceMethod yX1_takePick, .selects RX1 yX1_takePick yX1_takePick, .code yX1_takePick cX1_takePick 2 none, .fieldLink RX1 18 "SeatsRound$Choice" "pickCount" "I", .fieldLink RX1 9 "SeatsRound$Choice" "picks" "[I", .static yX11_placeBehind, .initialized RX11, .code yX11_placeBehind cX11_placeBehind 1 (some .int)], wsX80, wsX10]
set_option maxRecDepth 20000 in
theorem ciX1_pickRound : ∀ l ∈ csX1_pickRound, ∀ w ∈ l, w ∈ wsX1_pickRound := by
  unfold csX1_pickRound
  refine List.forall_mem_cons.mpr ⟨fun _ h => List.mem_cons.mpr (Or.inl (List.mem_singleton.mp h)), List.forall_mem_cons.mpr ⟨fun _ h => List.mem_cons_of_mem _ (List.mem_append_left _ (List.mem_append_left _ h)), List.forall_mem_cons.mpr ⟨fun _ h => List.mem_cons_of_mem _ (List.mem_append_left _ (List.mem_append_right _ h)), List.forall_mem_cons.mpr ⟨fun _ h => List.mem_cons_of_mem _ (List.mem_append_right _ h), fun l h => absurd h List.not_mem_nil⟩⟩⟩⟩
set_option maxRecDepth 20000 in
theorem ggX1_pickRound_X1_isPicked : GoodIn wsX1_pickRound wsX1_isPicked := goodIn_sl csX1_pickRound ciX1_pickRound _ [(1, 9, 1), (1, 1, 1), (3, 0, 9)] rfl gw_wsX1_isPicked
set_option maxRecDepth 20000 in
theorem gX1_pickRound_X1_isPicked : GoodIn wsX1_pickRound (wsV RX1 70 RX1 yX1_isPicked wsX1_isPicked) := goodIn_app (goodIn_sl csX1_pickRound ciX1_pickRound _ [(1, 5, 4)] rfl rfl) ggX1_pickRound_X1_isPicked
set_option maxRecDepth 20000 in
theorem ggX3_readPart_X3_heldWithin : GoodIn wsX3_readPart wsX3_heldWithin := goodIn_sl csX3_readPart ciX3_readPart _ [(2, 17, 7), (3, 0, 1)] rfl gw_wsX3_heldWithin
set_option maxRecDepth 20000 in
theorem gX3_readPart_X3_heldWithin : GoodIn wsX3_readPart (va_wsS RX3 91 yX3_heldWithin wsX3_heldWithin) := goodIn_app (goodIn_sl csX3_readPart ciX3_readPart _ [(2, 15, 2), (1, 8, 1)] rfl rfl) ggX3_readPart_X3_heldWithin
set_option maxRecDepth 20000 in
theorem ggX11_keeperOf_X4_placeOf : GoodIn wsX11_keeperOf wsX4_placeOf := goodIn_sl csX11_keeperOf ciX11_keeperOf _ [(1, 21, 3), (2, 0, 1), (9, 0, 4)] rfl gw_wsX4_placeOf
set_option maxRecDepth 20000 in
theorem gX11_keeperOf_X4_placeOf : GoodIn wsX11_keeperOf (wsV RX11 127 RX4 yX4_placeOf wsX4_placeOf) := goodIn_app (goodIn_sl csX11_keeperOf ciX11_keeperOf _ [(1, 18, 3), (1, 15, 1)] rfl rfl) ggX11_keeperOf_X4_placeOf
set_option maxRecDepth 20000 in
theorem ggX11_tooFew_X4_placeOf : GoodIn wsX11_tooFew wsX4_placeOf := goodIn_sl csX11_tooFew ciX11_tooFew _ [(1, 17, 4), (7, 0, 4)] rfl gw_wsX4_placeOf
set_option maxRecDepth 20000 in
theorem gX11_tooFew_X4_placeOf : GoodIn wsX11_tooFew (wsV RX11 127 RX4 yX4_placeOf wsX4_placeOf) := goodIn_app (goodIn_sl csX11_tooFew ciX11_tooFew _ [(1, 13, 4)] rfl rfl) ggX11_tooFew_X4_placeOf
set_option maxRecDepth 20000 in
theorem ggX11_share_X4_placeOf : GoodIn wsX11_share wsX4_placeOf := goodIn_sl csX11_share ciX11_share _ [(3, 3, 4), (6, 0, 4)] rfl gw_wsX4_placeOf
set_option maxRecDepth 20000 in
theorem gX11_share_X4_placeOf : GoodIn wsX11_share (wsV RX11 127 RX4 yX4_placeOf wsX4_placeOf) := goodIn_app (goodIn_sl csX11_share ciX11_share _ [(2, 23, 1), (3, 0, 3)] rfl rfl) ggX11_share_X4_placeOf
noncomputable def csX3_readWay : List (List Cond) := [[.code yX3_readWay cX3_readWay 2 (some .int)], [.fieldLink RX3 19 "SeatsRound$Law" "at" "I", .fieldLink RX3 22 "SeatsRound$Law" "fault" "I", .methodLink RX3 62 yX3_sign, .instanceMethod yX3_sign, .selects RX3 yX3_sign yX3_sign, .initialized RX3, .code yX3_sign cX3_sign 1 (some .int), .fieldLink RX3 15 "SeatsRound$Law" "length" "I", .fieldLink RX3 9 "SeatsRound$Law" "text" "[B"], wsX30]
set_option maxRecDepth 20000 in
theorem ciX3_readWay : ∀ l ∈ csX3_readWay, ∀ w ∈ l, w ∈ wsX3_readWay := by
  unfold csX3_readWay
  refine List.forall_mem_cons.mpr ⟨fun _ h => List.mem_cons.mpr (Or.inl (List.mem_singleton.mp h)), List.forall_mem_cons.mpr ⟨fun _ h => List.mem_cons_of_mem _ (List.mem_append_left _ h), List.forall_mem_cons.mpr ⟨fun _ h => List.mem_cons_of_mem _ (List.mem_append_right _ h), fun l h => absurd h List.not_mem_nil⟩⟩⟩
set_option maxRecDepth 20000 in
theorem ggX3_readWay_X3_sign : GoodIn wsX3_readWay wsX3_sign := goodIn_sl csX3_readWay ciX3_readWay _ [(1, 6, 1), (1, 0, 1), (1, 7, 2), (2, 0, 8)] rfl gw_wsX3_sign
set_option maxRecDepth 20000 in
theorem gX3_readWay_X3_sign : GoodIn wsX3_readWay (wsV RX3 62 RX3 yX3_sign wsX3_sign) := goodIn_app (goodIn_sl csX3_readWay ciX3_readWay _ [(1, 2, 4)] rfl rfl) ggX3_readWay_X3_sign
set_option maxRecDepth 20000 in
theorem ggX7_refusalAt_X7_isRow : GoodIn wsX7_refusalAt wsX7_isRow := goodIn_sl csX7_refusalAt ciX7_refusalAt _ [(1, 11, 1), (1, 6, 1), (2, 0, 4)] rfl gw_wsX7_isRow
set_option maxRecDepth 20000 in
theorem gX7_refusalAt_X7_isRow : GoodIn wsX7_refusalAt (wsV RX7 39 RX7 yX7_isRow wsX7_isRow) := goodIn_app (goodIn_sl csX7_refusalAt ciX7_refusalAt _ [(1, 8, 3), (1, 4, 1)] rfl rfl) ggX7_refusalAt_X7_isRow
set_option maxRecDepth 20000 in
theorem ggX11_read_X2_isUp : GoodIn wsX11_read wsX2_isUp := goodIn_sl csX11_read ciX11_read _ [(2, 2, 3), (8, 0, 6)] rfl gw_wsX2_isUp
set_option maxRecDepth 20000 in
theorem gX11_read_X2_isUp : GoodIn wsX11_read (wsV RX11 267 RX2 yX2_isUp wsX2_isUp) := goodIn_app (goodIn_sl csX11_read ciX11_read _ [(1, 23, 1), (2, 0, 2), (1, 7, 1)] rfl rfl) ggX11_read_X2_isUp
set_option maxRecDepth 20000 in
theorem ggX11_shift_X7_isRow : GoodIn wsX11_shift wsX7_isRow := goodIn_sl csX11_shift ciX11_shift _ [(1, 21, 1), (1, 16, 1), (4, 0, 4)] rfl gw_wsX7_isRow
set_option maxRecDepth 20000 in
theorem gX11_shift_X7_isRow : GoodIn wsX11_shift (wsV RX11 385 RX7 yX7_isRow wsX7_isRow) := goodIn_app (goodIn_sl csX11_shift ciX11_shift _ [(1, 18, 3), (1, 14, 1)] rfl rfl) ggX11_shift_X7_isRow
set_option maxRecDepth 20000 in
theorem ggX11_write_X4_has : GoodIn wsX11_write wsX4_has := goodIn_sl csX11_write ciX11_write _ [(1, 14, 2), (10, 0, 4)] rfl gw_wsX4_has
set_option maxRecDepth 20000 in
theorem gX11_write_X4_has : GoodIn wsX11_write (wsV RX11 123 RX4 yX4_has wsX4_has) := goodIn_app (goodIn_sl csX11_write ciX11_write _ [(1, 10, 4)] rfl rfl) ggX11_write_X4_has
noncomputable def csX6_keptBy : List (List Cond) := [[.code yX6_keptBy cX6_keptBy 2 (some .int)], [.fieldLink RX6 16 "SeatsRound$Parcels" "kept" "[[I", .methodLink RX6 141 yX6_filled, .static yX6_filled, .initialized RX6, .code yX6_filled cX6_filled 6 (some .int)], wsX60]
set_option maxRecDepth 20000 in
theorem ciX6_keptBy : ∀ l ∈ csX6_keptBy, ∀ w ∈ l, w ∈ wsX6_keptBy := by
  unfold csX6_keptBy
  refine List.forall_mem_cons.mpr ⟨fun _ h => List.mem_cons.mpr (Or.inl (List.mem_singleton.mp h)), List.forall_mem_cons.mpr ⟨fun _ h => List.mem_cons_of_mem _ (List.mem_append_left _ h), List.forall_mem_cons.mpr ⟨fun _ h => List.mem_cons_of_mem _ (List.mem_append_right _ h), fun l h => absurd h List.not_mem_nil⟩⟩⟩
set_option maxRecDepth 20000 in
theorem ggX6_keptBy_X6_filled : GoodIn wsX6_keptBy wsX6_filled := goodIn_sl csX6_keptBy ciX6_keptBy _ [(1, 4, 1)] rfl gw_wsX6_filled
set_option maxRecDepth 20000 in
theorem gX6_keptBy_X6_filled : GoodIn wsX6_keptBy (va_wsS RX6 141 yX6_filled wsX6_filled) := goodIn_app (goodIn_sl csX6_keptBy ciX6_keptBy _ [(1, 1, 3)] rfl rfl) ggX6_keptBy_X6_filled
noncomputable def csX4_find : List (List Cond) := [[.code yX4_find cX4_find 5 (some .int)], [.fieldLink RX4 24 "SeatsRound$NameList" "count" "I", .fieldLink RX4 16 "SeatsRound$NameList" "size" "[I", .fieldLink RX4 11 "SeatsRound$NameList" "bytes" "[[B", .methodLink RX4 28 yX4_isAlike, .static yX4_isAlike, .initialized RX4, .code yX4_isAlike cX4_isAlike 5 (some .boolean)], wsX40]
set_option maxRecDepth 20000 in
theorem ciX4_find : ∀ l ∈ csX4_find, ∀ w ∈ l, w ∈ wsX4_find := by
  unfold csX4_find
  refine List.forall_mem_cons.mpr ⟨fun _ h => List.mem_cons.mpr (Or.inl (List.mem_singleton.mp h)), List.forall_mem_cons.mpr ⟨fun _ h => List.mem_cons_of_mem _ (List.mem_append_left _ h), List.forall_mem_cons.mpr ⟨fun _ h => List.mem_cons_of_mem _ (List.mem_append_right _ h), fun l h => absurd h List.not_mem_nil⟩⟩⟩
set_option maxRecDepth 20000 in
theorem ggX4_find_X4_isAlike : GoodIn wsX4_find wsX4_isAlike := goodIn_sl csX4_find ciX4_find _ [(1, 6, 1)] rfl gw_wsX4_isAlike
set_option maxRecDepth 20000 in
theorem gX4_find_X4_isAlike : GoodIn wsX4_find (va_wsS RX4 28 yX4_isAlike wsX4_isAlike) := goodIn_app (goodIn_sl csX4_find ciX4_find _ [(1, 3, 3)] rfl rfl) ggX4_find_X4_isAlike
set_option maxRecDepth 20000 in
theorem ggX12_seat_X12_in : GoodIn wsX12_seat wsX12_in := goodIn_sl csX12_seat ciX12_seat _ [(1, 9, 1)] rfl gw_wsX12_in
set_option maxRecDepth 20000 in
theorem gX12_seat_X12_in : GoodIn wsX12_seat (va_wsS RX12 136 yX12_in wsX12_in) := goodIn_app (goodIn_sl csX12_seat ciX12_seat _ [(1, 7, 2), (1, 4, 1)] rfl rfl) ggX12_seat_X12_in
noncomputable def csX12_one : List (List Cond) := [[.code yX12_one cX12_one 4 (some .int)], wsX12_one_r1, wsX12_one_r2, wsX120]
set_option maxRecDepth 20000 in
theorem ciX12_one : ∀ l ∈ csX12_one, ∀ w ∈ l, w ∈ wsX12_one := by
  unfold csX12_one
  refine List.forall_mem_cons.mpr ⟨fun _ h => List.mem_cons.mpr (Or.inl (List.mem_singleton.mp h)), List.forall_mem_cons.mpr ⟨fun _ h => List.mem_cons_of_mem _ (List.mem_append_left _ (List.mem_append_left _ h)), List.forall_mem_cons.mpr ⟨fun _ h => List.mem_cons_of_mem _ (List.mem_append_left _ (List.mem_append_right _ h)), List.forall_mem_cons.mpr ⟨fun _ h => List.mem_cons_of_mem _ (List.mem_append_right _ h), fun l h => absurd h List.not_mem_nil⟩⟩⟩⟩
set_option maxRecDepth 20000 in
theorem ggX12_one_X12_in : GoodIn wsX12_one wsX12_in := goodIn_sl csX12_one ciX12_one _ [(1, 17, 1)] rfl gw_wsX12_in
set_option maxRecDepth 20000 in
theorem gX12_one_X12_in : GoodIn wsX12_one (va_wsS RX12 136 yX12_in wsX12_in) := goodIn_app (goodIn_sl csX12_one ciX12_one _ [(1, 15, 2), (1, 10, 1)] rfl rfl) ggX12_one_X12_in
end
section
set_option maxRecDepth 20000 in
theorem ggX11_mend_X6_mendAll : GoodIn wsX11_mend wsX6_mendAll := goodIn_sl csX11_mend ciX11_mend _ [(1, 12, 11), (1, 11, 1), (1, 23, 1), (2, 0, 24), (3, 0, 24), (4, 0, 5), (1, 4, 1), (4, 5, 19), (5, 0, 24), (6, 0, 20), (8, 0, 12), (9, 0, 4), (10, 0, 13), (11, 0, 9), (12, 0, 6)] rfl gw_wsX6_mendAll
set_option maxRecDepth 20000 in
theorem gX11_mend_X6_mendAll : GoodIn wsX11_mend (wsV RX11 297 RX6 yX6_mendAll wsX6_mendAll) := goodIn_app (goodIn_sl csX11_mend ciX11_mend _ [(1, 8, 4)] rfl rfl) ggX11_mend_X6_mendAll
set_option maxRecDepth 20000 in
theorem ggX12_tooFew_X12_chooseName : GoodIn wsX12_tooFew wsX12_chooseName := goodIn_sl csX12_tooFew ciX12_tooFew _ [(1, 14, 5), (1, 5, 1), (1, 19, 5), (2, 0, 7), (1, 1, 1), (2, 7, 17), (3, 0, 19), (4, 0, 59)] rfl gw_wsX12_chooseName
set_option maxRecDepth 20000 in
theorem gX12_tooFew_X12_chooseName : GoodIn wsX12_tooFew (wsV RX12 269 RX12 yX12_chooseName wsX12_chooseName) := goodIn_app (goodIn_sl csX12_tooFew ciX12_tooFew _ [(1, 11, 3), (1, 5, 1)] rfl rfl) ggX12_tooFew_X12_chooseName
set_option maxRecDepth 20000 in
theorem ggX11_table_X3_workOut : GoodIn wsX11_table wsX3_workOut := goodIn_sl csX11_table ciX11_table _ [(2, 22, 2), (3, 0, 11), (2, 21, 1), (3, 11, 8), (2, 10, 1), (2, 7, 1), (2, 11, 1), (3, 19, 5), (4, 0, 24), (5, 0, 14), (2, 6, 1), (2, 8, 1), (5, 14, 4), (11, 0, 13), (12, 0, 8), (9, 0, 6)] rfl gw_wsX3_workOut
set_option maxRecDepth 20000 in
theorem gX11_table_X3_workOut : GoodIn wsX11_table (wsV RX11 181 RX3 yX3_workOut wsX3_workOut) := goodIn_app (goodIn_sl csX11_table ciX11_table _ [(2, 18, 4)] rfl rfl) ggX11_table_X3_workOut
set_option maxRecDepth 20000 in
theorem ggX12_share_X12_shareOf : GoodIn wsX12_share wsX12_shareOf := goodIn_sl csX12_share ciX12_share _ [(1, 18, 6), (2, 0, 1), (1, 4, 1), (2, 1, 15), (1, 14, 1), (2, 16, 8), (3, 0, 7), (4, 0, 59)] rfl gw_wsX12_shareOf
set_option maxRecDepth 20000 in
theorem gX12_share_X12_shareOf : GoodIn wsX12_share (wsV RX12 272 RX12 yX12_shareOf wsX12_shareOf) := goodIn_app (goodIn_sl csX12_share ciX12_share _ [(1, 15, 3), (1, 4, 1)] rfl rfl) ggX12_share_X12_shareOf
noncomputable def csX6_spread : List (List Cond) := [[.code yX6_spread cX6_spread 5 (some .int)], wsX6_spread_r1, wsX6_spread_r2, wsX6_spread_r3, wsX6_spread_r4, wsX6_spread_r5, wsX6_spread_r6, wsX60, wsX80, wsX10, wsX40, wsX20]
set_option maxRecDepth 20000 in
theorem ciX6_spread : ∀ l ∈ csX6_spread, ∀ w ∈ l, w ∈ wsX6_spread := by
  unfold csX6_spread
  refine List.forall_mem_cons.mpr ⟨fun _ h => List.mem_cons.mpr (Or.inl (List.mem_singleton.mp h)), List.forall_mem_cons.mpr ⟨fun _ h => List.mem_cons_of_mem _ (List.mem_append_left _ (List.mem_append_left _ (List.mem_append_left _ (List.mem_append_left _ (List.mem_append_left _ (List.mem_append_left _ h)))))), List.forall_mem_cons.mpr ⟨fun _ h => List.mem_cons_of_mem _ (List.mem_append_left _ (List.mem_append_left _ (List.mem_append_left _ (List.mem_append_left _ (List.mem_append_left _ (List.mem_append_right _ (List.mem_append_left _ h))))))), List.forall_mem_cons.mpr ⟨fun _ h => List.mem_cons_of_mem _ (List.mem_append_left _ (List.mem_append_left _ (List.mem_append_left _ (List.mem_append_left _ (List.mem_append_left _ (List.mem_append_right _ (List.mem_append_right _ (List.mem_append_left _ h)))))))), List.forall_mem_cons.mpr ⟨fun _ h => List.mem_cons_of_mem _ (List.mem_append_left _ (List.mem_append_left _ (List.mem_append_left _ (List.mem_append_left _ (List.mem_append_left _ (List.mem_append_right _ (List.mem_append_right _ (List.mem_append_right _ (List.mem_append_left _ h))))))))), List.forall_mem_cons.mpr ⟨fun _ h => List.mem_cons_of_mem _ (List.mem_append_left _ (List.mem_append_left _ (List.mem_append_left _ (List.mem_append_left _ (List.mem_append_left _ (List.mem_append_right _ (List.mem_append_right _ (List.mem_append_right _ (List.mem_append_right _ (List.mem_append_left _ h)))))))))), List.forall_mem_cons.mpr ⟨fun _ h => List.mem_cons_of_mem _ (List.mem_append_left _ (List.mem_append_left _ (List.mem_append_left _ (List.mem_append_left _ (List.mem_append_left _ (List.mem_append_right _ (List.mem_append_right _ (List.mem_append_right _ (List.mem_append_right _ (List.mem_append_right _ h)))))))))), List.forall_mem_cons.mpr ⟨fun _ h => List.mem_cons_of_mem _ (List.mem_append_left _ (List.mem_append_left _ (List.mem_append_left _ (List.mem_append_left _ (List.mem_append_right _ h))))), List.forall_mem_cons.mpr ⟨fun _ h => List.mem_cons_of_mem _ (List.mem_append_left _ (List.mem_append_left _ (List.mem_append_left _ (List.mem_append_right _ h)))), List.forall_mem_cons.mpr ⟨fun _ h => List.mem_cons_of_mem _ (List.mem_append_left _ (List.mem_append_left _ (List.mem_append_right _ h))), List.forall_mem_cons.mpr ⟨fun _ h => List.mem_cons_of_mem _ (List.mem_append_left _ (List.mem_append_right _ h)), List.forall_mem_cons.mpr ⟨fun _ h => List.mem_cons_of_mem _ (List.mem_append_right _ h), fun l h => absurd h List.not_mem_nil⟩⟩⟩⟩⟩⟩⟩⟩⟩⟩⟩⟩
set_option maxRecDepth 20000 in
theorem ggX6_spread_X6_reaches : GoodIn wsX6_spread wsX6_reaches := goodIn_sl csX6_spread ciX6_spread _ [(4, 23, 1), (5, 0, 3), (1, 1, 1), (5, 3, 3), (4, 22, 1), (5, 6, 1), (1, 2, 1), (5, 7, 5), (4, 16, 2), (1, 18, 1), (4, 18, 1), (1, 21, 1), (5, 12, 12), (6, 0, 15), (7, 0, 12), (11, 0, 6), (9, 0, 9)] rfl gw_wsX6_reaches
set_option maxRecDepth 20000 in
theorem gX6_spread_X6_reaches : GoodIn wsX6_spread (wsV RX6 77 RX6 yX6_reaches wsX6_reaches) := goodIn_app (goodIn_sl csX6_spread ciX6_spread _ [(4, 19, 4)] rfl rfl) ggX6_spread_X6_reaches
noncomputable def csX12_findOdds : List (List Cond) := [[.code yX12_findOdds cX12_findOdds 3 none], wsX12_findOdds_r1, wsX12_findOdds_r2, wsX120]
set_option maxRecDepth 20000 in
theorem ciX12_findOdds : ∀ l ∈ csX12_findOdds, ∀ w ∈ l, w ∈ wsX12_findOdds := by
  unfold csX12_findOdds
  refine List.forall_mem_cons.mpr ⟨fun _ h => List.mem_cons.mpr (Or.inl (List.mem_singleton.mp h)), List.forall_mem_cons.mpr ⟨fun _ h => List.mem_cons_of_mem _ (List.mem_append_left _ (List.mem_append_left _ h)), List.forall_mem_cons.mpr ⟨fun _ h => List.mem_cons_of_mem _ (List.mem_append_left _ (List.mem_append_right _ h)), List.forall_mem_cons.mpr ⟨fun _ h => List.mem_cons_of_mem _ (List.mem_append_right _ h), fun l h => absurd h List.not_mem_nil⟩⟩⟩⟩
set_option maxRecDepth 20000 in
theorem ggX12_findOdds_X12_pick : GoodIn wsX12_findOdds wsX12_pick := goodIn_sl csX12_findOdds ciX12_findOdds _ [(1, 6, 4), (1, 1, 1), (1, 10, 3), (1, 5, 1), (1, 13, 11), (2, 0, 7), (3, 0, 59)] rfl gw_wsX12_pick
set_option maxRecDepth 20000 in
theorem gX12_findOdds_X12_pick : GoodIn wsX12_findOdds (wsV RX12 253 RX12 yX12_pick wsX12_pick) := goodIn_app (goodIn_sl csX12_findOdds ciX12_findOdds _ [(1, 2, 4)] rfl rfl) ggX12_findOdds_X12_pick
set_option maxRecDepth 20000 in
theorem ggX12_write_X12_hasRoom : GoodIn wsX12_write wsX12_hasRoom := goodIn_sl csX12_write ciX12_write _ [(4, 21, 1), (1, 6, 2), (4, 22, 2), (5, 0, 1), (1, 11, 1), (5, 1, 1), (4, 17, 1), (6, 0, 59)] rfl gw_wsX12_hasRoom
set_option maxRecDepth 20000 in
theorem gX12_write_X12_hasRoom : GoodIn wsX12_write (wsV RX12 297 RX12 yX12_hasRoom wsX12_hasRoom) := goodIn_app (goodIn_sl csX12_write ciX12_write _ [(4, 18, 3), (1, 11, 1)] rfl rfl) ggX12_write_X12_hasRoom
set_option maxRecDepth 20000 in
theorem ggX10_leastHarm_X10_greatestShare : GoodIn wsX10_leastHarm wsX10_greatestShare := goodIn_sl csX10_leastHarm ciX10_leastHarm _ [(3, 14, 6), (2, 4, 1), (2, 1, 1), (2, 5, 1), (3, 20, 2), (2, 17, 1), (3, 22, 2), (4, 0, 10), (1, 6, 1), (4, 10, 1), (1, 18, 1), (2, 13, 1), (3, 9, 1), (1, 8, 1), (4, 11, 4), (2, 14, 1), (2, 10, 1), (1, 9, 1), (2, 19, 4), (5, 0, 5), (7, 0, 4), (6, 0, 13)] rfl gw_wsX10_greatestShare
set_option maxRecDepth 20000 in
theorem gX10_leastHarm_X10_greatestShare : GoodIn wsX10_leastHarm (wsV RX10 39 RX10 yX10_greatestShare wsX10_greatestShare) := goodIn_app (goodIn_sl csX10_leastHarm ciX10_leastHarm _ [(3, 10, 4)] rfl rfl) ggX10_leastHarm_X10_greatestShare
noncomputable def csX12_wordsBelow : List (List Cond) := [[.code yX12_wordsBelow cX12_wordsBelow 5 (some .int)], [.methodLink RX12 303 yX12_areUnlike, .instanceMethod yX12_areUnlike, .selects RX12 yX12_areUnlike yX12_areUnlike, .initialized RX12, .code yX12_areUnlike cX12_areUnlike 7 (some .boolean), .methodLink RX12 300 yX12_leafOf, .instanceMethod yX12_leafOf, .selects RX12 yX12_leafOf yX12_leafOf, .code yX12_leafOf cX12_leafOf 5 (some .int), .fieldLink RX12 133 "SeatsRoundModel" "names" "I", .fieldLink RX12 68 "SeatsRoundModel" "version" "[I", .methodLink RX12 307 yX12_wordsBelow, .instanceMethod yX12_wordsBelow, .selects RX12 yX12_wordsBelow yX12_wordsBelow], wsX120]
set_option maxRecDepth 20000 in
theorem ciX12_wordsBelow : ∀ l ∈ csX12_wordsBelow, ∀ w ∈ l, w ∈ wsX12_wordsBelow := by
  unfold csX12_wordsBelow
  refine List.forall_mem_cons.mpr ⟨fun _ h => List.mem_cons.mpr (Or.inl (List.mem_singleton.mp h)), List.forall_mem_cons.mpr ⟨fun _ h => List.mem_cons_of_mem _ (List.mem_append_left _ h), List.forall_mem_cons.mpr ⟨fun _ h => List.mem_cons_of_mem _ (List.mem_append_right _ h), fun l h => absurd h List.not_mem_nil⟩⟩⟩
set_option maxRecDepth 20000 in
theorem ggX12_wordsBelow_X12_areUnlike : GoodIn wsX12_wordsBelow wsX12_areUnlike := goodIn_sl csX12_wordsBelow ciX12_wordsBelow _ [(1, 4, 4), (1, 3, 1), (1, 8, 3), (2, 0, 59)] rfl gw_wsX12_areUnlike
set_option maxRecDepth 20000 in
theorem gX12_wordsBelow_X12_areUnlike : GoodIn wsX12_wordsBelow (wsV RX12 303 RX12 yX12_areUnlike wsX12_areUnlike) := goodIn_app (goodIn_sl csX12_wordsBelow ciX12_wordsBelow _ [(1, 0, 4)] rfl rfl) ggX12_wordsBelow_X12_areUnlike
noncomputable def csX12_chooseName : List (List Cond) := [[.code yX12_chooseName cX12_chooseName 3 none], wsX12_chooseName_r1, wsX12_chooseName_r2, wsX12_chooseName_r3, wsX120]
set_option maxRecDepth 20000 in
theorem ciX12_chooseName : ∀ l ∈ csX12_chooseName, ∀ w ∈ l, w ∈ wsX12_chooseName := by
  unfold csX12_chooseName
  refine List.forall_mem_cons.mpr ⟨fun _ h => List.mem_cons.mpr (Or.inl (List.mem_singleton.mp h)), List.forall_mem_cons.mpr ⟨fun _ h => List.mem_cons_of_mem _ (List.mem_append_left _ (List.mem_append_left _ h)), List.forall_mem_cons.mpr ⟨fun _ h => List.mem_cons_of_mem _ (List.mem_append_left _ (List.mem_append_right _ (List.mem_append_left _ h))), List.forall_mem_cons.mpr ⟨fun _ h => List.mem_cons_of_mem _ (List.mem_append_left _ (List.mem_append_right _ (List.mem_append_right _ h))), List.forall_mem_cons.mpr ⟨fun _ h => List.mem_cons_of_mem _ (List.mem_append_right _ h), fun l h => absurd h List.not_mem_nil⟩⟩⟩⟩⟩
set_option maxRecDepth 20000 in
theorem ggX12_chooseName_X12_numberOf : GoodIn wsX12_chooseName wsX12_numberOf := goodIn_sl csX12_chooseName ciX12_chooseName _ [(1, 5, 4), (4, 0, 59)] rfl gw_wsX12_numberOf
set_option maxRecDepth 20000 in
theorem gX12_chooseName_X12_numberOf : GoodIn wsX12_chooseName (wsV RX12 162 RX12 yX12_numberOf wsX12_numberOf) := goodIn_app (goodIn_sl csX12_chooseName ciX12_chooseName _ [(1, 1, 4)] rfl rfl) ggX12_chooseName_X12_numberOf
set_option maxRecDepth 20000 in
theorem ggX12_harm_X12_isIn : GoodIn wsX12_harm wsX12_isIn := goodIn_sl csX12_harm ciX12_harm _ [(2, 3, 1), (1, 1, 1), (6, 0, 59)] rfl gw_wsX12_isIn
set_option maxRecDepth 20000 in
theorem gX12_harm_X12_isIn : GoodIn wsX12_harm (wsV RX12 223 RX12 yX12_isIn wsX12_isIn) := goodIn_app (goodIn_sl csX12_harm ciX12_harm _ [(2, 0, 3), (1, 8, 1)] rfl rfl) ggX12_harm_X12_isIn
set_option maxRecDepth 20000 in
theorem ggX12_onShelf_X12_isName : GoodIn wsX12_onShelf wsX12_isName := goodIn_sl csX12_onShelf ciX12_onShelf _ [(1, 16, 2), (1, 10, 2), (1, 7, 1), (1, 12, 1), (2, 0, 59)] rfl gw_wsX12_isName
set_option maxRecDepth 20000 in
theorem gX12_onShelf_X12_isName : GoodIn wsX12_onShelf (wsV RX12 158 RX12 yX12_isName wsX12_isName) := goodIn_app (goodIn_sl csX12_onShelf ciX12_onShelf _ [(1, 13, 3), (1, 7, 1)] rfl rfl) ggX12_onShelf_X12_isName
set_option maxRecDepth 20000 in
theorem ggX12_tellsFrom_X12_begins : GoodIn wsX12_tellsFrom wsX12_begins := goodIn_sl csX12_tellsFrom ciX12_tellsFrom _ [(1, 5, 3), (3, 0, 59)] rfl gw_wsX12_begins
set_option maxRecDepth 20000 in
theorem gX12_tellsFrom_X12_begins : GoodIn wsX12_tellsFrom (wsV RX12 337 RX12 yX12_begins wsX12_begins) := goodIn_app (goodIn_sl csX12_tellsFrom ciX12_tellsFrom _ [(1, 1, 4)] rfl rfl) ggX12_tellsFrom_X12_begins
set_option maxRecDepth 20000 in
theorem ggX12_product_X12_here : GoodIn wsX12_product wsX12_here := goodIn_sl csX12_product ciX12_product _ [(1, 9, 1), (1, 1, 1), (1, 10, 3), (3, 0, 59)] rfl gw_wsX12_here
set_option maxRecDepth 20000 in
theorem gX12_product_X12_here : GoodIn wsX12_product (wsV RX12 187 RX12 yX12_here wsX12_here) := goodIn_app (goodIn_sl csX12_product ciX12_product _ [(1, 6, 3), (1, 5, 1)] rfl rfl) ggX12_product_X12_here
noncomputable def csX12_numbers : List (List Cond) := [[.code yX12_numbers cX12_numbers 5 none], [.fieldLink RX12 206 "SeatsRoundModel" "nowN" "I", .fieldLink RX12 209 "SeatsRoundModel" "nowU" "I", .fieldLink RX12 212 "SeatsRoundModel" "nowT" "I", .fieldLink RX12 215 "SeatsRoundModel" "nowX" "I", .fieldLink RX12 140 "SeatsRoundModel" "keepers" "I", .fieldLink RX12 53 "SeatsRoundModel" "counts" "[I", .fieldLink RX12 56 "SeatsRoundModel" "streetIn" "[I", .methodLink RX12 223 yX12_isIn, .instanceMethod yX12_isIn, .selects RX12 yX12_isIn yX12_isIn, .initialized RX12, .code yX12_isIn cX12_isIn 3 (some .boolean), .fieldLink RX12 32 "SeatsRoundModel" "tableOf" "[I"], wsX120]
set_option maxRecDepth 20000 in
theorem ciX12_numbers : ∀ l ∈ csX12_numbers, ∀ w ∈ l, w ∈ wsX12_numbers := by
  unfold csX12_numbers
  refine List.forall_mem_cons.mpr ⟨fun _ h => List.mem_cons.mpr (Or.inl (List.mem_singleton.mp h)), List.forall_mem_cons.mpr ⟨fun _ h => List.mem_cons_of_mem _ (List.mem_append_left _ h), List.forall_mem_cons.mpr ⟨fun _ h => List.mem_cons_of_mem _ (List.mem_append_right _ h), fun l h => absurd h List.not_mem_nil⟩⟩⟩
set_option maxRecDepth 20000 in
theorem ggX12_numbers_X12_isIn : GoodIn wsX12_numbers wsX12_isIn := goodIn_sl csX12_numbers ciX12_numbers _ [(1, 11, 2), (2, 0, 59)] rfl gw_wsX12_isIn
set_option maxRecDepth 20000 in
theorem gX12_numbers_X12_isIn : GoodIn wsX12_numbers (wsV RX12 223 RX12 yX12_isIn wsX12_isIn) := goodIn_app (goodIn_sl csX12_numbers ciX12_numbers _ [(1, 7, 4)] rfl rfl) ggX12_numbers_X12_isIn
set_option maxRecDepth 20000 in
theorem ggX12_sits_X12_isIn : GoodIn wsX12_sits wsX12_isIn := goodIn_sl csX12_sits ciX12_sits _ [(1, 9, 2), (2, 0, 59)] rfl gw_wsX12_isIn
set_option maxRecDepth 20000 in
theorem gX12_sits_X12_isIn : GoodIn wsX12_sits (wsV RX12 223 RX12 yX12_isIn wsX12_isIn) := goodIn_app (goodIn_sl csX12_sits ciX12_sits _ [(1, 5, 4)] rfl rfl) ggX12_sits_X12_isIn
set_option maxRecDepth 20000 in
theorem ggX6_mendAll_X6_receives : GoodIn wsX6_mendAll wsX6_receives := goodIn_sl csX6_mendAll ciX6_mendAll _ [(5, 16, 4), (1, 10, 1), (5, 20, 1), (1, 6, 1), (5, 21, 1), (1, 14, 1), (5, 22, 2), (6, 0, 9), (7, 0, 12), (11, 0, 6)] rfl gw_wsX6_receives
set_option maxRecDepth 20000 in
theorem gX6_mendAll_X6_receives : GoodIn wsX6_mendAll (wsV RX6 93 RX6 yX6_receives wsX6_receives) := goodIn_app (goodIn_sl csX6_mendAll ciX6_mendAll _ [(5, 13, 3), (1, 10, 1)] rfl rfl) ggX6_mendAll_X6_receives
set_option maxRecDepth 20000 in
theorem ggX11_share_X8_countOdds : GoodIn wsX11_share wsX8_countOdds := goodIn_sl csX11_share ciX11_share _ [(1, 22, 2), (2, 0, 8), (1, 21, 1), (2, 8, 13), (1, 8, 1), (2, 21, 2), (5, 0, 13)] rfl gw_wsX8_countOdds
set_option maxRecDepth 20000 in
theorem gX11_share_X8_countOdds : GoodIn wsX11_share (wsV RX11 251 RX8 yX8_countOdds wsX8_countOdds) := goodIn_app (goodIn_sl csX11_share ciX11_share _ [(1, 18, 4)] rfl rfl) ggX11_share_X8_countOdds
set_option maxRecDepth 20000 in
theorem ggX5_seatSet_X8_takeAll : GoodIn wsX5_seatSet wsX8_takeAll := goodIn_sl csX5_seatSet ciX5_seatSet _ [(1, 16, 8), (2, 0, 7), (1, 15, 1), (2, 7, 8), (12, 0, 13)] rfl gw_wsX8_takeAll
set_option maxRecDepth 20000 in
theorem gX5_seatSet_X8_takeAll : GoodIn wsX5_seatSet (wsV RX5 61 RX8 yX8_takeAll wsX8_takeAll) := goodIn_app (goodIn_sl csX5_seatSet ciX5_seatSet _ [(1, 12, 4)] rfl rfl) ggX5_seatSet_X8_takeAll
set_option maxRecDepth 20000 in
theorem ggX0_tellsFrom_X0_keepsFrom : GoodIn wsX0_tellsFrom wsX0_keepsFrom := goodIn_sl csX0_tellsFrom ciX0_tellsFrom _ [(1, 14, 1), (1, 0, 8), (1, 11, 3), (1, 15, 9), (2, 0, 1), (3, 0, 5)] rfl gw_wsX0_keepsFrom
set_option maxRecDepth 20000 in
theorem gX0_tellsFrom_X0_keepsFrom : GoodIn wsX0_tellsFrom (wsV RX0 32 RX0 yX0_keepsFrom wsX0_keepsFrom) := goodIn_app (goodIn_sl csX0_tellsFrom ciX0_tellsFrom _ [(1, 11, 3), (1, 4, 1)] rfl rfl) ggX0_tellsFrom_X0_keepsFrom
set_option maxRecDepth 20000 in
theorem ggX0_run_X0_tellsFrom : GoodIn wsX0_run wsX0_tellsFrom := goodIn_sl csX0_run ciX0_run _ [(2, 1, 1), (1, 2, 1), (1, 8, 3), (1, 6, 1), (1, 11, 3), (1, 22, 2), (2, 0, 1), (1, 14, 8), (1, 0, 1), (1, 3, 3), (1, 7, 1), (1, 1, 1), (3, 0, 5)] rfl gw_wsX0_tellsFrom
set_option maxRecDepth 20000 in
theorem gX0_run_X0_tellsFrom : GoodIn wsX0_run (wsV RX0 38 RX0 yX0_tellsFrom wsX0_tellsFrom) := goodIn_app (goodIn_sl csX0_run ciX0_run _ [(1, 22, 2), (2, 0, 1), (1, 6, 1)] rfl rfl) ggX0_run_X0_tellsFrom
noncomputable def csX5_nextOf : List (List Cond) := [[.code yX5_nextOf cX5_nextOf 3 (some .int)], [.fieldLink RX5 15 "SeatsRound$Orders" "toldCount" "I", .fieldLink RX5 30 "SeatsRound$Orders" "least" "[I", .methodLink RX5 108 yX5_sumOver, .instanceMethod yX5_sumOver, .selects RX5 yX5_sumOver yX5_sumOver, .initialized RX5, .code yX5_sumOver cX5_sumOver 6 (some .int), .fieldLink RX5 37 "SeatsRound$Orders" "nameList" "LSeatsRound$NameList;", .fieldLink RX5 90 "SeatsRound$NameList" "count" "I", .fieldLink RX5 27 "SeatsRound$Orders" "holders" "[[I", .methodLink RX5 111 yJ6_bitCount_0f7a4, .static yJ6_bitCount_0f7a4, .initialized RJ6, .code yJ6_bitCount_0f7a4 cJ6_bitCount_0f7a4 1 (some .int), .constant RJ6 265 (1431655765), .constant RJ6 266 (858993459), .constant RJ6 267 (252645135)], wsX50, wsX40]
set_option maxRecDepth 20000 in
theorem ciX5_nextOf : ∀ l ∈ csX5_nextOf, ∀ w ∈ l, w ∈ wsX5_nextOf := by
  unfold csX5_nextOf
  refine List.forall_mem_cons.mpr ⟨fun _ h => List.mem_cons.mpr (Or.inl (List.mem_singleton.mp h)), List.forall_mem_cons.mpr ⟨fun _ h => List.mem_cons_of_mem _ (List.mem_append_left _ (List.mem_append_left _ h)), List.forall_mem_cons.mpr ⟨fun _ h => List.mem_cons_of_mem _ (List.mem_append_left _ (List.mem_append_right _ h)), List.forall_mem_cons.mpr ⟨fun _ h => List.mem_cons_of_mem _ (List.mem_append_right _ h), fun l h => absurd h List.not_mem_nil⟩⟩⟩⟩
set_option maxRecDepth 20000 in
theorem ggX5_nextOf_X5_sumOver : GoodIn wsX5_nextOf wsX5_sumOver := goodIn_sl csX5_nextOf ciX5_nextOf _ [(1, 6, 1), (1, 1, 1), (1, 7, 10), (2, 0, 10), (3, 0, 4)] rfl gw_wsX5_sumOver
set_option maxRecDepth 20000 in
theorem gX5_nextOf_X5_sumOver : GoodIn wsX5_nextOf (wsV RX5 108 RX5 yX5_sumOver wsX5_sumOver) := goodIn_app (goodIn_sl csX5_nextOf ciX5_nextOf _ [(1, 2, 4)] rfl rfl) ggX5_nextOf_X5_sumOver
noncomputable def csX1_pickFirstFrom : List (List Cond) := [[.code yX1_pickFirstFrom cX1_pickFirstFrom 5 none], [.fieldLink RX1 56 "SeatsRound$Table" "seats" "I", .fieldLink RX1 62 "SeatsRound$Table" "ahead" "[S", .fieldLink RX1 66 "SeatsRound$Table" "owner" "[B", .methodLink RX1 70 yX1_isPicked, .instanceMethod yX1_isPicked, .selects RX1 yX1_isPicked yX1_isPicked, .initialized RX1, .code yX1_isPicked cX1_isPicked 2 (some .boolean), .fieldLink RX1 31 "SeatsRound$Choice" "pickBits" "I", .methodLink RX1 74 yX1_takePick, .instanceMethod yX1_takePick, .selects RX1 yX1_takePick yX1_takePick, .code yX1_takePick cX1_takePick 2 none, .fieldLink RX1 18 "SeatsRound$Choice" "pickCount" "I", .fieldLink RX1 9 "SeatsRound$Choice" "picks" "[I", .static yX11_placeBehind, .initialized RX11, .code yX11_placeBehind cX11_placeBehind 1 (some .int)], wsX80, wsX10]
set_option maxRecDepth 20000 in
theorem ciX1_pickFirstFrom : ∀ l ∈ csX1_pickFirstFrom, ∀ w ∈ l, w ∈ wsX1_pickFirstFrom := by
  unfold csX1_pickFirstFrom
  refine List.forall_mem_cons.mpr ⟨fun _ h => List.mem_cons.mpr (Or.inl (List.mem_singleton.mp h)), List.forall_mem_cons.mpr ⟨fun _ h => List.mem_cons_of_mem _ (List.mem_append_left _ (List.mem_append_left _ h)), List.forall_mem_cons.mpr ⟨fun _ h => List.mem_cons_of_mem _ (List.mem_append_left _ (List.mem_append_right _ h)), List.forall_mem_cons.mpr ⟨fun _ h => List.mem_cons_of_mem _ (List.mem_append_right _ h), fun l h => absurd h List.not_mem_nil⟩⟩⟩⟩
set_option maxRecDepth 20000 in
theorem ggX1_pickFirstFrom_X1_takePick : GoodIn wsX1_pickFirstFrom wsX1_takePick := goodIn_sl csX1_pickFirstFrom ciX1_pickFirstFrom _ [(1, 12, 3), (1, 8, 1), (3, 0, 9)] rfl gw_wsX1_takePick
set_option maxRecDepth 20000 in
theorem gX1_pickFirstFrom_X1_takePick : GoodIn wsX1_pickFirstFrom (wsV RX1 74 RX1 yX1_takePick wsX1_takePick) := goodIn_app (goodIn_sl csX1_pickFirstFrom ciX1_pickFirstFrom _ [(1, 9, 3), (1, 6, 1)] rfl rfl) ggX1_pickFirstFrom_X1_takePick
set_option maxRecDepth 20000 in
theorem ggX1_pickFirstFrom_X1_isPicked : GoodIn wsX1_pickFirstFrom wsX1_isPicked := goodIn_sl csX1_pickFirstFrom ciX1_pickFirstFrom _ [(1, 7, 2), (3, 0, 9)] rfl gw_wsX1_isPicked
set_option maxRecDepth 20000 in
theorem gX1_pickFirstFrom_X1_isPicked : GoodIn wsX1_pickFirstFrom (wsV RX1 70 RX1 yX1_isPicked wsX1_isPicked) := goodIn_app (goodIn_sl csX1_pickFirstFrom ciX1_pickFirstFrom _ [(1, 3, 4)] rfl rfl) ggX1_pickFirstFrom_X1_isPicked
set_option maxRecDepth 20000 in
theorem ggX11_trees_X6_wordsAsked : GoodIn wsX11_trees wsX6_wordsAsked := goodIn_sl csX11_trees ciX11_trees _ [(2, 5, 1), (1, 13, 2), (5, 0, 12)] rfl gw_wsX6_wordsAsked
set_option maxRecDepth 20000 in
theorem gX11_trees_X6_wordsAsked : GoodIn wsX11_trees (wsV RX11 303 RX6 yX6_wordsAsked wsX6_wordsAsked) := goodIn_app (goodIn_sl csX11_trees ciX11_trees _ [(2, 2, 3), (1, 11, 1)] rfl rfl) ggX11_trees_X6_wordsAsked
noncomputable def csX6_isKeptFor : List (List Cond) := [[.code yX6_isKeptFor cX6_isKeptFor 5 (some .boolean)], [.fieldLink RX6 50 "SeatsRound$Parcels" "choice" "LSeatsRound$Choice;", .fieldLink RX6 107 "SeatsRound$Choice" "pickCount" "I", .fieldLink RX6 110 "SeatsRound$Choice" "picks" "[I", .fieldLink RX6 42 "SeatsRound$Parcels" "keepers" "LSeatsRound$Keepers;", .fieldLink RX6 16 "SeatsRound$Parcels" "kept" "[[I", .fieldLink RX6 19 "SeatsRound$Parcels" "keptFor" "[[I", .fieldLink RX6 28 "SeatsRound$Parcels" "latest" "[I", .methodLink RX6 113 yX1_isChosen, .instanceMethod yX1_isChosen, .selects RX1 yX1_isChosen yX1_isChosen, .initialized RX1, .code yX1_isChosen cX1_isChosen 2 (some .boolean), .fieldLink RX1 25 "SeatsRound$Choice" "chosenBits" "I", .methodLink RX6 117 yX2_isUp, .instanceMethod yX2_isUp, .selects RX2 yX2_isUp yX2_isUp, .initialized RX2, .code yX2_isUp cX2_isUp 2 (some .boolean), .fieldLink RX2 24 "SeatsRound$Keepers" "fallen" "[Z", .fieldLink RX2 9 "SeatsRound$Keepers" "kind" "[I"], wsX60, wsX10, wsX20]
set_option maxRecDepth 20000 in
theorem ciX6_isKeptFor : ∀ l ∈ csX6_isKeptFor, ∀ w ∈ l, w ∈ wsX6_isKeptFor := by
  unfold csX6_isKeptFor
  refine List.forall_mem_cons.mpr ⟨fun _ h => List.mem_cons.mpr (Or.inl (List.mem_singleton.mp h)), List.forall_mem_cons.mpr ⟨fun _ h => List.mem_cons_of_mem _ (List.mem_append_left _ (List.mem_append_left _ (List.mem_append_left _ h))), List.forall_mem_cons.mpr ⟨fun _ h => List.mem_cons_of_mem _ (List.mem_append_left _ (List.mem_append_left _ (List.mem_append_right _ h))), List.forall_mem_cons.mpr ⟨fun _ h => List.mem_cons_of_mem _ (List.mem_append_left _ (List.mem_append_right _ h)), List.forall_mem_cons.mpr ⟨fun _ h => List.mem_cons_of_mem _ (List.mem_append_right _ h), fun l h => absurd h List.not_mem_nil⟩⟩⟩⟩⟩
set_option maxRecDepth 20000 in
theorem ggX6_isKeptFor_X1_isChosen : GoodIn wsX6_isKeptFor wsX1_isChosen := goodIn_sl csX6_isKeptFor ciX6_isKeptFor _ [(1, 11, 2), (3, 0, 9)] rfl gw_wsX1_isChosen
set_option maxRecDepth 20000 in
theorem gX6_isKeptFor_X1_isChosen : GoodIn wsX6_isKeptFor (wsV RX6 113 RX1 yX1_isChosen wsX1_isChosen) := goodIn_app (goodIn_sl csX6_isKeptFor ciX6_isKeptFor _ [(1, 7, 4)] rfl rfl) ggX6_isKeptFor_X1_isChosen
set_option maxRecDepth 20000 in
theorem ggX11_fall_X6_empty : GoodIn wsX11_fall wsX6_empty := goodIn_sl csX11_fall ciX11_fall _ [(1, 13, 7), (4, 0, 12)] rfl gw_wsX6_empty
set_option maxRecDepth 20000 in
theorem gX11_fall_X6_empty : GoodIn wsX11_fall (wsV RX11 290 RX6 yX6_empty wsX6_empty) := goodIn_app (goodIn_sl csX11_fall ciX11_fall _ [(1, 9, 4)] rfl rfl) ggX11_fall_X6_empty
noncomputable def csX6_greatestFor : List (List Cond) := [[.code yX6_greatestFor cX6_greatestFor 6 (some .int)], wsX6_greatestFor_r1, wsX6_greatestFor_r2, wsX6_greatestFor_r3, wsX6_greatestFor_r4, wsX6_greatestFor_r5, wsX60, wsX80, wsX10, wsX40, wsX20]
set_option maxRecDepth 20000 in
theorem ciX6_greatestFor : ∀ l ∈ csX6_greatestFor, ∀ w ∈ l, w ∈ wsX6_greatestFor := by
  unfold csX6_greatestFor
  refine List.forall_mem_cons.mpr ⟨fun _ h => List.mem_cons.mpr (Or.inl (List.mem_singleton.mp h)), List.forall_mem_cons.mpr ⟨fun _ h => List.mem_cons_of_mem _ (List.mem_append_left _ (List.mem_append_left _ (List.mem_append_left _ (List.mem_append_left _ (List.mem_append_left _ (List.mem_append_left _ h)))))), List.forall_mem_cons.mpr ⟨fun _ h => List.mem_cons_of_mem _ (List.mem_append_left _ (List.mem_append_left _ (List.mem_append_left _ (List.mem_append_left _ (List.mem_append_left _ (List.mem_append_right _ (List.mem_append_left _ h))))))), List.forall_mem_cons.mpr ⟨fun _ h => List.mem_cons_of_mem _ (List.mem_append_left _ (List.mem_append_left _ (List.mem_append_left _ (List.mem_append_left _ (List.mem_append_left _ (List.mem_append_right _ (List.mem_append_right _ (List.mem_append_left _ h)))))))), List.forall_mem_cons.mpr ⟨fun _ h => List.mem_cons_of_mem _ (List.mem_append_left _ (List.mem_append_left _ (List.mem_append_left _ (List.mem_append_left _ (List.mem_append_left _ (List.mem_append_right _ (List.mem_append_right _ (List.mem_append_right _ (List.mem_append_left _ h))))))))), List.forall_mem_cons.mpr ⟨fun _ h => List.mem_cons_of_mem _ (List.mem_append_left _ (List.mem_append_left _ (List.mem_append_left _ (List.mem_append_left _ (List.mem_append_left _ (List.mem_append_right _ (List.mem_append_right _ (List.mem_append_right _ (List.mem_append_right _ h))))))))), List.forall_mem_cons.mpr ⟨fun _ h => List.mem_cons_of_mem _ (List.mem_append_left _ (List.mem_append_left _ (List.mem_append_left _ (List.mem_append_left _ (List.mem_append_right _ h))))), List.forall_mem_cons.mpr ⟨fun _ h => List.mem_cons_of_mem _ (List.mem_append_left _ (List.mem_append_left _ (List.mem_append_left _ (List.mem_append_right _ h)))), List.forall_mem_cons.mpr ⟨fun _ h => List.mem_cons_of_mem _ (List.mem_append_left _ (List.mem_append_left _ (List.mem_append_right _ h))), List.forall_mem_cons.mpr ⟨fun _ h => List.mem_cons_of_mem _ (List.mem_append_left _ (List.mem_append_right _ h)), List.forall_mem_cons.mpr ⟨fun _ h => List.mem_cons_of_mem _ (List.mem_append_right _ h), fun l h => absurd h List.not_mem_nil⟩⟩⟩⟩⟩⟩⟩⟩⟩⟩⟩
set_option maxRecDepth 20000 in
theorem ggX6_greatestFor_X2_isUp : GoodIn wsX6_greatestFor wsX2_isUp := goodIn_sl csX6_greatestFor ciX6_greatestFor _ [(5, 2, 3), (10, 0, 6)] rfl gw_wsX2_isUp
set_option maxRecDepth 20000 in
theorem gX6_greatestFor_X2_isUp : GoodIn wsX6_greatestFor (wsV RX6 117 RX2 yX2_isUp wsX2_isUp) := goodIn_app (goodIn_sl csX6_greatestFor ciX6_greatestFor _ [(4, 22, 2), (5, 0, 2)] rfl rfl) ggX6_greatestFor_X2_isUp
set_option maxRecDepth 20000 in
theorem ggX6_mendAll_X4_placeOf : GoodIn wsX6_mendAll wsX4_placeOf := goodIn_sl csX6_mendAll ciX6_mendAll _ [(1, 23, 1), (2, 0, 3), (8, 0, 4)] rfl gw_wsX4_placeOf
set_option maxRecDepth 20000 in
theorem gX6_mendAll_X4_placeOf : GoodIn wsX6_mendAll (wsV RX6 59 RX4 yX4_placeOf wsX4_placeOf) := goodIn_app (goodIn_sl csX6_mendAll ciX6_mendAll _ [(1, 19, 4)] rfl rfl) ggX6_mendAll_X4_placeOf
set_option maxRecDepth 20000 in
theorem ggX6_isKeptFor_X2_isUp : GoodIn wsX6_isKeptFor wsX2_isUp := goodIn_sl csX6_isKeptFor ciX6_isKeptFor _ [(1, 17, 3), (4, 0, 6)] rfl gw_wsX2_isUp
set_option maxRecDepth 20000 in
theorem gX6_isKeptFor_X2_isUp : GoodIn wsX6_isKeptFor (wsV RX6 117 RX2 yX2_isUp wsX2_isUp) := goodIn_app (goodIn_sl csX6_isKeptFor ciX6_isKeptFor _ [(1, 13, 4)] rfl rfl) ggX6_isKeptFor_X2_isUp
set_option maxRecDepth 20000 in
theorem ggX3_workOut_X3_sign : GoodIn wsX3_workOut wsX3_sign := goodIn_sl csX3_workOut ciX3_workOut _ [(2, 15, 1), (1, 4, 1), (1, 3, 1), (1, 1, 1), (6, 0, 8)] rfl gw_wsX3_sign
set_option maxRecDepth 20000 in
theorem gX3_workOut_X3_sign : GoodIn wsX3_workOut (wsV RX3 62 RX3 yX3_sign wsX3_sign) := goodIn_app (goodIn_sl csX3_workOut ciX3_workOut _ [(2, 12, 3), (1, 12, 1)] rfl rfl) ggX3_workOut_X3_sign
set_option maxRecDepth 20000 in
theorem ggX4_addFrom_X4_add : GoodIn wsX4_addFrom wsX4_add := goodIn_sl csX4_addFrom ciX4_addFrom _ [(1, 16, 1), (1, 7, 1), (1, 9, 1), (1, 17, 4), (1, 8, 1), (2, 0, 4)] rfl gw_wsX4_add
set_option maxRecDepth 20000 in
theorem gX4_addFrom_X4_add : GoodIn wsX4_addFrom (wsV RX4 45 RX4 yX4_add wsX4_add) := goodIn_app (goodIn_sl csX4_addFrom ciX4_addFrom _ [(1, 13, 3), (1, 5, 1)] rfl rfl) ggX4_addFrom_X4_add
noncomputable def csX12_pickBest : List (List Cond) := [[.code yX12_pickBest cX12_pickBest 8 none], [.fieldLink RX12 140 "SeatsRoundModel" "keepers" "I", .fieldLink RX12 35 "SeatsRoundModel" "tableZ" "[I", .fieldLink RX12 53 "SeatsRoundModel" "counts" "[I", .fieldLink RX12 118 "SeatsRoundModel" "picked" "[I", .fieldLink RX12 240 "SeatsRoundModel" "pickedMany" "I", .methodLink RX12 227 yX12_mixed, .static yX12_mixed, .initialized RX12, .code yX12_mixed cX12_mixed 3 (some .int), .constant RX12 221 (104729), .constant RX12 222 (1103515245), .methodLink RX12 223 yX12_isIn, .instanceMethod yX12_isIn, .selects RX12 yX12_isIn yX12_isIn, .code yX12_isIn cX12_isIn 3 (some .boolean), .fieldLink RX12 32 "SeatsRoundModel" "tableOf" "[I"], wsX120]
set_option maxRecDepth 20000 in
theorem ciX12_pickBest : ∀ l ∈ csX12_pickBest, ∀ w ∈ l, w ∈ wsX12_pickBest := by
  unfold csX12_pickBest
  refine List.forall_mem_cons.mpr ⟨fun _ h => List.mem_cons.mpr (Or.inl (List.mem_singleton.mp h)), List.forall_mem_cons.mpr ⟨fun _ h => List.mem_cons_of_mem _ (List.mem_append_left _ h), List.forall_mem_cons.mpr ⟨fun _ h => List.mem_cons_of_mem _ (List.mem_append_right _ h), fun l h => absurd h List.not_mem_nil⟩⟩⟩
set_option maxRecDepth 20000 in
theorem ggX12_pickBest_X12_mixed : GoodIn wsX12_pickBest wsX12_mixed := goodIn_sl csX12_pickBest ciX12_pickBest _ [(1, 8, 3)] rfl gw_wsX12_mixed
set_option maxRecDepth 20000 in
theorem gX12_pickBest_X12_mixed : GoodIn wsX12_pickBest (va_wsS RX12 227 yX12_mixed wsX12_mixed) := goodIn_app (goodIn_sl csX12_pickBest ciX12_pickBest _ [(1, 5, 3)] rfl rfl) ggX12_pickBest_X12_mixed
set_option maxRecDepth 20000 in
theorem ggX11_shift_X7_spans : GoodIn wsX11_shift wsX7_spans := goodIn_sl csX11_shift ciX11_shift _ [(2, 1, 2), (4, 0, 4)] rfl gw_wsX7_spans
set_option maxRecDepth 20000 in
theorem gX11_shift_X7_spans : GoodIn wsX11_shift (wsV RX11 388 RX7 yX7_spans wsX7_spans) := goodIn_app (goodIn_sl csX11_shift ciX11_shift _ [(1, 22, 2), (2, 0, 1), (1, 14, 1)] rfl rfl) ggX11_shift_X7_spans
set_option maxRecDepth 20000 in
theorem ggX11_half_X2_has : GoodIn wsX11_half wsX2_has := goodIn_sl csX11_half ciX11_half _ [(1, 14, 2), (6, 0, 6)] rfl gw_wsX2_has
set_option maxRecDepth 20000 in
theorem gX11_half_X2_has : GoodIn wsX11_half (wsV RX11 137 RX2 yX2_has wsX2_has) := goodIn_app (goodIn_sl csX11_half ciX11_half _ [(1, 10, 4)] rfl rfl) ggX11_half_X2_has
set_option maxRecDepth 20000 in
theorem ggX11_noon_X11_upward : GoodIn wsX11_noon wsX11_upward := goodIn_sl csX11_noon ciX11_noon _ [(1, 17, 1)] rfl gw_wsX11_upward
set_option maxRecDepth 20000 in
theorem gX11_noon_X11_upward : GoodIn wsX11_noon (va_wsS RX11 309 yX11_upward wsX11_upward) := goodIn_app (goodIn_sl csX11_noon ciX11_noon _ [(1, 15, 2), (1, 4, 1)] rfl rfl) ggX11_noon_X11_upward
set_option maxRecDepth 20000 in
theorem ggX12_noon_X12_ones : GoodIn wsX12_noon wsX12_ones := goodIn_sl csX12_noon ciX12_noon _ [(1, 12, 1)] rfl gw_wsX12_ones
set_option maxRecDepth 20000 in
theorem gX12_noon_X12_ones : GoodIn wsX12_noon (va_wsS RX12 284 yX12_ones wsX12_ones) := goodIn_app (goodIn_sl csX12_noon ciX12_noon _ [(1, 10, 2), (1, 4, 1)] rfl rfl) ggX12_noon_X12_ones
set_option maxRecDepth 20000 in
theorem ggX12_trees_X12_in : GoodIn wsX12_trees wsX12_in := goodIn_sl csX12_trees ciX12_trees _ [(1, 8, 1)] rfl gw_wsX12_in
set_option maxRecDepth 20000 in
theorem gX12_trees_X12_in : GoodIn wsX12_trees (va_wsS RX12 136 yX12_in wsX12_in) := goodIn_app (goodIn_sl csX12_trees ciX12_trees _ [(1, 6, 2), (1, 3, 1)] rfl rfl) ggX12_trees_X12_in
end
section
set_option maxRecDepth 20000 in
theorem ggX11_read_X6_greatestFor : GoodIn wsX11_read wsX6_greatestFor := goodIn_sl csX11_read ciX11_read _ [(2, 9, 15), (1, 13, 1), (3, 0, 24), (4, 0, 18), (1, 19, 1), (4, 18, 6), (5, 0, 24), (6, 0, 7), (2, 0, 2), (1, 7, 1), (2, 2, 3), (10, 0, 12), (11, 0, 13), (12, 0, 9), (9, 0, 4), (8, 0, 6)] rfl gw_wsX6_greatestFor
set_option maxRecDepth 20000 in
theorem gX11_read_X6_greatestFor : GoodIn wsX11_read (wsV RX11 274 RX6 yX6_greatestFor wsX6_greatestFor) := goodIn_app (goodIn_sl csX11_read ciX11_read _ [(2, 5, 4)] rfl rfl) ggX11_read_X6_greatestFor
set_option maxRecDepth 20000 in
theorem ggX12_moves_X12_chooseName : GoodIn wsX12_moves wsX12_chooseName := goodIn_sl csX12_moves ciX12_moves _ [(1, 20, 4), (2, 0, 1), (1, 6, 1), (2, 1, 18), (1, 16, 1), (2, 19, 5), (1, 0, 2), (3, 0, 5), (1, 12, 4), (3, 5, 14), (5, 0, 59)] rfl gw_wsX12_chooseName
set_option maxRecDepth 20000 in
theorem gX12_moves_X12_chooseName : GoodIn wsX12_moves (wsV RX12 269 RX12 yX12_chooseName wsX12_chooseName) := goodIn_app (goodIn_sl csX12_moves ciX12_moves _ [(1, 17, 3), (1, 6, 1)] rfl rfl) ggX12_moves_X12_chooseName
set_option maxRecDepth 20000 in
theorem ggX6_greatestFor_X1_choose : GoodIn wsX6_greatestFor wsX1_choose := goodIn_sl csX6_greatestFor ciX6_greatestFor _ [(1, 23, 1), (2, 0, 8), (1, 9, 1), (2, 8, 7), (1, 22, 1), (2, 15, 9), (3, 0, 24), (4, 0, 22), (8, 0, 9), (7, 0, 13), (10, 0, 6)] rfl gw_wsX1_choose
set_option maxRecDepth 20000 in
theorem gX6_greatestFor_X1_choose : GoodIn wsX6_greatestFor (wsV RX6 65 RX1 yX1_choose wsX1_choose) := goodIn_app (goodIn_sl csX6_greatestFor ciX6_greatestFor _ [(1, 19, 4)] rfl rfl) ggX6_greatestFor_X1_choose
set_option maxRecDepth 20000 in
theorem ggX6_spread_X1_choose : GoodIn wsX6_spread wsX1_choose := goodIn_sl csX6_spread ciX6_spread _ [(1, 19, 5), (2, 0, 12), (1, 18, 1), (2, 12, 12), (3, 0, 24), (4, 0, 19), (9, 0, 9), (8, 0, 13), (11, 0, 6)] rfl gw_wsX1_choose
set_option maxRecDepth 20000 in
theorem gX6_spread_X1_choose : GoodIn wsX6_spread (wsV RX6 65 RX1 yX1_choose wsX1_choose) := goodIn_app (goodIn_sl csX6_spread ciX6_spread _ [(1, 15, 4)] rfl rfl) ggX6_spread_X1_choose
noncomputable def csX12_keepsFrom : List (List Cond) := [[.code yX12_keepsFrom cX12_keepsFrom 5 (some .int)], [.fieldLink RX12 22 "SeatsRoundModel" "kind" "[I", .methodLink RX12 337 yX12_begins, .instanceMethod yX12_begins, .selects RX12 yX12_begins yX12_begins, .initialized RX12, .code yX12_begins cX12_begins 2 none, .fieldLink RX12 334 "SeatsRoundModel" "bodies" "I", .fieldLink RX12 99 "SeatsRoundModel" "trace" "[I", .methodLink RX12 340 yX12_findsFrom, .instanceMethod yX12_findsFrom, .selects RX12 yX12_findsFrom yX12_findsFrom, .code yX12_findsFrom cX12_findsFrom 4 (some .int), .fieldLink RX12 19 "SeatsRoundModel" "strength" "[I", .methodLink RX12 343 yX12_aboveOf, .static yX12_aboveOf, .code yX12_aboveOf cX12_aboveOf 1 (some .int), .methodLink RX12 346 yX12_keepsFrom, .instanceMethod yX12_keepsFrom, .selects RX12 yX12_keepsFrom yX12_keepsFrom, .methodLink RX12 349 yX12_movesFrom, .instanceMethod yX12_movesFrom, .selects RX12 yX12_movesFrom yX12_movesFrom, .code yX12_movesFrom cX12_movesFrom 5 (some .int)], wsX120]
set_option maxRecDepth 20000 in
theorem ciX12_keepsFrom : ∀ l ∈ csX12_keepsFrom, ∀ w ∈ l, w ∈ wsX12_keepsFrom := by
  unfold csX12_keepsFrom
  refine List.forall_mem_cons.mpr ⟨fun _ h => List.mem_cons.mpr (Or.inl (List.mem_singleton.mp h)), List.forall_mem_cons.mpr ⟨fun _ h => List.mem_cons_of_mem _ (List.mem_append_left _ h), List.forall_mem_cons.mpr ⟨fun _ h => List.mem_cons_of_mem _ (List.mem_append_right _ h), fun l h => absurd h List.not_mem_nil⟩⟩⟩
set_option maxRecDepth 20000 in
theorem ggX12_keepsFrom_X12_keepsFrom : GoodIn wsX12_keepsFrom wsX12_keepsFrom := goodIn_sl csX12_keepsFrom ciX12_keepsFrom _ [(0, 0, 1), (1, 0, 23), (2, 0, 59)] rfl gw_wsX12_keepsFrom
set_option maxRecDepth 20000 in
theorem gX12_keepsFrom_X12_keepsFrom : GoodIn wsX12_keepsFrom (wsV RX12 346 RX12 yX12_keepsFrom wsX12_keepsFrom) := goodIn_app (goodIn_sl csX12_keepsFrom ciX12_keepsFrom _ [(1, 16, 3), (1, 4, 1)] rfl rfl) ggX12_keepsFrom_X12_keepsFrom
set_option maxRecDepth 20000 in
theorem ggX12_movesFrom_X12_movesFrom : GoodIn wsX12_movesFrom wsX12_movesFrom := goodIn_sl csX12_movesFrom ciX12_movesFrom _ [(0, 0, 1), (1, 0, 19), (2, 0, 59)] rfl gw_wsX12_movesFrom
set_option maxRecDepth 20000 in
theorem gX12_movesFrom_X12_movesFrom : GoodIn wsX12_movesFrom (wsV RX12 349 RX12 yX12_movesFrom wsX12_movesFrom) := goodIn_app (goodIn_sl csX12_movesFrom ciX12_movesFrom _ [(1, 8, 3), (1, 4, 1)] rfl rfl) ggX12_movesFrom_X12_movesFrom
set_option maxRecDepth 20000 in
theorem ggX12_write_X12_keeps : GoodIn wsX12_write wsX12_keeps := goodIn_sl csX12_write ciX12_write _ [(4, 15, 1), (2, 18, 1), (2, 20, 1), (4, 16, 2), (1, 22, 2), (2, 0, 1), (1, 11, 1), (2, 1, 1), (1, 6, 1), (1, 5, 1), (6, 0, 59)] rfl gw_wsX12_keeps
set_option maxRecDepth 20000 in
theorem gX12_write_X12_keeps : GoodIn wsX12_write (wsV RX12 293 RX12 yX12_keeps wsX12_keeps) := goodIn_app (goodIn_sl csX12_write ciX12_write _ [(4, 12, 3), (1, 11, 1)] rfl rfl) ggX12_write_X12_keeps
set_option maxRecDepth 20000 in
theorem ggX12_tries_X12_sits : GoodIn wsX12_tries wsX12_sits := goodIn_sl csX12_tries ciX12_tries _ [(3, 19, 3), (1, 4, 2), (1, 1, 1), (1, 8, 5), (1, 0, 1), (3, 22, 2), (4, 0, 3), (5, 0, 59)] rfl gw_wsX12_sits
set_option maxRecDepth 20000 in
theorem gX12_tries_X12_sits : GoodIn wsX12_tries (wsV RX12 237 RX12 yX12_sits wsX12_sits) := goodIn_app (goodIn_sl csX12_tries ciX12_tries _ [(3, 16, 3), (1, 11, 1)] rfl rfl) ggX12_tries_X12_sits
noncomputable def csX12_pick : List (List Cond) := [[.code yX12_pick cX12_pick 5 none], wsX12_pick_r1, wsX12_pick_r2, wsX120]
set_option maxRecDepth 20000 in
theorem ciX12_pick : ∀ l ∈ csX12_pick, ∀ w ∈ l, w ∈ wsX12_pick := by
  unfold csX12_pick
  refine List.forall_mem_cons.mpr ⟨fun _ h => List.mem_cons.mpr (Or.inl (List.mem_singleton.mp h)), List.forall_mem_cons.mpr ⟨fun _ h => List.mem_cons_of_mem _ (List.mem_append_left _ (List.mem_append_left _ h)), List.forall_mem_cons.mpr ⟨fun _ h => List.mem_cons_of_mem _ (List.mem_append_left _ (List.mem_append_right _ h)), List.forall_mem_cons.mpr ⟨fun _ h => List.mem_cons_of_mem _ (List.mem_append_right _ h), fun l h => absurd h List.not_mem_nil⟩⟩⟩⟩
set_option maxRecDepth 20000 in
theorem ggX12_pick_X12_pickBest : GoodIn wsX12_pick wsX12_pickBest := goodIn_sl csX12_pick ciX12_pick _ [(1, 8, 4), (1, 3, 1), (1, 0, 1), (1, 12, 2), (1, 7, 1), (1, 14, 7), (1, 1, 1), (3, 0, 59)] rfl gw_wsX12_pickBest
set_option maxRecDepth 20000 in
theorem gX12_pick_X12_pickBest : GoodIn wsX12_pick (wsV RX12 243 RX12 yX12_pickBest wsX12_pickBest) := goodIn_app (goodIn_sl csX12_pick ciX12_pick _ [(1, 4, 4)] rfl rfl) ggX12_pick_X12_pickBest
set_option maxRecDepth 20000 in
theorem ggX12_tries_X12_countsNow : GoodIn wsX12_tries wsX12_countsNow := goodIn_sl csX12_tries ciX12_tries _ [(1, 16, 3), (5, 0, 59)] rfl gw_wsX12_countsNow
set_option maxRecDepth 20000 in
theorem gX12_tries_X12_countsNow : GoodIn wsX12_tries (wsV RX12 170 RX12 yX12_countsNow wsX12_countsNow) := goodIn_app (goodIn_sl csX12_tries ciX12_tries _ [(1, 13, 3), (1, 11, 1)] rfl rfl) ggX12_tries_X12_countsNow
set_option maxRecDepth 20000 in
theorem ggX12_trees_X12_areUnlike : GoodIn wsX12_trees wsX12_areUnlike := goodIn_sl csX12_trees ciX12_trees _ [(1, 16, 4), (1, 3, 1), (1, 20, 3), (2, 0, 59)] rfl gw_wsX12_areUnlike
set_option maxRecDepth 20000 in
theorem gX12_trees_X12_areUnlike : GoodIn wsX12_trees (wsV RX12 303 RX12 yX12_areUnlike wsX12_areUnlike) := goodIn_app (goodIn_sl csX12_trees ciX12_trees _ [(1, 13, 3), (1, 3, 1)] rfl rfl) ggX12_trees_X12_areUnlike
set_option maxRecDepth 20000 in
theorem ggX12_number_X12_numberOf : GoodIn wsX12_number wsX12_numberOf := goodIn_sl csX12_number ciX12_number _ [(1, 12, 4), (2, 0, 59)] rfl gw_wsX12_numberOf
set_option maxRecDepth 20000 in
theorem gX12_number_X12_numberOf : GoodIn wsX12_number (wsV RX12 162 RX12 yX12_numberOf wsX12_numberOf) := goodIn_app (goodIn_sl csX12_number ciX12_number _ [(1, 9, 3), (1, 3, 1)] rfl rfl) ggX12_number_X12_numberOf
set_option maxRecDepth 20000 in
theorem ggX12_keepsFrom_X12_begins : GoodIn wsX12_keepsFrom wsX12_begins := goodIn_sl csX12_keepsFrom ciX12_keepsFrom _ [(1, 5, 3), (2, 0, 59)] rfl gw_wsX12_begins
set_option maxRecDepth 20000 in
theorem gX12_keepsFrom_X12_begins : GoodIn wsX12_keepsFrom (wsV RX12 337 RX12 yX12_begins wsX12_begins) := goodIn_app (goodIn_sl csX12_keepsFrom ciX12_keepsFrom _ [(1, 1, 4)] rfl rfl) ggX12_keepsFrom_X12_begins
set_option maxRecDepth 20000 in
theorem ggX12_one_X12_eats : GoodIn wsX12_one wsX12_eats := goodIn_sl csX12_one ciX12_one _ [(2, 0, 1), (1, 0, 2), (1, 7, 8), (3, 0, 59)] rfl gw_wsX12_eats
set_option maxRecDepth 20000 in
theorem gX12_one_X12_eats : GoodIn wsX12_one (wsV RX12 203 RX12 yX12_eats wsX12_eats) := goodIn_app (goodIn_sl csX12_one ciX12_one _ [(1, 21, 3), (1, 10, 1)] rfl rfl) ggX12_one_X12_eats
set_option maxRecDepth 20000 in
theorem ggX12_name_X12_found : GoodIn wsX12_name wsX12_found := goodIn_sl csX12_name ciX12_name _ [(1, 11, 1), (1, 3, 1), (1, 12, 2), (1, 1, 1), (2, 0, 59)] rfl gw_wsX12_found
set_option maxRecDepth 20000 in
theorem gX12_name_X12_found : GoodIn wsX12_name (wsV RX12 149 RX12 yX12_found wsX12_found) := goodIn_app (goodIn_sl csX12_name ciX12_name _ [(1, 8, 3), (1, 6, 1)] rfl rfl) ggX12_name_X12_found
set_option maxRecDepth 20000 in
theorem ggX11_ofTable_X8_unevenness : GoodIn wsX11_ofTable wsX8_unevenness := goodIn_sl csX11_ofTable ciX11_ofTable _ [(1, 16, 8), (2, 0, 5), (1, 15, 1), (2, 5, 19), (3, 0, 2), (1, 8, 1), (3, 2, 2), (4, 0, 13)] rfl gw_wsX8_unevenness
set_option maxRecDepth 20000 in
theorem gX11_ofTable_X8_unevenness : GoodIn wsX11_ofTable (wsV RX11 211 RX8 yX8_unevenness wsX8_unevenness) := goodIn_app (goodIn_sl csX11_ofTable ciX11_ofTable _ [(1, 12, 4)] rfl rfl) ggX11_ofTable_X8_unevenness
set_option maxRecDepth 20000 in
theorem ggX11_table_X8_seatAll : GoodIn wsX11_table wsX8_seatAll := goodIn_sl csX11_table ciX11_table _ [(6, 19, 1), (5, 23, 1), (6, 3, 2), (6, 8, 1), (1, 17, 1), (6, 20, 4), (7, 0, 8), (1, 10, 1), (7, 8, 7), (6, 10, 1), (11, 0, 13)] rfl gw_wsX8_seatAll
set_option maxRecDepth 20000 in
theorem gX11_table_X8_seatAll : GoodIn wsX11_table (wsV RX11 189 RX8 yX8_seatAll wsX8_seatAll) := goodIn_app (goodIn_sl csX11_table ciX11_table _ [(6, 16, 3), (1, 10, 1)] rfl rfl) ggX11_table_X8_seatAll
set_option maxRecDepth 20000 in
theorem ggX5_leastFrom_X5_leastOnward : GoodIn wsX5_leastFrom wsX5_leastOnward := goodIn_sl csX5_leastFrom ciX5_leastFrom _ [(10, 10, 1), (1, 0, 1), (10, 11, 3), (1, 5, 1), (10, 14, 1), (1, 1, 1), (1, 13, 2), (1, 16, 1), (10, 15, 1), (4, 7, 6), (12, 0, 10), (14, 0, 4)] rfl gw_wsX5_leastOnward
set_option maxRecDepth 20000 in
theorem gX5_leastFrom_X5_leastOnward : GoodIn wsX5_leastFrom (wsV RX5 53 RX5 yX5_leastOnward wsX5_leastOnward) := goodIn_app (goodIn_sl csX5_leastFrom ciX5_leastFrom _ [(10, 7, 3), (1, 5, 1)] rfl rfl) ggX5_leastFrom_X5_leastOnward
set_option maxRecDepth 20000 in
theorem ggX1_pick_X1_pickRound : GoodIn wsX1_pick wsX1_pickRound := goodIn_sl csX1_pick ciX1_pick _ [(2, 23, 1), (2, 7, 1), (1, 1, 1), (1, 8, 1), (2, 8, 5), (1, 6, 1), (2, 13, 5), (1, 0, 1), (1, 10, 1), (2, 18, 1), (1, 20, 1), (2, 19, 1), (4, 0, 13), (3, 0, 9)] rfl gw_wsX1_pickRound
set_option maxRecDepth 20000 in
theorem gX1_pick_X1_pickRound : GoodIn wsX1_pick (wsV RX1 53 RX1 yX1_pickRound wsX1_pickRound) := goodIn_app (goodIn_sl csX1_pick ciX1_pick _ [(2, 20, 3), (1, 6, 1)] rfl rfl) ggX1_pick_X1_pickRound
set_option maxRecDepth 20000 in
theorem ggX0_tellsFrom_X0_tellsFrom : GoodIn wsX0_tellsFrom wsX0_tellsFrom := goodIn_sl csX0_tellsFrom ciX0_tellsFrom _ [(0, 0, 1), (1, 0, 24), (2, 0, 1), (3, 0, 5)] rfl gw_wsX0_tellsFrom
set_option maxRecDepth 20000 in
theorem gX0_tellsFrom_X0_tellsFrom : GoodIn wsX0_tellsFrom (wsV RX0 38 RX0 yX0_tellsFrom wsX0_tellsFrom) := goodIn_app (goodIn_sl csX0_tellsFrom ciX0_tellsFrom _ [(1, 8, 3), (1, 4, 1)] rfl rfl) ggX0_tellsFrom_X0_tellsFrom
noncomputable def csX6_receives : List (List Cond) := [[.code yX6_receives cX6_receives 4 (some .boolean)], [.methodLink RX6 97 yX6_hasRoom, .instanceMethod yX6_hasRoom, .selects RX6 yX6_hasRoom yX6_hasRoom, .initialized RX6, .code yX6_hasRoom cX6_hasRoom 3 (some .boolean), .fieldLink RX6 42 "SeatsRound$Parcels" "keepers" "LSeatsRound$Keepers;", .fieldLink RX6 87 "SeatsRound$Keepers" "kind" "[I", .fieldLink RX6 11 "SeatsRound$Parcels" "version" "[[I", .methodLink RX6 103 yX6_copiesOn, .instanceMethod yX6_copiesOn, .selects RX6 yX6_copiesOn yX6_copiesOn, .code yX6_copiesOn cX6_copiesOn 2 (some .int), .methodLink RX6 141 yX6_filled, .static yX6_filled, .code yX6_filled cX6_filled 6 (some .int), .methodLink RX6 100 yX6_takesGreater, .instanceMethod yX6_takesGreater, .selects RX6 yX6_takesGreater yX6_takesGreater, .code yX6_takesGreater cX6_takesGreater 4 (some .boolean)], wsX60, wsX20]
set_option maxRecDepth 20000 in
theorem ciX6_receives : ∀ l ∈ csX6_receives, ∀ w ∈ l, w ∈ wsX6_receives := by
  unfold csX6_receives
  refine List.forall_mem_cons.mpr ⟨fun _ h => List.mem_cons.mpr (Or.inl (List.mem_singleton.mp h)), List.forall_mem_cons.mpr ⟨fun _ h => List.mem_cons_of_mem _ (List.mem_append_left _ (List.mem_append_left _ h)), List.forall_mem_cons.mpr ⟨fun _ h => List.mem_cons_of_mem _ (List.mem_append_left _ (List.mem_append_right _ h)), List.forall_mem_cons.mpr ⟨fun _ h => List.mem_cons_of_mem _ (List.mem_append_right _ h), fun l h => absurd h List.not_mem_nil⟩⟩⟩⟩
set_option maxRecDepth 20000 in
theorem ggX6_receives_X6_hasRoom : GoodIn wsX6_receives wsX6_hasRoom := goodIn_sl csX6_receives ciX6_receives _ [(1, 4, 7), (1, 3, 1), (1, 11, 4), (2, 0, 12), (3, 0, 6)] rfl gw_wsX6_hasRoom
set_option maxRecDepth 20000 in
theorem gX6_receives_X6_hasRoom : GoodIn wsX6_receives (wsV RX6 97 RX6 yX6_hasRoom wsX6_hasRoom) := goodIn_app (goodIn_sl csX6_receives ciX6_receives _ [(1, 0, 4)] rfl rfl) ggX6_receives_X6_hasRoom
noncomputable def csX8_takeAll : List (List Cond) := [[.code yX8_takeAll cX8_takeAll 2 none], [.fieldLink RX8 9 "SeatsRound$Table" "members" "I", .fieldLink RX8 37 "SeatsRound$Table" "weight" "[I", .methodLink RX8 70 arraycopyName, .native arraycopyName, .static arraycopyName, .initialized "java/lang/System", .fieldLink RX8 44 "SeatsRound$Table" "law" "[B", .fieldLink RX8 30 "SeatsRound$Table" "lawLength" "I", .fieldLink RX8 18 "SeatsRound$Table" "copies" "I", .fieldLink RX8 21 "SeatsRound$Table" "streets" "I", .fieldLink RX8 24 "SeatsRound$Table" "way" "I", .methodLink RX8 76 yX8_takeLaw, .instanceMethod yX8_takeLaw, .selects RX8 yX8_takeLaw yX8_takeLaw, .initialized RX8, .code yX8_takeLaw cX8_takeLaw 3 none, .methodLink RX8 61 Lib.Math.min.name, .static Lib.Math.min.name, .initialized "java/lang/Math", .code Lib.Math.min.name Lib.Math.min.code 2 (some .int), .methodLink RX8 67 Lib.Math.max.name, .static Lib.Math.max.name, .code Lib.Math.max.name Lib.Math.max.code 2 (some .int)], wsX80]
set_option maxRecDepth 20000 in
theorem ciX8_takeAll : ∀ l ∈ csX8_takeAll, ∀ w ∈ l, w ∈ wsX8_takeAll := by
  unfold csX8_takeAll
  refine List.forall_mem_cons.mpr ⟨fun _ h => List.mem_cons.mpr (Or.inl (List.mem_singleton.mp h)), List.forall_mem_cons.mpr ⟨fun _ h => List.mem_cons_of_mem _ (List.mem_append_left _ h), List.forall_mem_cons.mpr ⟨fun _ h => List.mem_cons_of_mem _ (List.mem_append_right _ h), fun l h => absurd h List.not_mem_nil⟩⟩⟩
set_option maxRecDepth 20000 in
theorem ggX8_takeAll_X8_takeLaw : GoodIn wsX8_takeAll wsX8_takeLaw := goodIn_sl csX8_takeAll ciX8_takeAll _ [(1, 15, 8), (1, 7, 1), (1, 6, 1), (1, 2, 4), (2, 0, 13)] rfl gw_wsX8_takeLaw
set_option maxRecDepth 20000 in
theorem gX8_takeAll_X8_takeLaw : GoodIn wsX8_takeAll (wsV RX8 76 RX8 yX8_takeLaw wsX8_takeLaw) := goodIn_app (goodIn_sl csX8_takeAll ciX8_takeAll _ [(1, 11, 4)] rfl rfl) ggX8_takeAll_X8_takeLaw
set_option maxRecDepth 20000 in
theorem ggX6_receives_X6_takesGreater : GoodIn wsX6_receives wsX6_takesGreater := goodIn_sl csX6_receives ciX6_receives _ [(1, 18, 1), (1, 7, 1), (2, 0, 12)] rfl gw_wsX6_takesGreater
set_option maxRecDepth 20000 in
theorem gX6_receives_X6_takesGreater : GoodIn wsX6_receives (wsV RX6 100 RX6 yX6_takesGreater wsX6_takesGreater) := goodIn_app (goodIn_sl csX6_receives ciX6_receives _ [(1, 15, 3), (1, 3, 1)] rfl rfl) ggX6_receives_X6_takesGreater
noncomputable def csX0_findsFrom : List (List Cond) := [[.code yX0_findsFrom cX0_findsFrom 3 (some .int)], [.fieldLink RX0 25 "SeatsRound$Acts" "strength" "I", .fieldLink RX0 22 "SeatsRound$Acts" "number" "I", .methodLink RX0 41 yX0_begin, .instanceMethod yX0_begin, .selects RX0 yX0_begin yX0_begin, .initialized RX0, .code yX0_begin cX0_begin 2 none, .fieldLink RX0 15 "SeatsRound$Acts" "ran" "I", .fieldLink RX0 9 "SeatsRound$Acts" "bodies" "[I", .methodLink RX0 28 yX0_findsFrom, .instanceMethod yX0_findsFrom, .selects RX0 yX0_findsFrom yX0_findsFrom], wsX00]
set_option maxRecDepth 20000 in
theorem ciX0_findsFrom : ∀ l ∈ csX0_findsFrom, ∀ w ∈ l, w ∈ wsX0_findsFrom := by
  unfold csX0_findsFrom
  refine List.forall_mem_cons.mpr ⟨fun _ h => List.mem_cons.mpr (Or.inl (List.mem_singleton.mp h)), List.forall_mem_cons.mpr ⟨fun _ h => List.mem_cons_of_mem _ (List.mem_append_left _ h), List.forall_mem_cons.mpr ⟨fun _ h => List.mem_cons_of_mem _ (List.mem_append_right _ h), fun l h => absurd h List.not_mem_nil⟩⟩⟩
set_option maxRecDepth 20000 in
theorem ggX0_findsFrom_X0_findsFrom : GoodIn wsX0_findsFrom wsX0_findsFrom := goodIn_sl csX0_findsFrom ciX0_findsFrom _ [(0, 0, 1), (1, 0, 12), (2, 0, 5)] rfl gw_wsX0_findsFrom
set_option maxRecDepth 20000 in
theorem gX0_findsFrom_X0_findsFrom : GoodIn wsX0_findsFrom (wsV RX0 28 RX0 yX0_findsFrom wsX0_findsFrom) := goodIn_app (goodIn_sl csX0_findsFrom ciX0_findsFrom _ [(1, 9, 3), (1, 5, 1)] rfl rfl) ggX0_findsFrom_X0_findsFrom
noncomputable def csX6_hasRoom : List (List Cond) := [[.code yX6_hasRoom cX6_hasRoom 3 (some .boolean)], [.fieldLink RX6 42 "SeatsRound$Parcels" "keepers" "LSeatsRound$Keepers;", .fieldLink RX6 87 "SeatsRound$Keepers" "kind" "[I", .fieldLink RX6 11 "SeatsRound$Parcels" "version" "[[I", .methodLink RX6 103 yX6_copiesOn, .instanceMethod yX6_copiesOn, .selects RX6 yX6_copiesOn yX6_copiesOn, .initialized RX6, .code yX6_copiesOn cX6_copiesOn 2 (some .int), .methodLink RX6 141 yX6_filled, .static yX6_filled, .code yX6_filled cX6_filled 6 (some .int)], wsX60, wsX20]
set_option maxRecDepth 20000 in
theorem ciX6_hasRoom : ∀ l ∈ csX6_hasRoom, ∀ w ∈ l, w ∈ wsX6_hasRoom := by
  unfold csX6_hasRoom
  refine List.forall_mem_cons.mpr ⟨fun _ h => List.mem_cons.mpr (Or.inl (List.mem_singleton.mp h)), List.forall_mem_cons.mpr ⟨fun _ h => List.mem_cons_of_mem _ (List.mem_append_left _ (List.mem_append_left _ h)), List.forall_mem_cons.mpr ⟨fun _ h => List.mem_cons_of_mem _ (List.mem_append_left _ (List.mem_append_right _ h)), List.forall_mem_cons.mpr ⟨fun _ h => List.mem_cons_of_mem _ (List.mem_append_right _ h), fun l h => absurd h List.not_mem_nil⟩⟩⟩⟩
set_option maxRecDepth 20000 in
theorem ggX6_hasRoom_X6_copiesOn : GoodIn wsX6_hasRoom wsX6_copiesOn := goodIn_sl csX6_hasRoom ciX6_hasRoom _ [(1, 7, 1), (1, 2, 1), (1, 8, 2), (1, 6, 1), (1, 10, 1), (2, 0, 12)] rfl gw_wsX6_copiesOn
set_option maxRecDepth 20000 in
theorem gX6_hasRoom_X6_copiesOn : GoodIn wsX6_hasRoom (wsV RX6 103 RX6 yX6_copiesOn wsX6_copiesOn) := goodIn_app (goodIn_sl csX6_hasRoom ciX6_hasRoom _ [(1, 3, 4)] rfl rfl) ggX6_hasRoom_X6_copiesOn
set_option maxRecDepth 20000 in
theorem ggX11_tooFew_J6_bitCount_0f7a4 : GoodIn wsX11_tooFew wsJ6_bitCount_0f7a4 := goodIn_sl csX11_tooFew ciX11_tooFew _ [(5, 3, 4)] rfl gw_wsJ6_bitCount_0f7a4
set_option maxRecDepth 20000 in
theorem gX11_tooFew_J6_bitCount_0f7a4 : GoodIn wsX11_tooFew (va_wsS RX11 246 yJ6_bitCount_0f7a4 wsJ6_bitCount_0f7a4) := goodIn_app (goodIn_sl csX11_tooFew ciX11_tooFew _ [(5, 0, 3)] rfl rfl) ggX11_tooFew_J6_bitCount_0f7a4
noncomputable def csX10_greatestShare : List (List Cond) := [[.code yX10_greatestShare cX10_greatestShare 5 (some .int)], wsX10_greatestShare_r1, wsX10_greatestShare_r2, wsX100, wsX40, wsX80]
set_option maxRecDepth 20000 in
theorem ciX10_greatestShare : ∀ l ∈ csX10_greatestShare, ∀ w ∈ l, w ∈ wsX10_greatestShare := by
  unfold csX10_greatestShare
  refine List.forall_mem_cons.mpr ⟨fun _ h => List.mem_cons.mpr (Or.inl (List.mem_singleton.mp h)), List.forall_mem_cons.mpr ⟨fun _ h => List.mem_cons_of_mem _ (List.mem_append_left _ (List.mem_append_left _ (List.mem_append_left _ (List.mem_append_left _ h)))), List.forall_mem_cons.mpr ⟨fun _ h => List.mem_cons_of_mem _ (List.mem_append_left _ (List.mem_append_left _ (List.mem_append_left _ (List.mem_append_right _ h)))), List.forall_mem_cons.mpr ⟨fun _ h => List.mem_cons_of_mem _ (List.mem_append_left _ (List.mem_append_left _ (List.mem_append_right _ h))), List.forall_mem_cons.mpr ⟨fun _ h => List.mem_cons_of_mem _ (List.mem_append_left _ (List.mem_append_right _ h)), List.forall_mem_cons.mpr ⟨fun _ h => List.mem_cons_of_mem _ (List.mem_append_right _ h), fun l h => absurd h List.not_mem_nil⟩⟩⟩⟩⟩⟩
set_option maxRecDepth 20000 in
theorem ggX10_greatestShare_J7_fill_53178 : GoodIn wsX10_greatestShare wsJ7_fill_53178 := goodIn_sl csX10_greatestShare ciX10_greatestShare _ [(1, 11, 1)] rfl gw_wsJ7_fill_53178
set_option maxRecDepth 20000 in
theorem gX10_greatestShare_J7_fill_53178 : GoodIn wsX10_greatestShare (va_wsS RX10 43 yJ7_fill_53178 wsJ7_fill_53178) := goodIn_app (goodIn_sl csX10_greatestShare ciX10_greatestShare _ [(1, 8, 3)] rfl rfl) ggX10_greatestShare_J7_fill_53178
noncomputable def csX3_readProduct : List (List Cond) := [[.code yX3_readProduct cX3_readProduct 6 (some .int)], wsX3_readProduct_r1, wsX3_readProduct_r2, wsX30]
set_option maxRecDepth 20000 in
theorem ciX3_readProduct : ∀ l ∈ csX3_readProduct, ∀ w ∈ l, w ∈ wsX3_readProduct := by
  unfold csX3_readProduct
  refine List.forall_mem_cons.mpr ⟨fun _ h => List.mem_cons.mpr (Or.inl (List.mem_singleton.mp h)), List.forall_mem_cons.mpr ⟨fun _ h => List.mem_cons_of_mem _ (List.mem_append_left _ (List.mem_append_left _ h)), List.forall_mem_cons.mpr ⟨fun _ h => List.mem_cons_of_mem _ (List.mem_append_left _ (List.mem_append_right _ h)), List.forall_mem_cons.mpr ⟨fun _ h => List.mem_cons_of_mem _ (List.mem_append_right _ h), fun l h => absurd h List.not_mem_nil⟩⟩⟩⟩
set_option maxRecDepth 20000 in
theorem ggX3_readProduct_X3_sign : GoodIn wsX3_readProduct wsX3_sign := goodIn_sl csX3_readProduct ciX3_readProduct _ [(1, 9, 1), (1, 1, 1), (1, 10, 2), (3, 0, 8)] rfl gw_wsX3_sign
set_option maxRecDepth 20000 in
theorem gX3_readProduct_X3_sign : GoodIn wsX3_readProduct (wsV RX3 62 RX3 yX3_sign wsX3_sign) := goodIn_app (goodIn_sl csX3_readProduct ciX3_readProduct _ [(1, 6, 3), (1, 5, 1)] rfl rfl) ggX3_readProduct_X3_sign
set_option maxRecDepth 20000 in
theorem ggX11_comes_X5_isTold : GoodIn wsX11_comes wsX5_isTold := goodIn_sl csX11_comes ciX11_comes _ [(1, 14, 3), (3, 0, 10)] rfl gw_wsX5_isTold
set_option maxRecDepth 20000 in
theorem gX11_comes_X5_isTold : GoodIn wsX11_comes (wsV RX11 317 RX5 yX5_isTold wsX5_isTold) := goodIn_app (goodIn_sl csX11_comes ciX11_comes _ [(1, 10, 4)] rfl rfl) ggX11_comes_X5_isTold
set_option maxRecDepth 20000 in
theorem ggX6_spread_X4_placeOf : GoodIn wsX6_spread wsX4_placeOf := goodIn_sl csX6_spread ciX6_spread _ [(1, 11, 4), (10, 0, 4)] rfl gw_wsX4_placeOf
set_option maxRecDepth 20000 in
theorem gX6_spread_X4_placeOf : GoodIn wsX6_spread (wsV RX6 59 RX4 yX4_placeOf wsX4_placeOf) := goodIn_app (goodIn_sl csX6_spread ciX6_spread _ [(1, 7, 4)] rfl rfl) ggX6_spread_X4_placeOf
set_option maxRecDepth 20000 in
theorem ggX0_findsFrom_X0_begin : GoodIn wsX0_findsFrom wsX0_begin := goodIn_sl csX0_findsFrom ciX0_findsFrom _ [(1, 6, 3), (2, 0, 5)] rfl gw_wsX0_begin
set_option maxRecDepth 20000 in
theorem gX0_findsFrom_X0_begin : GoodIn wsX0_findsFrom (wsV RX0 41 RX0 yX0_begin wsX0_begin) := goodIn_app (goodIn_sl csX0_findsFrom ciX0_findsFrom _ [(1, 2, 4)] rfl rfl) ggX0_findsFrom_X0_begin
set_option maxRecDepth 20000 in
theorem ggX12_keepsFrom_X12_aboveOf : GoodIn wsX12_keepsFrom wsX12_aboveOf := goodIn_sl csX12_keepsFrom ciX12_keepsFrom _ [(1, 15, 1)] rfl gw_wsX12_aboveOf
set_option maxRecDepth 20000 in
theorem gX12_keepsFrom_X12_aboveOf : GoodIn wsX12_keepsFrom (va_wsS RX12 343 yX12_aboveOf wsX12_aboveOf) := goodIn_app (goodIn_sl csX12_keepsFrom ciX12_keepsFrom _ [(1, 13, 2), (1, 4, 1)] rfl rfl) ggX12_keepsFrom_X12_aboveOf
set_option maxRecDepth 20000 in
theorem ggX11_write_X2_isUp : GoodIn wsX11_write wsX2_isUp := goodIn_sl csX11_write ciX11_write _ [(2, 2, 3), (9, 0, 6)] rfl gw_wsX2_isUp
set_option maxRecDepth 20000 in
theorem gX11_write_X2_isUp : GoodIn wsX11_write (wsV RX11 267 RX2 yX2_isUp wsX2_isUp) := goodIn_app (goodIn_sl csX11_write ciX11_write _ [(1, 23, 1), (2, 0, 2), (1, 7, 1)] rfl rfl) ggX11_write_X2_isUp
noncomputable def csX6_grow : List (List Cond) := [[.code yX6_grow cX6_grow 4 none], [.fieldLink RX6 46 "SeatsRound$Parcels" "nameList" "LSeatsRound$NameList;", .fieldLink RX6 123 "SeatsRound$NameList" "count" "I", .fieldLink RX6 11 "SeatsRound$Parcels" "version" "[[I", .methodLink RX6 124 yJ7_fill_53178, .static yJ7_fill_53178, .initialized RJ7, .code yJ7_fill_53178 cJ7_fill_53178 4 none], wsX60, wsX40]
set_option maxRecDepth 20000 in
theorem ciX6_grow : ∀ l ∈ csX6_grow, ∀ w ∈ l, w ∈ wsX6_grow := by
  unfold csX6_grow
  refine List.forall_mem_cons.mpr ⟨fun _ h => List.mem_cons.mpr (Or.inl (List.mem_singleton.mp h)), List.forall_mem_cons.mpr ⟨fun _ h => List.mem_cons_of_mem _ (List.mem_append_left _ (List.mem_append_left _ h)), List.forall_mem_cons.mpr ⟨fun _ h => List.mem_cons_of_mem _ (List.mem_append_left _ (List.mem_append_right _ h)), List.forall_mem_cons.mpr ⟨fun _ h => List.mem_cons_of_mem _ (List.mem_append_right _ h), fun l h => absurd h List.not_mem_nil⟩⟩⟩⟩
set_option maxRecDepth 20000 in
theorem ggX6_grow_J7_fill_53178 : GoodIn wsX6_grow wsJ7_fill_53178 := goodIn_sl csX6_grow ciX6_grow _ [(1, 6, 1)] rfl gw_wsJ7_fill_53178
set_option maxRecDepth 20000 in
theorem gX6_grow_J7_fill_53178 : GoodIn wsX6_grow (va_wsS RX6 124 yJ7_fill_53178 wsJ7_fill_53178) := goodIn_app (goodIn_sl csX6_grow ciX6_grow _ [(1, 3, 3)] rfl rfl) ggX6_grow_J7_fill_53178
set_option maxRecDepth 20000 in
theorem ggX11_share_X2_has : GoodIn wsX11_share wsX2_has := goodIn_sl csX11_share ciX11_share _ [(1, 16, 2), (7, 0, 6)] rfl gw_wsX2_has
set_option maxRecDepth 20000 in
theorem gX11_share_X2_has : GoodIn wsX11_share (wsV RX11 137 RX2 yX2_has wsX2_has) := goodIn_app (goodIn_sl csX11_share ciX11_share _ [(1, 12, 4)] rfl rfl) ggX11_share_X2_has
set_option maxRecDepth 20000 in
theorem ggX12_strength_X12_in : GoodIn wsX12_strength wsX12_in := goodIn_sl csX12_strength ciX12_strength _ [(1, 9, 1)] rfl gw_wsX12_in
set_option maxRecDepth 20000 in
theorem gX12_strength_X12_in : GoodIn wsX12_strength (va_wsS RX12 136 yX12_in wsX12_in) := goodIn_app (goodIn_sl csX12_strength ciX12_strength _ [(1, 7, 2), (1, 4, 1)] rfl rfl) ggX12_strength_X12_in
set_option maxRecDepth 20000 in
theorem ggX12_become_X12_in : GoodIn wsX12_become wsX12_in := goodIn_sl csX12_become ciX12_become _ [(1, 12, 1)] rfl gw_wsX12_in
set_option maxRecDepth 20000 in
theorem gX12_become_X12_in : GoodIn wsX12_become (va_wsS RX12 136 yX12_in wsX12_in) := goodIn_app (goodIn_sl csX12_become ciX12_become _ [(1, 10, 2), (1, 7, 1)] rfl rfl) ggX12_become_X12_in
set_option maxRecDepth 20000 in
theorem ggX12_share_X12_in : GoodIn wsX12_share wsX12_in := goodIn_sl csX12_share ciX12_share _ [(1, 9, 1)] rfl gw_wsX12_in
set_option maxRecDepth 20000 in
theorem gX12_share_X12_in : GoodIn wsX12_share (va_wsS RX12 136 yX12_in wsX12_in) := goodIn_app (goodIn_sl csX12_share ciX12_share _ [(1, 7, 2), (1, 4, 1)] rfl rfl) ggX12_share_X12_in
noncomputable def csX8_freeFrom : List (List Cond) := [[.code yX8_freeFrom cX8_freeFrom 4 (some .int)], [.fieldLink RX8 48 "SeatsRound$Table" "owner" "[B", .static yX11_placeBehind, .initialized RX11, .code yX11_placeBehind cX11_placeBehind 1 (some .int)], wsX80]
set_option maxRecDepth 20000 in
theorem ciX8_freeFrom : ∀ l ∈ csX8_freeFrom, ∀ w ∈ l, w ∈ wsX8_freeFrom := by
  unfold csX8_freeFrom
  refine List.forall_mem_cons.mpr ⟨fun _ h => List.mem_cons.mpr (Or.inl (List.mem_singleton.mp h)), List.forall_mem_cons.mpr ⟨fun _ h => List.mem_cons_of_mem _ (List.mem_append_left _ h), List.forall_mem_cons.mpr ⟨fun _ h => List.mem_cons_of_mem _ (List.mem_append_right _ h), fun l h => absurd h List.not_mem_nil⟩⟩⟩
set_option maxRecDepth 20000 in
theorem ggX8_freeFrom_X11_placeBehind : GoodIn wsX8_freeFrom wsX11_placeBehind := goodIn_sl csX8_freeFrom ciX8_freeFrom _ [(1, 3, 1)] rfl gw_wsX11_placeBehind
set_option maxRecDepth 20000 in
theorem gX8_freeFrom_X11_placeBehind_n96 : GoodIn wsX8_freeFrom (wsX11_placeBehind) := ggX8_freeFrom_X11_placeBehind
end
section
set_option maxRecDepth 20000 in
theorem ggX12_order_X12_tries : GoodIn wsX12_order wsX12_tries := goodIn_sl csX12_order ciX12_order _ [(2, 1, 1), (1, 20, 1), (1, 1, 1), (2, 2, 9), (1, 10, 1), (2, 11, 13), (3, 0, 21), (1, 13, 3), (3, 21, 3), (4, 0, 23), (8, 0, 59)] rfl gw_wsX12_tries
set_option maxRecDepth 20000 in
theorem gX12_order_X12_tries : GoodIn wsX12_order (wsV RX12 319 RX12 yX12_tries wsX12_tries) := goodIn_app (goodIn_sl csX12_order ciX12_order _ [(1, 22, 2), (2, 0, 1), (1, 10, 1)] rfl rfl) ggX12_order_X12_tries
set_option maxRecDepth 20000 in
theorem ggX12_mend_X12_chooseName : GoodIn wsX12_mend wsX12_chooseName := goodIn_sl csX12_mend ciX12_mend _ [(1, 18, 5), (1, 9, 1), (1, 23, 1), (2, 0, 7), (1, 4, 1), (2, 7, 4), (1, 5, 1), (2, 11, 10), (1, 1, 1), (2, 21, 3), (3, 0, 21), (5, 0, 59)] rfl gw_wsX12_chooseName
set_option maxRecDepth 20000 in
theorem gX12_mend_X12_chooseName : GoodIn wsX12_mend (wsV RX12 269 RX12 yX12_chooseName wsX12_chooseName) := goodIn_app (goodIn_sl csX12_mend ciX12_mend _ [(1, 15, 3), (1, 9, 1)] rfl rfl) ggX12_mend_X12_chooseName
set_option maxRecDepth 20000 in
theorem ggX12_harm_X12_shareOf : GoodIn wsX12_harm wsX12_shareOf := goodIn_sl csX12_harm ciX12_harm _ [(4, 18, 2), (1, 18, 1), (4, 20, 4), (1, 8, 1), (5, 0, 9), (1, 1, 1), (3, 4, 1), (5, 9, 4), (1, 3, 1), (1, 21, 1), (4, 10, 5), (2, 0, 4), (5, 13, 4), (4, 8, 1), (6, 0, 59)] rfl gw_wsX12_shareOf
set_option maxRecDepth 20000 in
theorem gX12_harm_X12_shareOf : GoodIn wsX12_harm (wsV RX12 272 RX12 yX12_shareOf wsX12_shareOf) := goodIn_app (goodIn_sl csX12_harm ciX12_harm _ [(4, 15, 3), (1, 8, 1)] rfl rfl) ggX12_harm_X12_shareOf
set_option maxRecDepth 20000 in
theorem ggX11_moves_X1_choose : GoodIn wsX11_moves wsX1_choose := goodIn_sl csX11_moves ciX11_moves _ [(2, 7, 17), (2, 6, 1), (3, 0, 12), (1, 15, 1), (3, 12, 3), (1, 18, 1), (3, 15, 1), (1, 8, 1), (3, 16, 8), (4, 0, 24), (5, 0, 4), (9, 0, 9), (8, 0, 13), (10, 0, 6)] rfl gw_wsX1_choose
set_option maxRecDepth 20000 in
theorem gX11_moves_X1_choose : GoodIn wsX11_moves (wsV RX11 234 RX1 yX1_choose wsX1_choose) := goodIn_app (goodIn_sl csX11_moves ciX11_moves _ [(2, 3, 4)] rfl rfl) ggX11_moves_X1_choose
set_option maxRecDepth 20000 in
theorem ggX12_tellsFrom_X12_keepsFrom : GoodIn wsX12_tellsFrom wsX12_keepsFrom := goodIn_sl csX12_tellsFrom ciX12_tellsFrom _ [(1, 11, 1), (1, 0, 8), (1, 12, 8), (1, 8, 3), (1, 20, 4), (3, 0, 59)] rfl gw_wsX12_keepsFrom
set_option maxRecDepth 20000 in
theorem gX12_tellsFrom_X12_keepsFrom : GoodIn wsX12_tellsFrom (wsV RX12 346 RX12 yX12_keepsFrom wsX12_keepsFrom) := goodIn_app (goodIn_sl csX12_tellsFrom ciX12_tellsFrom _ [(1, 8, 3), (1, 4, 1)] rfl rfl) ggX12_tellsFrom_X12_keepsFrom
set_option maxRecDepth 20000 in
theorem ggX12_keepsFrom_X12_movesFrom : GoodIn wsX12_keepsFrom wsX12_movesFrom := goodIn_sl csX12_keepsFrom ciX12_keepsFrom _ [(1, 22, 1), (1, 0, 8), (1, 19, 3), (1, 8, 8), (2, 0, 59)] rfl gw_wsX12_movesFrom
set_option maxRecDepth 20000 in
theorem gX12_keepsFrom_X12_movesFrom : GoodIn wsX12_keepsFrom (wsV RX12 349 RX12 yX12_movesFrom wsX12_movesFrom) := goodIn_app (goodIn_sl csX12_keepsFrom ciX12_keepsFrom _ [(1, 19, 3), (1, 4, 1)] rfl rfl) ggX12_keepsFrom_X12_movesFrom
set_option maxRecDepth 20000 in
theorem ggX12_picked_X12_pick : GoodIn wsX12_picked wsX12_pick := goodIn_sl csX12_picked ciX12_picked _ [(1, 14, 1), (1, 0, 1), (1, 15, 2), (1, 1, 1), (1, 17, 3), (1, 5, 1), (1, 20, 4), (2, 0, 14), (3, 0, 59)] rfl gw_wsX12_pick
set_option maxRecDepth 20000 in
theorem gX12_picked_X12_pick : GoodIn wsX12_picked (wsV RX12 253 RX12 yX12_pick wsX12_pick) := goodIn_app (goodIn_sl csX12_picked ciX12_picked _ [(1, 11, 3), (1, 5, 1)] rfl rfl) ggX12_picked_X12_pick
noncomputable def csX12_findsFrom : List (List Cond) := [[.code yX12_findsFrom cX12_findsFrom 4 (some .int)], [.fieldLink RX12 19 "SeatsRoundModel" "strength" "[I", .methodLink RX12 337 yX12_begins, .instanceMethod yX12_begins, .selects RX12 yX12_begins yX12_begins, .initialized RX12, .code yX12_begins cX12_begins 2 none, .fieldLink RX12 334 "SeatsRoundModel" "bodies" "I", .fieldLink RX12 99 "SeatsRoundModel" "trace" "[I", .methodLink RX12 340 yX12_findsFrom, .instanceMethod yX12_findsFrom, .selects RX12 yX12_findsFrom yX12_findsFrom, .methodLink RX12 343 yX12_aboveOf, .static yX12_aboveOf, .code yX12_aboveOf cX12_aboveOf 1 (some .int)], wsX120]
set_option maxRecDepth 20000 in
theorem ciX12_findsFrom : ∀ l ∈ csX12_findsFrom, ∀ w ∈ l, w ∈ wsX12_findsFrom := by
  unfold csX12_findsFrom
  refine List.forall_mem_cons.mpr ⟨fun _ h => List.mem_cons.mpr (Or.inl (List.mem_singleton.mp h)), List.forall_mem_cons.mpr ⟨fun _ h => List.mem_cons_of_mem _ (List.mem_append_left _ h), List.forall_mem_cons.mpr ⟨fun _ h => List.mem_cons_of_mem _ (List.mem_append_right _ h), fun l h => absurd h List.not_mem_nil⟩⟩⟩
set_option maxRecDepth 20000 in
theorem ggX12_findsFrom_X12_findsFrom : GoodIn wsX12_findsFrom wsX12_findsFrom := goodIn_sl csX12_findsFrom ciX12_findsFrom _ [(0, 0, 1), (1, 0, 14), (2, 0, 59)] rfl gw_wsX12_findsFrom
set_option maxRecDepth 20000 in
theorem gX12_findsFrom_X12_findsFrom : GoodIn wsX12_findsFrom (wsV RX12 340 RX12 yX12_findsFrom wsX12_findsFrom) := goodIn_app (goodIn_sl csX12_findsFrom ciX12_findsFrom _ [(1, 8, 3), (1, 4, 1)] rfl rfl) ggX12_findsFrom_X12_findsFrom
set_option maxRecDepth 20000 in
theorem ggX12_write_X12_isAwake : GoodIn wsX12_write wsX12_isAwake := goodIn_sl csX12_write ciX12_write _ [(2, 1, 1), (1, 6, 1), (1, 5, 1), (6, 0, 59)] rfl gw_wsX12_isAwake
set_option maxRecDepth 20000 in
theorem gX12_write_X12_isAwake : GoodIn wsX12_write (wsV RX12 287 RX12 yX12_isAwake wsX12_isAwake) := goodIn_app (goodIn_sl csX12_write ciX12_write _ [(1, 22, 2), (2, 0, 1), (1, 11, 1)] rfl rfl) ggX12_write_X12_isAwake
set_option maxRecDepth 20000 in
theorem ggX12_tooFew_X12_streetsOf : GoodIn wsX12_tooFew wsX12_streetsOf := goodIn_sl csX12_tooFew ciX12_tooFew _ [(3, 13, 1), (2, 3, 1), (3, 14, 1), (2, 7, 1), (4, 0, 59)] rfl gw_wsX12_streetsOf
set_option maxRecDepth 20000 in
theorem gX12_tooFew_X12_streetsOf : GoodIn wsX12_tooFew (wsV RX12 257 RX12 yX12_streetsOf wsX12_streetsOf) := goodIn_app (goodIn_sl csX12_tooFew ciX12_tooFew _ [(3, 10, 3), (1, 5, 1)] rfl rfl) ggX12_tooFew_X12_streetsOf
set_option maxRecDepth 20000 in
theorem ggX12_mend_X12_isAwake : GoodIn wsX12_mend wsX12_isAwake := goodIn_sl csX12_mend ciX12_mend _ [(4, 0, 2), (1, 2, 1), (5, 0, 59)] rfl gw_wsX12_isAwake
set_option maxRecDepth 20000 in
theorem gX12_mend_X12_isAwake : GoodIn wsX12_mend (wsV RX12 287 RX12 yX12_isAwake wsX12_isAwake) := goodIn_app (goodIn_sl csX12_mend ciX12_mend _ [(3, 21, 3), (1, 9, 1)] rfl rfl) ggX12_mend_X12_isAwake
set_option maxRecDepth 20000 in
theorem ggX12_names_X12_comesName : GoodIn wsX12_names wsX12_comesName := goodIn_sl csX12_names ciX12_names _ [(1, 22, 1), (1, 17, 1), (1, 5, 1), (1, 18, 1), (1, 4, 1), (2, 0, 59)] rfl gw_wsX12_comesName
set_option maxRecDepth 20000 in
theorem gX12_names_X12_comesName : GoodIn wsX12_names (wsV RX12 153 RX12 yX12_comesName wsX12_comesName) := goodIn_app (goodIn_sl csX12_names ciX12_names _ [(1, 19, 3), (1, 8, 1)] rfl rfl) ggX12_names_X12_comesName
set_option maxRecDepth 20000 in
theorem ggX12_findsFrom_X12_begins : GoodIn wsX12_findsFrom wsX12_begins := goodIn_sl csX12_findsFrom ciX12_findsFrom _ [(1, 5, 3), (2, 0, 59)] rfl gw_wsX12_begins
set_option maxRecDepth 20000 in
theorem gX12_findsFrom_X12_begins : GoodIn wsX12_findsFrom (wsV RX12 337 RX12 yX12_begins wsX12_begins) := goodIn_app (goodIn_sl csX12_findsFrom ciX12_findsFrom _ [(1, 1, 4)] rfl rfl) ggX12_findsFrom_X12_begins
set_option maxRecDepth 20000 in
theorem ggX1_choose_X1_pick : GoodIn wsX1_choose wsX1_pick := goodIn_sl csX1_choose ciX1_choose _ [(1, 17, 1), (1, 3, 1), (1, 18, 5), (1, 16, 1), (1, 23, 1), (2, 0, 2), (1, 12, 1), (2, 2, 22), (3, 0, 15), (4, 0, 9), (5, 0, 13)] rfl gw_wsX1_pick
set_option maxRecDepth 20000 in
theorem gX1_choose_X1_pick : GoodIn wsX1_choose (wsV RX1 89 RX1 yX1_pick wsX1_pick) := goodIn_app (goodIn_sl csX1_choose ciX1_choose _ [(1, 13, 4)] rfl rfl) ggX1_choose_X1_pick
set_option maxRecDepth 20000 in
theorem ggX12_pickBest_X12_isIn : GoodIn wsX12_pickBest wsX12_isIn := goodIn_sl csX12_pickBest ciX12_pickBest _ [(1, 14, 2), (2, 0, 59)] rfl gw_wsX12_isIn
set_option maxRecDepth 20000 in
theorem gX12_pickBest_X12_isIn : GoodIn wsX12_pickBest (wsV RX12 223 RX12 yX12_isIn wsX12_isIn) := goodIn_app (goodIn_sl csX12_pickBest ciX12_pickBest _ [(1, 11, 3), (1, 7, 1)] rfl rfl) ggX12_pickBest_X12_isIn
set_option maxRecDepth 20000 in
theorem ggX12_one_X12_here : GoodIn wsX12_one wsX12_here := goodIn_sl csX12_one ciX12_one _ [(1, 11, 1), (1, 1, 1), (1, 12, 3), (3, 0, 59)] rfl gw_wsX12_here
set_option maxRecDepth 20000 in
theorem gX12_one_X12_here : GoodIn wsX12_one (wsV RX12 187 RX12 yX12_here wsX12_here) := goodIn_app (goodIn_sl csX12_one ciX12_one _ [(1, 7, 4)] rfl rfl) ggX12_one_X12_here
set_option maxRecDepth 20000 in
theorem ggX5_seatSet_X8_seatAll : GoodIn wsX5_seatSet wsX8_seatAll := goodIn_sl csX5_seatSet ciX5_seatSet _ [(6, 1, 5), (1, 18, 1), (6, 6, 12), (1, 15, 1), (6, 18, 6), (7, 0, 2), (12, 0, 13)] rfl gw_wsX8_seatAll
set_option maxRecDepth 20000 in
theorem gX5_seatSet_X8_seatAll : GoodIn wsX5_seatSet (wsV RX5 87 RX8 yX8_seatAll wsX8_seatAll) := goodIn_app (goodIn_sl csX5_seatSet ciX5_seatSet _ [(5, 22, 2), (6, 0, 1), (1, 15, 1)] rfl rfl) ggX5_seatSet_X8_seatAll
noncomputable def csX3_readBracket : List (List Cond) := [[.code yX3_readBracket cX3_readBracket 3 (some .int)], wsX3_readBracket_r1, wsX3_readBracket_r2, wsX30]
set_option maxRecDepth 20000 in
theorem ciX3_readBracket : ∀ l ∈ csX3_readBracket, ∀ w ∈ l, w ∈ wsX3_readBracket := by
  unfold csX3_readBracket
  refine List.forall_mem_cons.mpr ⟨fun _ h => List.mem_cons.mpr (Or.inl (List.mem_singleton.mp h)), List.forall_mem_cons.mpr ⟨fun _ h => List.mem_cons_of_mem _ (List.mem_append_left _ (List.mem_append_left _ h)), List.forall_mem_cons.mpr ⟨fun _ h => List.mem_cons_of_mem _ (List.mem_append_left _ (List.mem_append_right _ h)), List.forall_mem_cons.mpr ⟨fun _ h => List.mem_cons_of_mem _ (List.mem_append_right _ h), fun l h => absurd h List.not_mem_nil⟩⟩⟩⟩
set_option maxRecDepth 20000 in
theorem ggX3_readBracket_X3_readSum : GoodIn wsX3_readBracket wsX3_readSum := goodIn_sl csX3_readBracket ciX3_readBracket _ [(2, 7, 1), (1, 1, 1), (1, 0, 1), (2, 8, 3), (1, 5, 7), (0, 0, 1), (1, 2, 3), (1, 12, 12), (2, 0, 7), (3, 0, 8)] rfl gw_wsX3_readSum
set_option maxRecDepth 20000 in
theorem gX3_readBracket_X3_readSum : GoodIn wsX3_readBracket (wsV RX3 88 RX3 yX3_readSum wsX3_readSum) := goodIn_app (goodIn_sl csX3_readBracket ciX3_readBracket _ [(1, 2, 4)] rfl rfl) ggX3_readBracket_X3_readSum
set_option maxRecDepth 20000 in
theorem ggX5_leastFrom_X5_walk : GoodIn wsX5_leastFrom wsX5_walk := goodIn_sl csX5_leastFrom ciX5_leastFrom _ [(10, 19, 2), (1, 0, 1), (10, 21, 3), (11, 0, 1), (1, 5, 1), (11, 1, 1), (1, 1, 1), (10, 11, 4), (1, 13, 2), (1, 16, 1), (10, 15, 1), (4, 7, 6), (12, 0, 10), (14, 0, 4)] rfl gw_wsX5_walk
set_option maxRecDepth 20000 in
theorem gX5_leastFrom_X5_walk : GoodIn wsX5_leastFrom (wsV RX5 57 RX5 yX5_walk wsX5_walk) := goodIn_app (goodIn_sl csX5_leastFrom ciX5_leastFrom _ [(10, 16, 3), (1, 5, 1)] rfl rfl) ggX5_leastFrom_X5_walk
set_option maxRecDepth 20000 in
theorem ggX6_reaches_X6_receives : GoodIn wsX6_reaches wsX6_receives := goodIn_sl csX6_reaches ciX6_reaches _ [(2, 6, 4), (1, 7, 1), (2, 10, 1), (1, 0, 1), (1, 2, 1), (2, 11, 12), (3, 0, 12), (4, 0, 6)] rfl gw_wsX6_receives
set_option maxRecDepth 20000 in
theorem gX6_reaches_X6_receives : GoodIn wsX6_reaches (wsV RX6 93 RX6 yX6_receives wsX6_receives) := goodIn_app (goodIn_sl csX6_reaches ciX6_reaches _ [(2, 3, 3), (1, 7, 1)] rfl rfl) ggX6_reaches_X6_receives
set_option maxRecDepth 20000 in
theorem ggX3_readOperand_X3_readNumber : GoodIn wsX3_readOperand wsX3_readNumber := goodIn_sl csX3_readOperand ciX3_readOperand _ [(1, 19, 1), (1, 4, 1), (1, 6, 10), (3, 0, 8)] rfl gw_wsX3_readNumber
set_option maxRecDepth 20000 in
theorem gX3_readOperand_X3_readNumber : GoodIn wsX3_readOperand (wsV RX3 110 RX3 yX3_readNumber wsX3_readNumber) := goodIn_app (goodIn_sl csX3_readOperand ciX3_readOperand _ [(1, 16, 3), (1, 9, 1)] rfl rfl) ggX3_readOperand_X3_readNumber
set_option maxRecDepth 20000 in
theorem ggX1_choose_X1_takeChosen : GoodIn wsX1_choose wsX1_takeChosen := goodIn_sl csX1_choose ciX1_choose _ [(3, 18, 2), (1, 0, 3), (1, 10, 2), (4, 0, 9), (6, 0, 6)] rfl gw_wsX1_takeChosen
set_option maxRecDepth 20000 in
theorem gX1_choose_X1_takeChosen : GoodIn wsX1_choose (wsV RX1 108 RX1 yX1_takeChosen wsX1_takeChosen) := goodIn_app (goodIn_sl csX1_choose ciX1_choose _ [(3, 15, 3), (1, 16, 1)] rfl rfl) ggX1_choose_X1_takeChosen
set_option maxRecDepth 20000 in
theorem ggX0_keepsFrom_X0_findsFrom : GoodIn wsX0_keepsFrom wsX0_findsFrom := goodIn_sl csX0_keepsFrom ciX0_keepsFrom _ [(1, 19, 2), (1, 15, 1), (1, 1, 7), (1, 16, 3), (2, 0, 5)] rfl gw_wsX0_findsFrom
set_option maxRecDepth 20000 in
theorem gX0_keepsFrom_X0_findsFrom : GoodIn wsX0_keepsFrom (wsV RX0 28 RX0 yX0_findsFrom wsX0_findsFrom) := goodIn_app (goodIn_sl csX0_keepsFrom ciX0_keepsFrom _ [(1, 16, 3), (1, 4, 1)] rfl rfl) ggX0_keepsFrom_X0_findsFrom
noncomputable def csX6_allCopies : List (List Cond) := [[.code yX6_allCopies cX6_allCopies 3 (some .int)], [.fieldLink RX6 42 "SeatsRound$Parcels" "keepers" "LSeatsRound$Keepers;", .fieldLink RX6 120 "SeatsRound$Keepers" "count" "I", .methodLink RX6 103 yX6_copiesOn, .instanceMethod yX6_copiesOn, .selects RX6 yX6_copiesOn yX6_copiesOn, .initialized RX6, .code yX6_copiesOn cX6_copiesOn 2 (some .int), .fieldLink RX6 11 "SeatsRound$Parcels" "version" "[[I", .methodLink RX6 141 yX6_filled, .static yX6_filled, .code yX6_filled cX6_filled 6 (some .int)], wsX60, wsX20]
set_option maxRecDepth 20000 in
theorem ciX6_allCopies : ∀ l ∈ csX6_allCopies, ∀ w ∈ l, w ∈ wsX6_allCopies := by
  unfold csX6_allCopies
  refine List.forall_mem_cons.mpr ⟨fun _ h => List.mem_cons.mpr (Or.inl (List.mem_singleton.mp h)), List.forall_mem_cons.mpr ⟨fun _ h => List.mem_cons_of_mem _ (List.mem_append_left _ (List.mem_append_left _ h)), List.forall_mem_cons.mpr ⟨fun _ h => List.mem_cons_of_mem _ (List.mem_append_left _ (List.mem_append_right _ h)), List.forall_mem_cons.mpr ⟨fun _ h => List.mem_cons_of_mem _ (List.mem_append_right _ h), fun l h => absurd h List.not_mem_nil⟩⟩⟩⟩
set_option maxRecDepth 20000 in
theorem ggX6_allCopies_X6_copiesOn : GoodIn wsX6_allCopies wsX6_copiesOn := goodIn_sl csX6_allCopies ciX6_allCopies _ [(1, 6, 4), (1, 5, 1), (1, 10, 1), (2, 0, 12)] rfl gw_wsX6_copiesOn
set_option maxRecDepth 20000 in
theorem gX6_allCopies_X6_copiesOn : GoodIn wsX6_allCopies (wsV RX6 103 RX6 yX6_copiesOn wsX6_copiesOn) := goodIn_app (goodIn_sl csX6_allCopies ciX6_allCopies _ [(1, 2, 4)] rfl rfl) ggX6_allCopies_X6_copiesOn
set_option maxRecDepth 20000 in
theorem ggX0_run_X0_movesFrom : GoodIn wsX0_run wsX0_movesFrom := goodIn_sl csX0_run ciX0_run _ [(1, 21, 1), (1, 2, 1), (1, 0, 1), (1, 8, 3), (1, 6, 1), (1, 11, 3), (1, 18, 3), (1, 3, 3), (1, 7, 1), (1, 1, 1), (3, 0, 5)] rfl gw_wsX0_movesFrom
set_option maxRecDepth 20000 in
theorem gX0_run_X0_movesFrom : GoodIn wsX0_run (wsV RX0 35 RX0 yX0_movesFrom wsX0_movesFrom) := goodIn_app (goodIn_sl csX0_run ciX0_run _ [(1, 18, 3), (1, 6, 1)] rfl rfl) ggX0_run_X0_movesFrom
set_option maxRecDepth 20000 in
theorem ggX1_pickRound_X1_takePick : GoodIn wsX1_pickRound wsX1_takePick := goodIn_sl csX1_pickRound ciX1_pickRound _ [(1, 13, 3), (1, 1, 1), (3, 0, 9)] rfl gw_wsX1_takePick
set_option maxRecDepth 20000 in
theorem gX1_pickRound_X1_takePick : GoodIn wsX1_pickRound (wsV RX1 74 RX1 yX1_takePick wsX1_takePick) := goodIn_app (goodIn_sl csX1_pickRound ciX1_pickRound _ [(1, 10, 3), (1, 8, 1)] rfl rfl) ggX1_pickRound_X1_takePick
set_option maxRecDepth 20000 in
theorem ggX0_run_X0_findsFrom : GoodIn wsX0_run wsX0_findsFrom := goodIn_sl csX0_run ciX0_run _ [(1, 7, 1), (1, 1, 1), (1, 0, 1), (1, 8, 3), (1, 6, 1), (1, 11, 3), (1, 3, 3), (3, 0, 5)] rfl gw_wsX0_findsFrom
set_option maxRecDepth 20000 in
theorem gX0_run_X0_findsFrom : GoodIn wsX0_run (wsV RX0 28 RX0 yX0_findsFrom wsX0_findsFrom) := goodIn_app (goodIn_sl csX0_run ciX0_run _ [(1, 3, 4)] rfl rfl) ggX0_run_X0_findsFrom
set_option maxRecDepth 20000 in
theorem ggX3_readBracket_X3_sign : GoodIn wsX3_readBracket wsX3_sign := goodIn_sl csX3_readBracket ciX3_readBracket _ [(1, 9, 1), (1, 0, 1), (1, 10, 2), (3, 0, 8)] rfl gw_wsX3_sign
set_option maxRecDepth 20000 in
theorem gX3_readBracket_X3_sign : GoodIn wsX3_readBracket (wsV RX3 62 RX3 yX3_sign wsX3_sign) := goodIn_app (goodIn_sl csX3_readBracket ciX3_readBracket _ [(1, 6, 3), (1, 5, 1)] rfl rfl) ggX3_readBracket_X3_sign
noncomputable def csX3_readNumber : List (List Cond) := [[.code yX3_readNumber cX3_readNumber 3 (some .int)], [.fieldLink RX3 19 "SeatsRound$Law" "at" "I", .methodLink RX3 62 yX3_sign, .instanceMethod yX3_sign, .selects RX3 yX3_sign yX3_sign, .initialized RX3, .code yX3_sign cX3_sign 1 (some .int), .fieldLink RX3 15 "SeatsRound$Law" "length" "I", .fieldLink RX3 9 "SeatsRound$Law" "text" "[B", .methodLink RX3 106 yX3_isDigit, .static yX3_isDigit, .code yX3_isDigit cX3_isDigit 1 (some .boolean)], wsX30]
set_option maxRecDepth 20000 in
theorem ciX3_readNumber : ∀ l ∈ csX3_readNumber, ∀ w ∈ l, w ∈ wsX3_readNumber := by
  unfold csX3_readNumber
  refine List.forall_mem_cons.mpr ⟨fun _ h => List.mem_cons.mpr (Or.inl (List.mem_singleton.mp h)), List.forall_mem_cons.mpr ⟨fun _ h => List.mem_cons_of_mem _ (List.mem_append_left _ h), List.forall_mem_cons.mpr ⟨fun _ h => List.mem_cons_of_mem _ (List.mem_append_right _ h), fun l h => absurd h List.not_mem_nil⟩⟩⟩
set_option maxRecDepth 20000 in
theorem ggX3_readNumber_X3_sign : GoodIn wsX3_readNumber wsX3_sign := goodIn_sl csX3_readNumber ciX3_readNumber _ [(1, 5, 1), (1, 0, 1), (1, 6, 2), (2, 0, 8)] rfl gw_wsX3_sign
set_option maxRecDepth 20000 in
theorem gX3_readNumber_X3_sign : GoodIn wsX3_readNumber (wsV RX3 62 RX3 yX3_sign wsX3_sign) := goodIn_app (goodIn_sl csX3_readNumber ciX3_readNumber _ [(1, 1, 4)] rfl rfl) ggX3_readNumber_X3_sign
set_option maxRecDepth 20000 in
theorem ggX8_countOdds_J7_fill_53178 : GoodIn wsX8_countOdds wsJ7_fill_53178 := goodIn_sl csX8_countOdds ciX8_countOdds _ [(1, 5, 1)] rfl gw_wsJ7_fill_53178
set_option maxRecDepth 20000 in
theorem gX8_countOdds_J7_fill_53178 : GoodIn wsX8_countOdds (va_wsS RX8 102 yJ7_fill_53178 wsJ7_fill_53178) := goodIn_app (goodIn_sl csX8_countOdds ciX8_countOdds _ [(1, 2, 3)] rfl rfl) ggX8_countOdds_J7_fill_53178
set_option maxRecDepth 20000 in
theorem ggX0_keepsFrom_X0_begin : GoodIn wsX0_keepsFrom wsX0_begin := goodIn_sl csX0_keepsFrom ciX0_keepsFrom _ [(1, 5, 3), (2, 0, 5)] rfl gw_wsX0_begin
set_option maxRecDepth 20000 in
theorem gX0_keepsFrom_X0_begin : GoodIn wsX0_keepsFrom (wsV RX0 41 RX0 yX0_begin wsX0_begin) := goodIn_app (goodIn_sl csX0_keepsFrom ciX0_keepsFrom _ [(1, 1, 4)] rfl rfl) ggX0_keepsFrom_X0_begin
set_option maxRecDepth 20000 in
theorem ggX12_movesFrom_X12_aboveOf : GoodIn wsX12_movesFrom wsX12_aboveOf := goodIn_sl csX12_movesFrom ciX12_movesFrom _ [(1, 18, 1)] rfl gw_wsX12_aboveOf
set_option maxRecDepth 20000 in
theorem gX12_movesFrom_X12_aboveOf : GoodIn wsX12_movesFrom (va_wsS RX12 343 yX12_aboveOf wsX12_aboveOf) := goodIn_app (goodIn_sl csX12_movesFrom ciX12_movesFrom _ [(1, 16, 2), (1, 4, 1)] rfl rfl) ggX12_movesFrom_X12_aboveOf
set_option maxRecDepth 20000 in
theorem ggX3_readNumber_X3_isDigit : GoodIn wsX3_readNumber wsX3_isDigit := goodIn_sl csX3_readNumber ciX3_readNumber _ [(1, 10, 1)] rfl gw_wsX3_isDigit
set_option maxRecDepth 20000 in
theorem gX3_readNumber_X3_isDigit : GoodIn wsX3_readNumber (va_wsS RX3 106 yX3_isDigit wsX3_isDigit) := goodIn_app (goodIn_sl csX3_readNumber ciX3_readNumber _ [(1, 8, 2), (1, 4, 1)] rfl rfl) ggX3_readNumber_X3_isDigit
set_option maxRecDepth 20000 in
theorem ggX11_names_X7_isRow : GoodIn wsX11_names wsX7_isRow := goodIn_sl csX11_names ciX11_names _ [(1, 19, 1), (1, 14, 1), (4, 0, 4)] rfl gw_wsX7_isRow
set_option maxRecDepth 20000 in
theorem gX11_names_X7_isRow : GoodIn wsX11_names (wsV RX11 385 RX7 yX7_isRow wsX7_isRow) := goodIn_app (goodIn_sl csX11_names ciX11_names _ [(1, 16, 3), (1, 12, 1)] rfl rfl) ggX11_names_X7_isRow
set_option maxRecDepth 20000 in
theorem ggX12_movesBy_X12_ones : GoodIn wsX12_movesBy wsX12_ones := goodIn_sl csX12_movesBy ciX12_movesBy _ [(1, 13, 1)] rfl gw_wsX12_ones
set_option maxRecDepth 20000 in
theorem gX12_movesBy_X12_ones : GoodIn wsX12_movesBy (va_wsS RX12 284 yX12_ones wsX12_ones) := goodIn_app (goodIn_sl csX12_movesBy ciX12_movesBy _ [(1, 11, 2), (1, 7, 1)] rfl rfl) ggX12_movesBy_X12_ones
set_option maxRecDepth 20000 in
theorem ggX11_read_X4_has : GoodIn wsX11_read wsX4_has := goodIn_sl csX11_read ciX11_read _ [(1, 14, 2), (9, 0, 4)] rfl gw_wsX4_has
set_option maxRecDepth 20000 in
theorem gX11_read_X4_has : GoodIn wsX11_read (wsV RX11 123 RX4 yX4_has wsX4_has) := goodIn_app (goodIn_sl csX11_read ciX11_read _ [(1, 10, 4)] rfl rfl) ggX11_read_X4_has
set_option maxRecDepth 20000 in
theorem ggX11_put_X7_lowest : GoodIn wsX11_put wsX7_lowest := goodIn_sl csX11_put ciX11_put _ [(2, 1, 1)] rfl gw_wsX7_lowest
set_option maxRecDepth 20000 in
theorem gX11_put_X7_lowest : GoodIn wsX11_put (va_wsS RX11 374 yX7_lowest wsX7_lowest) := goodIn_app (goodIn_sl csX11_put ciX11_put _ [(1, 23, 1), (2, 0, 1), (1, 10, 1)] rfl rfl) ggX11_put_X7_lowest
set_option maxRecDepth 20000 in
theorem ggX1_pickRound_X11_placeBehind : GoodIn wsX1_pickRound wsX11_placeBehind := goodIn_sl csX1_pickRound ciX1_pickRound _ [(1, 18, 1)] rfl gw_wsX11_placeBehind
set_option maxRecDepth 20000 in
theorem gX1_pickRound_X11_placeBehind_n78 : GoodIn wsX1_pickRound (wsX11_placeBehind) := ggX1_pickRound_X11_placeBehind
set_option maxRecDepth 20000 in
theorem ggX12_lies_X12_in : GoodIn wsX12_lies wsX12_in := goodIn_sl csX12_lies ciX12_lies _ [(1, 9, 1)] rfl gw_wsX12_in
set_option maxRecDepth 20000 in
theorem gX12_lies_X12_in : GoodIn wsX12_lies (va_wsS RX12 136 yX12_in wsX12_in) := goodIn_app (goodIn_sl csX12_lies ciX12_lies _ [(1, 7, 2), (1, 4, 1)] rfl rfl) ggX12_lies_X12_in
end
section
set_option maxRecDepth 20000 in
theorem ggX12_harm_X12_tries : GoodIn wsX12_harm wsX12_tries := goodIn_sl csX12_harm ciX12_harm _ [(1, 17, 1), (1, 1, 1), (1, 18, 3), (1, 3, 1), (1, 21, 3), (2, 0, 3), (1, 8, 1), (2, 3, 21), (3, 0, 13), (1, 11, 3), (3, 13, 11), (4, 0, 15), (6, 0, 59)] rfl gw_wsX12_tries
set_option maxRecDepth 20000 in
theorem gX12_harm_X12_tries : GoodIn wsX12_harm (wsV RX12 319 RX12 yX12_tries wsX12_tries) := goodIn_app (goodIn_sl csX12_harm ciX12_harm _ [(1, 14, 3), (1, 8, 1)] rfl rfl) ggX12_harm_X12_tries
set_option maxRecDepth 20000 in
theorem ggX12_keeperOf_X12_chooseName : GoodIn wsX12_keeperOf wsX12_chooseName := goodIn_sl csX12_keeperOf ciX12_keeperOf _ [(1, 19, 5), (1, 5, 1), (2, 0, 8), (1, 0, 1), (2, 8, 4), (1, 1, 1), (2, 12, 12), (3, 0, 23), (4, 0, 59)] rfl gw_wsX12_chooseName
set_option maxRecDepth 20000 in
theorem gX12_keeperOf_X12_chooseName : GoodIn wsX12_keeperOf (wsV RX12 269 RX12 yX12_chooseName wsX12_chooseName) := goodIn_app (goodIn_sl csX12_keeperOf ciX12_keeperOf _ [(1, 16, 3), (1, 5, 1)] rfl rfl) ggX12_keeperOf_X12_chooseName
set_option maxRecDepth 20000 in
theorem ggX5_seatSet_X3_workOut : GoodIn wsX5_seatSet wsX3_workOut := goodIn_sl csX5_seatSet ciX5_seatSet _ [(3, 2, 13), (3, 1, 1), (3, 15, 8), (2, 13, 1), (2, 10, 1), (2, 14, 1), (3, 23, 1), (4, 0, 24), (5, 0, 18), (2, 9, 1), (2, 11, 1), (5, 18, 4), (12, 0, 13), (16, 0, 8), (15, 0, 6)] rfl gw_wsX3_workOut
set_option maxRecDepth 20000 in
theorem gX5_seatSet_X3_workOut : GoodIn wsX5_seatSet (wsV RX5 78 RX3 yX3_workOut wsX3_workOut) := goodIn_app (goodIn_sl csX5_seatSet ciX5_seatSet _ [(2, 22, 2), (3, 0, 2)] rfl rfl) ggX5_seatSet_X3_workOut
set_option maxRecDepth 20000 in
theorem ggX12_tries_X12_reads : GoodIn wsX12_tries wsX12_reads := goodIn_sl csX12_tries ciX12_tries _ [(2, 6, 8), (1, 2, 1), (2, 14, 3), (1, 11, 1), (2, 17, 1), (1, 3, 1), (2, 18, 6), (3, 0, 9), (1, 23, 1), (2, 0, 3), (3, 9, 7), (5, 0, 59)] rfl gw_wsX12_reads
set_option maxRecDepth 20000 in
theorem gX12_tries_X12_reads : GoodIn wsX12_tries (wsV RX12 234 RX12 yX12_reads wsX12_reads) := goodIn_app (goodIn_sl csX12_tries ciX12_tries _ [(2, 3, 3), (1, 11, 1)] rfl rfl) ggX12_tries_X12_reads
set_option maxRecDepth 20000 in
theorem ggX12_even_X12_findOdds : GoodIn wsX12_even wsX12_findOdds := goodIn_sl csX12_even ciX12_even _ [(1, 6, 1), (1, 1, 1), (1, 7, 4), (1, 5, 1), (1, 11, 8), (1, 0, 1), (1, 19, 5), (2, 0, 11), (3, 0, 59)] rfl gw_wsX12_findOdds
set_option maxRecDepth 20000 in
theorem gX12_even_X12_findOdds : GoodIn wsX12_even (wsV RX12 275 RX12 yX12_findOdds wsX12_findOdds) := goodIn_app (goodIn_sl csX12_even ciX12_even _ [(1, 2, 4)] rfl rfl) ggX12_even_X12_findOdds
set_option maxRecDepth 20000 in
theorem ggX12_tellsFrom_X12_movesFrom : GoodIn wsX12_tellsFrom wsX12_movesFrom := goodIn_sl csX12_tellsFrom ciX12_tellsFrom _ [(1, 23, 1), (1, 0, 8), (1, 20, 3), (1, 12, 8), (3, 0, 59)] rfl gw_wsX12_movesFrom
set_option maxRecDepth 20000 in
theorem gX12_tellsFrom_X12_movesFrom : GoodIn wsX12_tellsFrom (wsV RX12 349 RX12 yX12_movesFrom wsX12_movesFrom) := goodIn_app (goodIn_sl csX12_tellsFrom ciX12_tellsFrom _ [(1, 20, 3), (1, 4, 1)] rfl rfl) ggX12_tellsFrom_X12_movesFrom
set_option maxRecDepth 20000 in
theorem ggX12_one_X12_sum : GoodIn wsX12_one wsX12_sum := goodIn_sl csX12_one ciX12_one _ [(2, 5, 1), (1, 0, 2), (2, 6, 3), (1, 10, 1), (1, 7, 3), (1, 11, 4), (0, 0, 1), (1, 2, 5), (1, 15, 9), (2, 0, 5), (3, 0, 59)] rfl gw_wsX12_sum
set_option maxRecDepth 20000 in
theorem gX12_one_X12_sum : GoodIn wsX12_one (wsV RX12 200 RX12 yX12_sum wsX12_sum) := goodIn_app (goodIn_sl csX12_one ciX12_one _ [(1, 18, 3), (1, 10, 1)] rfl rfl) ggX12_one_X12_sum
set_option maxRecDepth 20000 in
theorem ggX12_table_X12_sits : GoodIn wsX12_table wsX12_sits := goodIn_sl csX12_table ciX12_table _ [(3, 22, 2), (4, 0, 1), (1, 0, 1), (1, 4, 1), (1, 3, 1), (2, 2, 3), (1, 14, 1), (2, 5, 1), (1, 2, 1), (4, 1, 5), (5, 0, 59)] rfl gw_wsX12_sits
set_option maxRecDepth 20000 in
theorem gX12_table_X12_sits : GoodIn wsX12_table (wsV RX12 237 RX12 yX12_sits wsX12_sits) := goodIn_app (goodIn_sl csX12_table ciX12_table _ [(3, 19, 3), (1, 14, 1)] rfl rfl) ggX12_table_X12_sits
set_option maxRecDepth 20000 in
theorem ggX12_write_X12_isName : GoodIn wsX12_write wsX12_isName := goodIn_sl csX12_write ciX12_write _ [(1, 20, 2), (1, 14, 2), (1, 11, 1), (1, 16, 1), (6, 0, 59)] rfl gw_wsX12_isName
set_option maxRecDepth 20000 in
theorem gX12_write_X12_isName : GoodIn wsX12_write (wsV RX12 158 RX12 yX12_isName wsX12_isName) := goodIn_app (goodIn_sl csX12_write ciX12_write _ [(1, 17, 3), (1, 11, 1)] rfl rfl) ggX12_write_X12_isName
set_option maxRecDepth 20000 in
theorem ggX3_workOut_X3_readPart : GoodIn wsX3_workOut wsX3_readPart := goodIn_sl csX3_workOut ciX3_workOut _ [(2, 11, 1), (1, 4, 5), (2, 12, 3), (1, 12, 1), (2, 15, 1), (1, 3, 1), (1, 1, 1), (2, 16, 8), (3, 0, 1), (1, 15, 1), (2, 0, 1), (1, 16, 2), (3, 1, 19), (1, 22, 1), (3, 20, 1), (1, 20, 2), (1, 23, 1), (3, 21, 3), (4, 0, 1), (6, 0, 8), (5, 0, 13)] rfl gw_wsX3_readPart
set_option maxRecDepth 20000 in
theorem gX3_workOut_X3_readPart : GoodIn wsX3_workOut (wsV RX3 58 RX3 yX3_readPart wsX3_readPart) := goodIn_app (goodIn_sl csX3_workOut ciX3_workOut _ [(2, 8, 3), (1, 12, 1)] rfl rfl) ggX3_workOut_X3_readPart
set_option maxRecDepth 20000 in
theorem ggX12_read_X12_isAwake : GoodIn wsX12_read wsX12_isAwake := goodIn_sl csX12_read ciX12_read _ [(1, 21, 3), (5, 0, 59)] rfl gw_wsX12_isAwake
set_option maxRecDepth 20000 in
theorem gX12_read_X12_isAwake : GoodIn wsX12_read (wsV RX12 287 RX12 yX12_isAwake wsX12_isAwake) := goodIn_app (goodIn_sl csX12_read ciX12_read _ [(1, 18, 3), (1, 7, 1)] rfl rfl) ggX12_read_X12_isAwake
set_option maxRecDepth 20000 in
theorem ggX11_picked_X1_pick : GoodIn wsX11_picked wsX1_pick := goodIn_sl csX11_picked ciX11_picked _ [(1, 17, 7), (1, 16, 1), (2, 0, 13), (1, 6, 1), (2, 13, 11), (3, 0, 16), (5, 0, 9), (6, 0, 13)] rfl gw_wsX1_pick
set_option maxRecDepth 20000 in
theorem gX11_picked_X1_pick : GoodIn wsX11_picked (wsV RX11 221 RX1 yX1_pick wsX1_pick) := goodIn_app (goodIn_sl csX11_picked ciX11_picked _ [(1, 13, 4)] rfl rfl) ggX11_picked_X1_pick
set_option maxRecDepth 20000 in
theorem ggX12_half_X12_isKeeper : GoodIn wsX12_half wsX12_isKeeper := goodIn_sl csX12_half ciX12_half _ [(1, 15, 2), (1, 9, 2), (1, 6, 1), (1, 11, 1), (2, 0, 59)] rfl gw_wsX12_isKeeper
set_option maxRecDepth 20000 in
theorem gX12_half_X12_isKeeper : GoodIn wsX12_half (wsV RX12 166 RX12 yX12_isKeeper wsX12_isKeeper) := goodIn_app (goodIn_sl csX12_half ciX12_half _ [(1, 12, 3), (1, 6, 1)] rfl rfl) ggX12_half_X12_isKeeper
set_option maxRecDepth 20000 in
theorem ggX12_comes_X12_isComing : GoodIn wsX12_comes wsX12_isComing := goodIn_sl csX12_comes ciX12_comes _ [(1, 14, 1), (1, 0, 2), (2, 0, 59)] rfl gw_wsX12_isComing
set_option maxRecDepth 20000 in
theorem gX12_comes_X12_isComing : GoodIn wsX12_comes (wsV RX12 313 RX12 yX12_isComing wsX12_isComing) := goodIn_app (goodIn_sl csX12_comes ciX12_comes _ [(1, 11, 3), (1, 5, 1)] rfl rfl) ggX12_comes_X12_isComing
set_option maxRecDepth 20000 in
theorem ggX12_names_X12_found : GoodIn wsX12_names wsX12_found := goodIn_sl csX12_names ciX12_names _ [(1, 16, 1), (1, 5, 1), (1, 17, 2), (1, 4, 1), (2, 0, 59)] rfl gw_wsX12_found
set_option maxRecDepth 20000 in
theorem gX12_names_X12_found : GoodIn wsX12_names (wsV RX12 149 RX12 yX12_found wsX12_found) := goodIn_app (goodIn_sl csX12_names ciX12_names _ [(1, 13, 3), (1, 8, 1)] rfl rfl) ggX12_names_X12_found
noncomputable def csX12_eats : List (List Cond) := [[.code yX12_eats cX12_eats 2 none], [.fieldLink RX12 183 "SeatsRoundModel" "isFaulty" "Z", .fieldLink RX12 177 "SeatsRoundModel" "at" "I", .methodLink RX12 187 yX12_here, .instanceMethod yX12_here, .selects RX12 yX12_here yX12_here, .initialized RX12, .code yX12_here cX12_here 1 (some .int), .fieldLink RX12 47 "SeatsRoundModel" "lawSize" "[I", .fieldLink RX12 180 "SeatsRoundModel" "lawTable" "I", .fieldLink RX12 50 "SeatsRoundModel" "lawByte" "[I"], wsX120]
set_option maxRecDepth 20000 in
theorem ciX12_eats : ∀ l ∈ csX12_eats, ∀ w ∈ l, w ∈ wsX12_eats := by
  unfold csX12_eats
  refine List.forall_mem_cons.mpr ⟨fun _ h => List.mem_cons.mpr (Or.inl (List.mem_singleton.mp h)), List.forall_mem_cons.mpr ⟨fun _ h => List.mem_cons_of_mem _ (List.mem_append_left _ h), List.forall_mem_cons.mpr ⟨fun _ h => List.mem_cons_of_mem _ (List.mem_append_right _ h), fun l h => absurd h List.not_mem_nil⟩⟩⟩
set_option maxRecDepth 20000 in
theorem ggX12_eats_X12_here : GoodIn wsX12_eats wsX12_here := goodIn_sl csX12_eats ciX12_eats _ [(1, 6, 1), (1, 1, 1), (1, 7, 3), (2, 0, 59)] rfl gw_wsX12_here
set_option maxRecDepth 20000 in
theorem gX12_eats_X12_here : GoodIn wsX12_eats (wsV RX12 187 RX12 yX12_here wsX12_here) := goodIn_app (goodIn_sl csX12_eats ciX12_eats _ [(1, 2, 4)] rfl rfl) ggX12_eats_X12_here
set_option maxRecDepth 20000 in
theorem ggX3_readOperand_X3_readBracket : GoodIn wsX3_readOperand wsX3_readBracket := goodIn_sl csX3_readOperand ciX3_readOperand _ [(1, 23, 1), (1, 4, 2), (2, 0, 3), (1, 9, 1), (1, 6, 3), (1, 10, 3), (0, 0, 1), (1, 0, 4), (1, 13, 10), (2, 3, 8), (3, 0, 8)] rfl gw_wsX3_readBracket
set_option maxRecDepth 20000 in
theorem gX3_readOperand_X3_readBracket : GoodIn wsX3_readOperand (wsV RX3 113 RX3 yX3_readBracket wsX3_readBracket) := goodIn_app (goodIn_sl csX3_readOperand ciX3_readOperand _ [(1, 20, 3), (1, 9, 1)] rfl rfl) ggX3_readOperand_X3_readBracket
set_option maxRecDepth 20000 in
theorem ggX6_mendAll_X6_greatestAnywhere : GoodIn wsX6_mendAll wsX6_greatestAnywhere := goodIn_sl csX6_mendAll ciX6_mendAll _ [(1, 11, 1), (1, 6, 1), (1, 12, 7), (7, 0, 12), (11, 0, 6)] rfl gw_wsX6_greatestAnywhere
set_option maxRecDepth 20000 in
theorem gX6_mendAll_X6_greatestAnywhere : GoodIn wsX6_mendAll (wsV RX6 135 RX6 yX6_greatestAnywhere wsX6_greatestAnywhere) := goodIn_app (goodIn_sl csX6_mendAll ciX6_mendAll _ [(1, 7, 4)] rfl rfl) ggX6_mendAll_X6_greatestAnywhere
set_option maxRecDepth 20000 in
theorem ggX10_greatestShare_X8_firstFor : GoodIn wsX10_greatestShare wsX8_firstFor := goodIn_sl csX10_greatestShare ciX10_greatestShare _ [(2, 0, 8), (1, 23, 1), (2, 8, 8), (5, 0, 13)] rfl gw_wsX8_firstFor
set_option maxRecDepth 20000 in
theorem gX10_greatestShare_X8_firstFor : GoodIn wsX10_greatestShare (wsV RX10 59 RX8 yX8_firstFor wsX8_firstFor) := goodIn_app (goodIn_sl csX10_greatestShare ciX10_greatestShare _ [(1, 20, 4)] rfl rfl) ggX10_greatestShare_X8_firstFor
set_option maxRecDepth 20000 in
theorem ggX11_become_X6_handBack : GoodIn wsX11_become wsX6_handBack := goodIn_sl csX11_become ciX11_become _ [(1, 17, 7), (2, 0, 3), (1, 16, 1), (2, 3, 2), (5, 0, 12), (4, 0, 6), (6, 0, 4)] rfl gw_wsX6_handBack
set_option maxRecDepth 20000 in
theorem gX11_become_X6_handBack : GoodIn wsX11_become (wsV RX11 145 RX6 yX6_handBack wsX6_handBack) := goodIn_app (goodIn_sl csX11_become ciX11_become _ [(1, 13, 4)] rfl rfl) ggX11_become_X6_handBack
set_option maxRecDepth 20000 in
theorem ggX11_table_X8_takeLaw : GoodIn wsX11_table wsX8_takeLaw := goodIn_sl csX11_table ciX11_table _ [(2, 4, 14), (11, 0, 13)] rfl gw_wsX8_takeLaw
set_option maxRecDepth 20000 in
theorem gX11_table_X8_takeLaw : GoodIn wsX11_table (wsV RX11 177 RX8 yX8_takeLaw wsX8_takeLaw) := goodIn_app (goodIn_sl csX11_table ciX11_table _ [(2, 1, 3), (1, 10, 1)] rfl rfl) ggX11_table_X8_takeLaw
set_option maxRecDepth 20000 in
theorem ggX11_names_X4_addFrom : GoodIn wsX11_names wsX4_addFrom := goodIn_sl csX11_names ciX11_names _ [(2, 0, 6), (1, 23, 1), (2, 6, 15), (5, 0, 4)] rfl gw_wsX4_addFrom
set_option maxRecDepth 20000 in
theorem gX11_names_X4_addFrom : GoodIn wsX11_names (wsV RX11 407 RX4 yX4_addFrom wsX4_addFrom) := goodIn_app (goodIn_sl csX11_names ciX11_names _ [(1, 20, 4)] rfl rfl) ggX11_names_X4_addFrom
set_option maxRecDepth 20000 in
theorem ggX11_act_X0_run : GoodIn wsX11_act wsX0_run := goodIn_sl csX11_act ciX11_act _ [(1, 15, 7), (1, 14, 1), (1, 22, 2), (2, 0, 17), (4, 0, 5)] rfl gw_wsX0_run
set_option maxRecDepth 20000 in
theorem gX11_act_X0_run : GoodIn wsX11_act (wsV RX11 347 RX0 yX0_run wsX0_run) := goodIn_app (goodIn_sl csX11_act ciX11_act _ [(1, 11, 4)] rfl rfl) ggX11_act_X0_run
set_option maxRecDepth 20000 in
theorem ggX8_seatAll_X8_linkPlaces : GoodIn wsX8_seatAll wsX8_linkPlaces := goodIn_sl csX8_seatAll ciX8_seatAll _ [(2, 0, 1), (1, 3, 1), (2, 1, 1), (3, 0, 13)] rfl gw_wsX8_linkPlaces
set_option maxRecDepth 20000 in
theorem gX8_seatAll_X8_linkPlaces : GoodIn wsX8_seatAll (wsV RX8 93 RX8 yX8_linkPlaces wsX8_linkPlaces) := goodIn_app (goodIn_sl csX8_seatAll ciX8_seatAll _ [(1, 21, 3), (1, 17, 1)] rfl rfl) ggX8_seatAll_X8_linkPlaces
noncomputable def csX6_compare : List (List Cond) := [[.code yX6_compare cX6_compare 3 none], [.fieldLink RX6 32 "SeatsRound$Parcels" "oneTree" "[I", .fieldLink RX6 35 "SeatsRound$Parcels" "otherTree" "[I", .methodLink RX6 138 yX6_grow, .instanceMethod yX6_grow, .selects RX6 yX6_grow yX6_grow, .initialized RX6, .code yX6_grow cX6_grow 4 none, .fieldLink RX6 46 "SeatsRound$Parcels" "nameList" "LSeatsRound$NameList;", .fieldLink RX6 123 "SeatsRound$NameList" "count" "I", .fieldLink RX6 11 "SeatsRound$Parcels" "version" "[[I", .methodLink RX6 124 yJ7_fill_53178, .static yJ7_fill_53178, .initialized RJ7, .code yJ7_fill_53178 cJ7_fill_53178 4 none], wsX60, wsX40]
set_option maxRecDepth 20000 in
theorem ciX6_compare : ∀ l ∈ csX6_compare, ∀ w ∈ l, w ∈ wsX6_compare := by
  unfold csX6_compare
  refine List.forall_mem_cons.mpr ⟨fun _ h => List.mem_cons.mpr (Or.inl (List.mem_singleton.mp h)), List.forall_mem_cons.mpr ⟨fun _ h => List.mem_cons_of_mem _ (List.mem_append_left _ (List.mem_append_left _ h)), List.forall_mem_cons.mpr ⟨fun _ h => List.mem_cons_of_mem _ (List.mem_append_left _ (List.mem_append_right _ h)), List.forall_mem_cons.mpr ⟨fun _ h => List.mem_cons_of_mem _ (List.mem_append_right _ h), fun l h => absurd h List.not_mem_nil⟩⟩⟩⟩
set_option maxRecDepth 20000 in
theorem ggX6_compare_X6_grow : GoodIn wsX6_compare wsX6_grow := goodIn_sl csX6_compare ciX6_compare _ [(1, 6, 8), (2, 0, 12), (3, 0, 4)] rfl gw_wsX6_grow
set_option maxRecDepth 20000 in
theorem gX6_compare_X6_grow : GoodIn wsX6_compare (wsV RX6 138 RX6 yX6_grow wsX6_grow) := goodIn_app (goodIn_sl csX6_compare ciX6_compare _ [(1, 2, 4)] rfl rfl) ggX6_compare_X6_grow
set_option maxRecDepth 20000 in
theorem ggX3_readPart_X3_readWay : GoodIn wsX3_readPart wsX3_readWay := goodIn_sl csX3_readPart ciX3_readPart _ [(3, 4, 1), (1, 0, 2), (1, 5, 7), (4, 0, 8)] rfl gw_wsX3_readWay
set_option maxRecDepth 20000 in
theorem gX3_readPart_X3_readWay : GoodIn wsX3_readPart (wsV RX3 94 RX3 yX3_readWay wsX3_readWay) := goodIn_app (goodIn_sl csX3_readPart ciX3_readPart _ [(3, 1, 3), (1, 8, 1)] rfl rfl) ggX3_readPart_X3_readWay
set_option maxRecDepth 20000 in
theorem ggX6_greatestFor_X4_placeOf : GoodIn wsX6_greatestFor wsX4_placeOf := goodIn_sl csX6_greatestFor ciX6_greatestFor _ [(1, 15, 4), (9, 0, 4)] rfl gw_wsX4_placeOf
set_option maxRecDepth 20000 in
theorem gX6_greatestFor_X4_placeOf : GoodIn wsX6_greatestFor (wsV RX6 59 RX4 yX4_placeOf wsX4_placeOf) := goodIn_app (goodIn_sl csX6_greatestFor ciX6_greatestFor _ [(1, 11, 4)] rfl rfl) ggX6_greatestFor_X4_placeOf
set_option maxRecDepth 20000 in
theorem ggX5_seatSet_X2_counting : GoodIn wsX5_seatSet wsX2_counting := goodIn_sl csX5_seatSet ciX5_seatSet _ [(2, 19, 3), (15, 0, 6)] rfl gw_wsX2_counting
set_option maxRecDepth 20000 in
theorem gX5_seatSet_X2_counting : GoodIn wsX5_seatSet (wsV RX5 73 RX2 yX2_counting wsX2_counting) := goodIn_app (goodIn_sl csX5_seatSet ciX5_seatSet _ [(2, 15, 4)] rfl rfl) ggX5_seatSet_X2_counting
set_option maxRecDepth 20000 in
theorem ggX11_strength_X11_isStrength : GoodIn wsX11_strength wsX11_isStrength := goodIn_sl csX11_strength ciX11_strength _ [(1, 11, 1)] rfl gw_wsX11_isStrength
set_option maxRecDepth 20000 in
theorem gX11_strength_X11_isStrength : GoodIn wsX11_strength (va_wsS RX11 131 yX11_isStrength wsX11_isStrength) := goodIn_app (goodIn_sl csX11_strength ciX11_strength _ [(1, 8, 3)] rfl rfl) ggX11_strength_X11_isStrength
set_option maxRecDepth 20000 in
theorem ggX3_readSum_X3_sign : GoodIn wsX3_readSum wsX3_sign := goodIn_sl csX3_readSum ciX3_readSum _ [(1, 9, 1), (1, 1, 1), (1, 10, 2), (3, 0, 8)] rfl gw_wsX3_sign
set_option maxRecDepth 20000 in
theorem gX3_readSum_X3_sign : GoodIn wsX3_readSum (wsV RX3 62 RX3 yX3_sign wsX3_sign) := goodIn_app (goodIn_sl csX3_readSum ciX3_readSum _ [(1, 6, 3), (1, 5, 1)] rfl rfl) ggX3_readSum_X3_sign
set_option maxRecDepth 20000 in
theorem ggX6_mendAll_X2_isUp : GoodIn wsX6_mendAll wsX2_isUp := goodIn_sl csX6_mendAll ciX6_mendAll _ [(5, 10, 3), (11, 0, 6)] rfl gw_wsX2_isUp
set_option maxRecDepth 20000 in
theorem gX6_mendAll_X2_isUp : GoodIn wsX6_mendAll (wsV RX6 117 RX2 yX2_isUp wsX2_isUp) := goodIn_app (goodIn_sl csX6_mendAll ciX6_mendAll _ [(5, 6, 4)] rfl rfl) ggX6_mendAll_X2_isUp
set_option maxRecDepth 20000 in
theorem ggX12_findsFrom_X12_aboveOf : GoodIn wsX12_findsFrom wsX12_aboveOf := goodIn_sl csX12_findsFrom ciX12_findsFrom _ [(1, 13, 1)] rfl gw_wsX12_aboveOf
set_option maxRecDepth 20000 in
theorem gX12_findsFrom_X12_aboveOf : GoodIn wsX12_findsFrom (va_wsS RX12 343 yX12_aboveOf wsX12_aboveOf) := goodIn_app (goodIn_sl csX12_findsFrom ciX12_findsFrom _ [(1, 11, 2), (1, 4, 1)] rfl rfl) ggX12_findsFrom_X12_aboveOf
noncomputable def csX11_name : List (List Cond) := [[.code yX11_name cX11_name 2 (some .int)], [.fieldLink RX11 10 "SeatsRound" "tape" "LSeatsRound$Tape;", .fieldLink RX11 102 "SeatsRound$Tape" "length" "I", .fieldLink RX11 19 "SeatsRound" "nameList" "LSeatsRound$NameList;", .fieldLink RX11 109 "SeatsRound$Tape" "bytes" "[B", .fieldLink RX11 117 "SeatsRound$NameList" "count" "I", .methodLink RX11 113 yX4_find, .instanceMethod yX4_find, .selects RX4 yX4_find yX4_find, .initialized RX4, .code yX4_find cX4_find 5 (some .int), .fieldLink RX4 24 "SeatsRound$NameList" "count" "I", .fieldLink RX4 16 "SeatsRound$NameList" "size" "[I", .fieldLink RX4 11 "SeatsRound$NameList" "bytes" "[[B", .methodLink RX4 28 yX4_isAlike, .static yX4_isAlike, .code yX4_isAlike cX4_isAlike 5 (some .boolean), .methodLink RX11 120 yX4_add, .instanceMethod yX4_add, .selects RX4 yX4_add yX4_add, .code yX4_add cX4_add 4 (some .int), .methodLink RX4 32 arraycopyName, .native arraycopyName, .static arraycopyName, .initialized "java/lang/System"], wsX110, wsX90, wsX40]
set_option maxRecDepth 20000 in
theorem ciX11_name : ∀ l ∈ csX11_name, ∀ w ∈ l, w ∈ wsX11_name := by
  unfold csX11_name
  refine List.forall_mem_cons.mpr ⟨fun _ h => List.mem_cons.mpr (Or.inl (List.mem_singleton.mp h)), List.forall_mem_cons.mpr ⟨fun _ h => List.mem_cons_of_mem _ (List.mem_append_left _ (List.mem_append_left _ (List.mem_append_left _ h))), List.forall_mem_cons.mpr ⟨fun _ h => List.mem_cons_of_mem _ (List.mem_append_left _ (List.mem_append_left _ (List.mem_append_right _ h))), List.forall_mem_cons.mpr ⟨fun _ h => List.mem_cons_of_mem _ (List.mem_append_left _ (List.mem_append_right _ h)), List.forall_mem_cons.mpr ⟨fun _ h => List.mem_cons_of_mem _ (List.mem_append_right _ h), fun l h => absurd h List.not_mem_nil⟩⟩⟩⟩⟩
set_option maxRecDepth 20000 in
theorem ggX11_name_X4_find : GoodIn wsX11_name wsX4_find := goodIn_sl csX11_name ciX11_name _ [(1, 9, 6), (1, 8, 1), (1, 15, 1), (4, 0, 4)] rfl gw_wsX4_find
set_option maxRecDepth 20000 in
theorem gX11_name_X4_find : GoodIn wsX11_name (wsV RX11 113 RX4 yX4_find wsX4_find) := goodIn_app (goodIn_sl csX11_name ciX11_name _ [(1, 5, 4)] rfl rfl) ggX11_name_X4_find
set_option maxRecDepth 20000 in
theorem ggX11_onShelf_X4_has : GoodIn wsX11_onShelf wsX4_has := goodIn_sl csX11_onShelf ciX11_onShelf _ [(1, 17, 2), (5, 0, 4)] rfl gw_wsX4_has
set_option maxRecDepth 20000 in
theorem gX11_onShelf_X4_has : GoodIn wsX11_onShelf (wsV RX11 123 RX4 yX4_has wsX4_has) := goodIn_app (goodIn_sl csX11_onShelf ciX11_onShelf _ [(1, 13, 4)] rfl rfl) ggX11_onShelf_X4_has
set_option maxRecDepth 20000 in
theorem ggX11_taken_X2_has : GoodIn wsX11_taken wsX2_has := goodIn_sl csX11_taken ciX11_taken _ [(1, 22, 2), (5, 0, 6)] rfl gw_wsX2_has
set_option maxRecDepth 20000 in
theorem gX11_taken_X2_has : GoodIn wsX11_taken (wsV RX11 137 RX2 yX2_has wsX2_has) := goodIn_app (goodIn_sl csX11_taken ciX11_taken _ [(1, 18, 4)] rfl rfl) ggX11_taken_X2_has
set_option maxRecDepth 20000 in
theorem ggX12_keeperOf_X12_in : GoodIn wsX12_keeperOf wsX12_in := goodIn_sl csX12_keeperOf ciX12_keeperOf _ [(1, 10, 1)] rfl gw_wsX12_in
set_option maxRecDepth 20000 in
theorem gX12_keeperOf_X12_in : GoodIn wsX12_keeperOf (va_wsS RX12 136 yX12_in wsX12_in) := goodIn_app (goodIn_sl csX12_keeperOf ciX12_keeperOf _ [(1, 8, 2), (1, 5, 1)] rfl rfl) ggX12_keeperOf_X12_in
set_option maxRecDepth 20000 in
theorem ggX12_picked_X12_in : GoodIn wsX12_picked wsX12_in := goodIn_sl csX12_picked ciX12_picked _ [(1, 10, 1)] rfl gw_wsX12_in
set_option maxRecDepth 20000 in
theorem gX12_picked_X12_in : GoodIn wsX12_picked (va_wsS RX12 136 yX12_in wsX12_in) := goodIn_app (goodIn_sl csX12_picked ciX12_picked _ [(1, 8, 2), (1, 5, 1)] rfl rfl) ggX12_picked_X12_in
set_option maxRecDepth 20000 in
theorem ggX12_moves_X12_in : GoodIn wsX12_moves wsX12_in := goodIn_sl csX12_moves ciX12_moves _ [(1, 11, 1)] rfl gw_wsX12_in
set_option maxRecDepth 20000 in
theorem gX12_moves_X12_in : GoodIn wsX12_moves (va_wsS RX12 136 yX12_in wsX12_in) := goodIn_app (goodIn_sl csX12_moves ciX12_moves _ [(1, 9, 2), (1, 6, 1)] rfl rfl) ggX12_moves_X12_in
set_option maxRecDepth 20000 in
theorem ggX8_seatAll_X11_strewn : GoodIn wsX8_seatAll wsX11_strewn := goodIn_sl csX8_seatAll ciX8_seatAll _ [(1, 12, 2)] rfl gw_wsX11_strewn
set_option maxRecDepth 20000 in
theorem gX8_seatAll_X11_strewn_n87 : GoodIn wsX8_seatAll (wsX11_strewn) := ggX8_seatAll_X11_strewn
end
section
set_option maxRecDepth 20000 in
theorem ggX12_order_X12_chooseName : GoodIn wsX12_order wsX12_chooseName := goodIn_sl csX12_order ciX12_order _ [(5, 2, 1), (1, 1, 1), (5, 3, 3), (1, 10, 1), (5, 6, 10), (3, 10, 1), (5, 16, 1), (3, 11, 1), (5, 17, 5), (1, 20, 1), (3, 12, 1), (5, 22, 2), (6, 0, 2), (2, 4, 2), (4, 18, 5), (2, 8, 4), (6, 2, 4), (4, 16, 1), (6, 6, 4), (2, 6, 1), (6, 10, 4), (8, 0, 59)] rfl gw_wsX12_chooseName
set_option maxRecDepth 20000 in
theorem gX12_order_X12_chooseName : GoodIn wsX12_order (wsV RX12 269 RX12 yX12_chooseName wsX12_chooseName) := goodIn_app (goodIn_sl csX12_order ciX12_order _ [(4, 23, 1), (5, 0, 2), (1, 10, 1)] rfl rfl) ggX12_order_X12_chooseName
set_option maxRecDepth 20000 in
theorem ggX12_write_X12_chooseName : GoodIn wsX12_write wsX12_chooseName := goodIn_sl csX12_write ciX12_write _ [(2, 5, 5), (1, 11, 1), (2, 10, 8), (1, 3, 1), (2, 18, 4), (1, 4, 1), (2, 22, 2), (3, 0, 8), (1, 13, 1), (3, 8, 16), (4, 0, 8), (6, 0, 59)] rfl gw_wsX12_chooseName
set_option maxRecDepth 20000 in
theorem gX12_write_X12_chooseName : GoodIn wsX12_write (wsV RX12 269 RX12 yX12_chooseName wsX12_chooseName) := goodIn_app (goodIn_sl csX12_write ciX12_write _ [(2, 2, 3), (1, 11, 1)] rfl rfl) ggX12_write_X12_chooseName
set_option maxRecDepth 20000 in
theorem ggX12_chooseName_X12_choose : GoodIn wsX12_chooseName wsX12_choose := goodIn_sl csX12_chooseName ciX12_chooseName _ [(1, 12, 10), (1, 4, 1), (1, 22, 2), (2, 0, 6), (1, 0, 1), (2, 6, 18), (3, 0, 6), (4, 0, 59)] rfl gw_wsX12_choose
set_option maxRecDepth 20000 in
theorem gX12_chooseName_X12_choose : GoodIn wsX12_chooseName (wsV RX12 263 RX12 yX12_choose wsX12_choose) := goodIn_app (goodIn_sl csX12_chooseName ciX12_chooseName _ [(1, 9, 3), (1, 4, 1)] rfl rfl) ggX12_chooseName_X12_choose
set_option maxRecDepth 20000 in
theorem ggX11_tooFew_X1_choose : GoodIn wsX11_tooFew wsX1_choose := goodIn_sl csX11_tooFew ciX11_tooFew _ [(2, 1, 17), (2, 0, 1), (2, 18, 6), (3, 0, 12), (1, 9, 1), (3, 12, 12), (4, 0, 24), (9, 0, 9), (8, 0, 13), (10, 0, 6)] rfl gw_wsX1_choose
set_option maxRecDepth 20000 in
theorem gX11_tooFew_X1_choose : GoodIn wsX11_tooFew (wsV RX11 234 RX1 yX1_choose wsX1_choose) := goodIn_app (goodIn_sl csX11_tooFew ciX11_tooFew _ [(1, 21, 3), (2, 0, 1)] rfl rfl) ggX11_tooFew_X1_choose
set_option maxRecDepth 20000 in
theorem ggX12_order_X12_movesBy : GoodIn wsX12_order wsX12_movesBy := goodIn_sl csX12_order ciX12_order _ [(6, 21, 1), (1, 0, 1), (1, 4, 1), (1, 2, 2), (1, 16, 3), (1, 10, 1), (1, 19, 3), (6, 22, 2), (7, 0, 1), (8, 0, 59)] rfl gw_wsX12_movesBy
set_option maxRecDepth 20000 in
theorem gX12_order_X12_movesBy : GoodIn wsX12_order (wsV RX12 322 RX12 yX12_movesBy wsX12_movesBy) := goodIn_app (goodIn_sl csX12_order ciX12_order _ [(6, 18, 3), (1, 10, 1)] rfl rfl) ggX12_order_X12_movesBy
set_option maxRecDepth 20000 in
theorem ggX12_reads_X12_sum : GoodIn wsX12_reads wsX12_sum := goodIn_sl csX12_reads ciX12_reads _ [(2, 0, 1), (1, 3, 1), (1, 1, 1), (2, 1, 3), (1, 11, 1), (1, 8, 3), (1, 12, 1), (1, 7, 1), (1, 0, 1), (1, 13, 1), (2, 4, 1), (1, 2, 1), (2, 5, 4), (1, 18, 6), (1, 14, 4), (2, 9, 4), (3, 0, 59)] rfl gw_wsX12_sum
set_option maxRecDepth 20000 in
theorem gX12_reads_X12_sum : GoodIn wsX12_reads (wsV RX12 200 RX12 yX12_sum wsX12_sum) := goodIn_app (goodIn_sl csX12_reads ciX12_reads _ [(1, 21, 3), (1, 11, 1)] rfl rfl) ggX12_reads_X12_sum
set_option maxRecDepth 20000 in
theorem ggX12_wordsBelow_X12_wordsBelow : GoodIn wsX12_wordsBelow wsX12_wordsBelow := goodIn_sl csX12_wordsBelow ciX12_wordsBelow _ [(0, 0, 1), (1, 0, 14), (2, 0, 59)] rfl gw_wsX12_wordsBelow
set_option maxRecDepth 20000 in
theorem gX12_wordsBelow_X12_wordsBelow : GoodIn wsX12_wordsBelow (wsV RX12 307 RX12 yX12_wordsBelow wsX12_wordsBelow) := goodIn_app (goodIn_sl csX12_wordsBelow ciX12_wordsBelow _ [(1, 11, 3), (1, 3, 1)] rfl rfl) ggX12_wordsBelow_X12_wordsBelow
set_option maxRecDepth 20000 in
theorem ggX12_keepsFrom_X12_findsFrom : GoodIn wsX12_keepsFrom wsX12_findsFrom := goodIn_sl csX12_keepsFrom ciX12_keepsFrom _ [(1, 11, 2), (1, 1, 10), (1, 13, 3), (2, 0, 59)] rfl gw_wsX12_findsFrom
set_option maxRecDepth 20000 in
theorem gX12_keepsFrom_X12_findsFrom : GoodIn wsX12_keepsFrom (wsV RX12 340 RX12 yX12_findsFrom wsX12_findsFrom) := goodIn_app (goodIn_sl csX12_keepsFrom ciX12_keepsFrom _ [(1, 8, 3), (1, 4, 1)] rfl rfl) ggX12_keepsFrom_X12_findsFrom
set_option maxRecDepth 20000 in
theorem ggX12_mend_X12_hasRoom : GoodIn wsX12_mend wsX12_hasRoom := goodIn_sl csX12_mend ciX12_mend _ [(4, 5, 1), (4, 1, 1), (1, 3, 1), (4, 6, 3), (1, 9, 1), (4, 9, 2), (5, 0, 59)] rfl gw_wsX12_hasRoom
set_option maxRecDepth 20000 in
theorem gX12_mend_X12_hasRoom : GoodIn wsX12_mend (wsV RX12 297 RX12 yX12_hasRoom wsX12_hasRoom) := goodIn_app (goodIn_sl csX12_mend ciX12_mend _ [(4, 2, 3), (1, 9, 1)] rfl rfl) ggX12_mend_X12_hasRoom
set_option maxRecDepth 20000 in
theorem ggX12_act_X12_findsFrom : GoodIn wsX12_act wsX12_findsFrom := goodIn_sl csX12_act ciX12_act _ [(1, 14, 5), (1, 5, 1), (1, 19, 1), (1, 0, 1), (1, 20, 1), (1, 11, 3), (1, 21, 3), (3, 0, 59)] rfl gw_wsX12_findsFrom
set_option maxRecDepth 20000 in
theorem gX12_act_X12_findsFrom : GoodIn wsX12_act (wsV RX12 340 RX12 yX12_findsFrom wsX12_findsFrom) := goodIn_app (goodIn_sl csX12_act ciX12_act _ [(1, 11, 3), (1, 5, 1)] rfl rfl) ggX12_act_X12_findsFrom
set_option maxRecDepth 20000 in
theorem ggX12_share_X12_isKeeper : GoodIn wsX12_share wsX12_isKeeper := goodIn_sl csX12_share ciX12_share _ [(1, 13, 2), (1, 7, 2), (1, 4, 1), (1, 9, 1), (4, 0, 59)] rfl gw_wsX12_isKeeper
set_option maxRecDepth 20000 in
theorem gX12_share_X12_isKeeper : GoodIn wsX12_share (wsV RX12 166 RX12 yX12_isKeeper wsX12_isKeeper) := goodIn_app (goodIn_sl csX12_share ciX12_share _ [(1, 10, 3), (1, 4, 1)] rfl rfl) ggX12_share_X12_isKeeper
set_option maxRecDepth 20000 in
theorem ggX12_moves_X12_bits : GoodIn wsX12_moves wsX12_bits := goodIn_sl csX12_moves ciX12_moves _ [(3, 22, 1), (2, 9, 1), (2, 14, 1), (5, 0, 59)] rfl gw_wsX12_bits
set_option maxRecDepth 20000 in
theorem gX12_moves_X12_bits : GoodIn wsX12_moves (wsV RX12 281 RX12 yX12_bits wsX12_bits) := goodIn_app (goodIn_sl csX12_moves ciX12_moves _ [(3, 19, 3), (1, 6, 1)] rfl rfl) ggX12_moves_X12_bits
set_option maxRecDepth 20000 in
theorem ggX12_tries_X12_isIn : GoodIn wsX12_tries wsX12_isIn := goodIn_sl csX12_tries ciX12_tries _ [(1, 12, 1), (1, 0, 1), (5, 0, 59)] rfl gw_wsX12_isIn
set_option maxRecDepth 20000 in
theorem gX12_tries_X12_isIn : GoodIn wsX12_tries (wsV RX12 223 RX12 yX12_isIn wsX12_isIn) := goodIn_app (goodIn_sl csX12_tries ciX12_tries _ [(1, 8, 4)] rfl rfl) ggX12_tries_X12_isIn
set_option maxRecDepth 20000 in
theorem ggX12_pick_X12_pickNext : GoodIn wsX12_pick wsX12_pickNext := goodIn_sl csX12_pick ciX12_pick _ [(2, 0, 2), (1, 3, 1), (1, 0, 1), (3, 0, 59)] rfl gw_wsX12_pickNext
set_option maxRecDepth 20000 in
theorem gX12_pick_X12_pickNext : GoodIn wsX12_pick (wsV RX12 247 RX12 yX12_pickNext wsX12_pickNext) := goodIn_app (goodIn_sl csX12_pick ciX12_pick _ [(1, 21, 3), (1, 7, 1)] rfl rfl) ggX12_pick_X12_pickNext
set_option maxRecDepth 20000 in
theorem ggX12_half_X12_isAwake : GoodIn wsX12_half wsX12_isAwake := goodIn_sl csX12_half ciX12_half _ [(1, 20, 3), (2, 0, 59)] rfl gw_wsX12_isAwake
set_option maxRecDepth 20000 in
theorem gX12_half_X12_isAwake : GoodIn wsX12_half (wsV RX12 287 RX12 yX12_isAwake wsX12_isAwake) := goodIn_app (goodIn_sl csX12_half ciX12_half _ [(1, 17, 3), (1, 6, 1)] rfl rfl) ggX12_half_X12_isAwake
set_option maxRecDepth 20000 in
theorem ggX12_sum_X12_here : GoodIn wsX12_sum wsX12_here := goodIn_sl csX12_sum ciX12_sum _ [(1, 9, 1), (1, 1, 1), (1, 10, 3), (3, 0, 59)] rfl gw_wsX12_here
set_option maxRecDepth 20000 in
theorem gX12_sum_X12_here : GoodIn wsX12_sum (wsV RX12 187 RX12 yX12_here wsX12_here) := goodIn_app (goodIn_sl csX12_sum ciX12_sum _ [(1, 6, 3), (1, 5, 1)] rfl rfl) ggX12_sum_X12_here
set_option maxRecDepth 20000 in
theorem ggX3_readProduct_X3_readOperand : GoodIn wsX3_readProduct wsX3_readOperand := goodIn_sl csX3_readProduct ciX3_readProduct _ [(1, 16, 5), (1, 1, 1), (1, 0, 1), (1, 6, 3), (1, 5, 1), (1, 9, 3), (1, 21, 3), (2, 0, 7), (1, 12, 4), (0, 0, 1), (1, 2, 3), (2, 7, 4), (3, 0, 8)] rfl gw_wsX3_readOperand
set_option maxRecDepth 20000 in
theorem gX3_readProduct_X3_readOperand : GoodIn wsX3_readProduct (wsV RX3 103 RX3 yX3_readOperand wsX3_readOperand) := goodIn_app (goodIn_sl csX3_readProduct ciX3_readProduct _ [(1, 2, 4)] rfl rfl) ggX3_readProduct_X3_readOperand
set_option maxRecDepth 20000 in
theorem ggX10_leastHarm_X8_seatAll : GoodIn wsX10_leastHarm wsX8_seatAll := goodIn_sl csX10_leastHarm ciX10_leastHarm _ [(2, 9, 5), (1, 9, 1), (2, 14, 10), (3, 0, 2), (1, 6, 1), (3, 2, 8), (6, 0, 13)] rfl gw_wsX8_seatAll
set_option maxRecDepth 20000 in
theorem gX10_leastHarm_X8_seatAll : GoodIn wsX10_leastHarm (wsV RX10 35 RX8 yX8_seatAll wsX8_seatAll) := goodIn_app (goodIn_sl csX10_leastHarm ciX10_leastHarm _ [(2, 6, 3), (1, 6, 1)] rfl rfl) ggX10_leastHarm_X8_seatAll
set_option maxRecDepth 20000 in
theorem ggX11_table_X8_takeAll : GoodIn wsX11_table wsX8_takeAll := goodIn_sl csX11_table ciX11_table _ [(6, 14, 1), (1, 16, 2), (2, 14, 4), (2, 13, 1), (2, 12, 1), (6, 0, 3), (6, 15, 1), (2, 2, 2), (1, 10, 1), (2, 4, 8), (11, 0, 13)] rfl gw_wsX8_takeAll
set_option maxRecDepth 20000 in
theorem gX11_table_X8_takeAll : GoodIn wsX11_table (wsV RX11 185 RX8 yX8_takeAll wsX8_takeAll) := goodIn_app (goodIn_sl csX11_table ciX11_table _ [(6, 11, 3), (1, 10, 1)] rfl rfl) ggX11_table_X8_takeAll
set_option maxRecDepth 20000 in
theorem ggX11_half_X6_movePiece : GoodIn wsX11_half wsX6_movePiece := goodIn_sl csX11_half ciX11_half _ [(1, 20, 4), (2, 0, 4), (1, 13, 1), (2, 4, 6), (1, 19, 1), (2, 10, 1), (4, 0, 12), (6, 0, 6)] rfl gw_wsX6_movePiece
set_option maxRecDepth 20000 in
theorem gX11_half_X6_movePiece : GoodIn wsX11_half (wsV RX11 293 RX6 yX6_movePiece wsX6_movePiece) := goodIn_app (goodIn_sl csX11_half ciX11_half _ [(1, 16, 4)] rfl rfl) ggX11_half_X6_movePiece
set_option maxRecDepth 20000 in
theorem ggX0_keepsFrom_X0_keepsFrom : GoodIn wsX0_keepsFrom wsX0_keepsFrom := goodIn_sl csX0_keepsFrom ciX0_keepsFrom _ [(0, 0, 1), (1, 0, 21), (2, 0, 5)] rfl gw_wsX0_keepsFrom
set_option maxRecDepth 20000 in
theorem gX0_keepsFrom_X0_keepsFrom : GoodIn wsX0_keepsFrom (wsV RX0 32 RX0 yX0_keepsFrom wsX0_keepsFrom) := goodIn_app (goodIn_sl csX0_keepsFrom ciX0_keepsFrom _ [(1, 8, 3), (1, 4, 1)] rfl rfl) ggX0_keepsFrom_X0_keepsFrom
noncomputable def csX5_walk : List (List Cond) := [[.code yX5_walk cX5_walk 5 none], [.fieldLink RX5 22 "SeatsRound$Orders" "pathLength" "I", .fieldLink RX5 15 "SeatsRound$Orders" "toldCount" "I", .fieldLink RX5 19 "SeatsRound$Orders" "path" "[I", .methodLink RX5 116 yX5_nextOf, .instanceMethod yX5_nextOf, .selects RX5 yX5_nextOf yX5_nextOf, .initialized RX5, .code yX5_nextOf cX5_nextOf 3 (some .int), .fieldLink RX5 30 "SeatsRound$Orders" "least" "[I", .methodLink RX5 108 yX5_sumOver, .instanceMethod yX5_sumOver, .selects RX5 yX5_sumOver yX5_sumOver, .code yX5_sumOver cX5_sumOver 6 (some .int), .fieldLink RX5 37 "SeatsRound$Orders" "nameList" "LSeatsRound$NameList;", .fieldLink RX5 90 "SeatsRound$NameList" "count" "I", .fieldLink RX5 27 "SeatsRound$Orders" "holders" "[[I", .methodLink RX5 111 yJ6_bitCount_0f7a4, .static yJ6_bitCount_0f7a4, .initialized RJ6, .code yJ6_bitCount_0f7a4 cJ6_bitCount_0f7a4 1 (some .int), .constant RJ6 265 (1431655765), .constant RJ6 266 (858993459), .constant RJ6 267 (252645135)], wsX50, wsX40]
set_option maxRecDepth 20000 in
theorem ciX5_walk : ∀ l ∈ csX5_walk, ∀ w ∈ l, w ∈ wsX5_walk := by
  unfold csX5_walk
  refine List.forall_mem_cons.mpr ⟨fun _ h => List.mem_cons.mpr (Or.inl (List.mem_singleton.mp h)), List.forall_mem_cons.mpr ⟨fun _ h => List.mem_cons_of_mem _ (List.mem_append_left _ (List.mem_append_left _ h)), List.forall_mem_cons.mpr ⟨fun _ h => List.mem_cons_of_mem _ (List.mem_append_left _ (List.mem_append_right _ h)), List.forall_mem_cons.mpr ⟨fun _ h => List.mem_cons_of_mem _ (List.mem_append_right _ h), fun l h => absurd h List.not_mem_nil⟩⟩⟩⟩
set_option maxRecDepth 20000 in
theorem ggX5_walk_X5_nextOf : GoodIn wsX5_walk wsX5_nextOf := goodIn_sl csX5_walk ciX5_walk _ [(1, 7, 1), (1, 1, 1), (1, 8, 4), (1, 6, 1), (1, 12, 11), (2, 0, 10), (3, 0, 4)] rfl gw_wsX5_nextOf
set_option maxRecDepth 20000 in
theorem gX5_walk_X5_nextOf : GoodIn wsX5_walk (wsV RX5 116 RX5 yX5_nextOf wsX5_nextOf) := goodIn_app (goodIn_sl csX5_walk ciX5_walk _ [(1, 3, 4)] rfl rfl) ggX5_walk_X5_nextOf
set_option maxRecDepth 20000 in
theorem ggX11_ofKeeper_X6_copiesOn : GoodIn wsX11_ofKeeper wsX6_copiesOn := goodIn_sl csX11_ofKeeper ciX11_ofKeeper _ [(2, 0, 4), (1, 23, 1), (2, 4, 1), (5, 0, 12)] rfl gw_wsX6_copiesOn
set_option maxRecDepth 20000 in
theorem gX11_ofKeeper_X6_copiesOn : GoodIn wsX11_ofKeeper (wsV RX11 163 RX6 yX6_copiesOn wsX6_copiesOn) := goodIn_app (goodIn_sl csX11_ofKeeper ciX11_ofKeeper _ [(1, 20, 4)] rfl rfl) ggX11_ofKeeper_X6_copiesOn
set_option maxRecDepth 20000 in
theorem ggX11_write_X11_tableAt : GoodIn wsX11_write wsX11_tableAt := goodIn_sl csX11_write ciX11_write _ [(1, 20, 3), (8, 0, 13)] rfl gw_wsX11_tableAt
set_option maxRecDepth 20000 in
theorem gX11_write_X11_tableAt : GoodIn wsX11_write (wsV RX11 192 RX11 yX11_tableAt wsX11_tableAt) := goodIn_app (goodIn_sl csX11_write ciX11_write _ [(1, 16, 4)] rfl rfl) ggX11_write_X11_tableAt
noncomputable def csX8_firstFor : List (List Cond) := [[.code yX8_firstFor cX8_firstFor 6 (some .int)], [.fieldLink RX8 24 "SeatsRound$Table" "way" "I", .fieldLink RX8 48 "SeatsRound$Table" "owner" "[B", .fieldLink RX8 51 "SeatsRound$Table" "ahead" "[S", .fieldLink RX8 9 "SeatsRound$Table" "members" "I", .methodLink RX8 99 yX8_sumOf, .instanceMethod yX8_sumOf, .selects RX8 yX8_sumOf yX8_sumOf, .initialized RX8, .code yX8_sumOf cX8_sumOf 3 (some .int), .constant RX8 86 (104729), .fieldLink RX8 15 "SeatsRound$Table" "turn" "I", .fieldLink RX8 37 "SeatsRound$Table" "weight" "[I", .static yX11_strewn, .initialized RX11, .code yX11_strewn cX11_strewn 1 (some .int), .constant RX11 423 (1103515245)], wsX80]
set_option maxRecDepth 20000 in
theorem ciX8_firstFor : ∀ l ∈ csX8_firstFor, ∀ w ∈ l, w ∈ wsX8_firstFor := by
  unfold csX8_firstFor
  refine List.forall_mem_cons.mpr ⟨fun _ h => List.mem_cons.mpr (Or.inl (List.mem_singleton.mp h)), List.forall_mem_cons.mpr ⟨fun _ h => List.mem_cons_of_mem _ (List.mem_append_left _ h), List.forall_mem_cons.mpr ⟨fun _ h => List.mem_cons_of_mem _ (List.mem_append_right _ h), fun l h => absurd h List.not_mem_nil⟩⟩⟩
set_option maxRecDepth 20000 in
theorem ggX8_firstFor_X8_sumOf : GoodIn wsX8_firstFor wsX8_sumOf := goodIn_sl csX8_firstFor ciX8_firstFor _ [(1, 8, 8), (2, 0, 13)] rfl gw_wsX8_sumOf
set_option maxRecDepth 20000 in
theorem gX8_firstFor_X8_sumOf : GoodIn wsX8_firstFor (wsV RX8 99 RX8 yX8_sumOf wsX8_sumOf) := goodIn_app (goodIn_sl csX8_firstFor ciX8_firstFor _ [(1, 4, 4)] rfl rfl) ggX8_firstFor_X8_sumOf
set_option maxRecDepth 20000 in
theorem ggX10_greatestShare_X4_placeOf : GoodIn wsX10_greatestShare wsX4_placeOf := goodIn_sl csX10_greatestShare ciX10_greatestShare _ [(1, 16, 4), (4, 0, 4)] rfl gw_wsX4_placeOf
set_option maxRecDepth 20000 in
theorem gX10_greatestShare_X4_placeOf : GoodIn wsX10_greatestShare (wsV RX10 55 RX4 yX4_placeOf wsX4_placeOf) := goodIn_app (goodIn_sl csX10_greatestShare ciX10_greatestShare _ [(1, 12, 4)] rfl rfl) ggX10_greatestShare_X4_placeOf
noncomputable def csX5_sumOver : List (List Cond) := [[.code yX5_sumOver cX5_sumOver 6 (some .int)], [.fieldLink RX5 30 "SeatsRound$Orders" "least" "[I", .fieldLink RX5 37 "SeatsRound$Orders" "nameList" "LSeatsRound$NameList;", .fieldLink RX5 90 "SeatsRound$NameList" "count" "I", .fieldLink RX5 27 "SeatsRound$Orders" "holders" "[[I", .methodLink RX5 111 yJ6_bitCount_0f7a4, .static yJ6_bitCount_0f7a4, .initialized RJ6, .code yJ6_bitCount_0f7a4 cJ6_bitCount_0f7a4 1 (some .int), .constant RJ6 265 (1431655765), .constant RJ6 266 (858993459), .constant RJ6 267 (252645135)], wsX50, wsX40]
set_option maxRecDepth 20000 in
theorem ciX5_sumOver : ∀ l ∈ csX5_sumOver, ∀ w ∈ l, w ∈ wsX5_sumOver := by
  unfold csX5_sumOver
  refine List.forall_mem_cons.mpr ⟨fun _ h => List.mem_cons.mpr (Or.inl (List.mem_singleton.mp h)), List.forall_mem_cons.mpr ⟨fun _ h => List.mem_cons_of_mem _ (List.mem_append_left _ (List.mem_append_left _ h)), List.forall_mem_cons.mpr ⟨fun _ h => List.mem_cons_of_mem _ (List.mem_append_left _ (List.mem_append_right _ h)), List.forall_mem_cons.mpr ⟨fun _ h => List.mem_cons_of_mem _ (List.mem_append_right _ h), fun l h => absurd h List.not_mem_nil⟩⟩⟩⟩
set_option maxRecDepth 20000 in
theorem ggX5_sumOver_J6_bitCount_0f7a4 : GoodIn wsX5_sumOver wsJ6_bitCount_0f7a4 := goodIn_sl csX5_sumOver ciX5_sumOver _ [(1, 7, 4)] rfl gw_wsJ6_bitCount_0f7a4
set_option maxRecDepth 20000 in
theorem gX5_sumOver_J6_bitCount_0f7a4 : GoodIn wsX5_sumOver (va_wsS RX5 111 yJ6_bitCount_0f7a4 wsJ6_bitCount_0f7a4) := goodIn_app (goodIn_sl csX5_sumOver ciX5_sumOver _ [(1, 4, 3)] rfl rfl) ggX5_sumOver_J6_bitCount_0f7a4
set_option maxRecDepth 20000 in
theorem ggX11_noon_J6_bitCount_0f7a4 : GoodIn wsX11_noon wsJ6_bitCount_0f7a4 := goodIn_sl csX11_noon ciX11_noon _ [(1, 11, 4)] rfl gw_wsJ6_bitCount_0f7a4
set_option maxRecDepth 20000 in
theorem gX11_noon_J6_bitCount_0f7a4 : GoodIn wsX11_noon (va_wsS RX11 246 yJ6_bitCount_0f7a4 wsJ6_bitCount_0f7a4) := goodIn_app (goodIn_sl csX11_noon ciX11_noon _ [(1, 8, 3)] rfl rfl) ggX11_noon_J6_bitCount_0f7a4
set_option maxRecDepth 20000 in
theorem ggX5_seatSet_X4_placeOf : GoodIn wsX5_seatSet wsX4_placeOf := goodIn_sl csX5_seatSet ciX5_seatSet _ [(7, 6, 4), (13, 0, 4)] rfl gw_wsX4_placeOf
set_option maxRecDepth 20000 in
theorem gX5_seatSet_X4_placeOf : GoodIn wsX5_seatSet (wsV RX5 95 RX4 yX4_placeOf wsX4_placeOf) := goodIn_app (goodIn_sl csX5_seatSet ciX5_seatSet _ [(7, 2, 4)] rfl rfl) ggX5_seatSet_X4_placeOf
set_option maxRecDepth 20000 in
theorem ggX11_number_X4_placeOf : GoodIn wsX11_number wsX4_placeOf := goodIn_sl csX11_number ciX11_number _ [(1, 10, 4), (3, 0, 4)] rfl gw_wsX4_placeOf
set_option maxRecDepth 20000 in
theorem gX11_number_X4_placeOf : GoodIn wsX11_number (wsV RX11 127 RX4 yX4_placeOf wsX4_placeOf) := goodIn_app (goodIn_sl csX11_number ciX11_number _ [(1, 7, 3), (1, 4, 1)] rfl rfl) ggX11_number_X4_placeOf
set_option maxRecDepth 20000 in
theorem ggX0_tellsFrom_X0_begin : GoodIn wsX0_tellsFrom wsX0_begin := goodIn_sl csX0_tellsFrom ciX0_tellsFrom _ [(1, 5, 3), (3, 0, 5)] rfl gw_wsX0_begin
set_option maxRecDepth 20000 in
theorem gX0_tellsFrom_X0_begin : GoodIn wsX0_tellsFrom (wsV RX0 41 RX0 yX0_begin wsX0_begin) := goodIn_app (goodIn_sl csX0_tellsFrom ciX0_tellsFrom _ [(1, 1, 4)] rfl rfl) ggX0_tellsFrom_X0_begin
set_option maxRecDepth 20000 in
theorem ggX3_readOperand_X3_isDigit : GoodIn wsX3_readOperand wsX3_isDigit := goodIn_sl csX3_readOperand ciX3_readOperand _ [(1, 15, 1)] rfl gw_wsX3_isDigit
set_option maxRecDepth 20000 in
theorem gX3_readOperand_X3_isDigit : GoodIn wsX3_readOperand (va_wsS RX3 106 yX3_isDigit wsX3_isDigit) := goodIn_app (goodIn_sl csX3_readOperand ciX3_readOperand _ [(1, 13, 2), (1, 9, 1)] rfl rfl) ggX3_readOperand_X3_isDigit
set_option maxRecDepth 20000 in
theorem ggX11_name_X4_add : GoodIn wsX11_name wsX4_add := goodIn_sl csX11_name ciX11_name _ [(1, 19, 1), (1, 10, 1), (1, 12, 1), (1, 20, 4), (1, 11, 1), (4, 0, 4)] rfl gw_wsX4_add
set_option maxRecDepth 20000 in
theorem gX11_name_X4_add : GoodIn wsX11_name (wsV RX11 120 RX4 yX4_add wsX4_add) := goodIn_app (goodIn_sl csX11_name ciX11_name _ [(1, 16, 3), (1, 8, 1)] rfl rfl) ggX11_name_X4_add
set_option maxRecDepth 20000 in
theorem ggX11_picked_X11_isPlace : GoodIn wsX11_picked wsX11_isPlace := goodIn_sl csX11_picked ciX11_picked _ [(1, 12, 1)] rfl gw_wsX11_isPlace
set_option maxRecDepth 20000 in
theorem gX11_picked_X11_isPlace : GoodIn wsX11_picked (va_wsS RX11 215 yX11_isPlace wsX11_isPlace) := goodIn_app (goodIn_sl csX11_picked ciX11_picked _ [(1, 10, 2), (1, 6, 1)] rfl rfl) ggX11_picked_X11_isPlace
noncomputable def csX6_copiesOn : List (List Cond) := [[.code yX6_copiesOn cX6_copiesOn 2 (some .int)], [.fieldLink RX6 11 "SeatsRound$Parcels" "version" "[[I", .methodLink RX6 141 yX6_filled, .static yX6_filled, .initialized RX6, .code yX6_filled cX6_filled 6 (some .int)], wsX60]
set_option maxRecDepth 20000 in
theorem ciX6_copiesOn : ∀ l ∈ csX6_copiesOn, ∀ w ∈ l, w ∈ wsX6_copiesOn := by
  unfold csX6_copiesOn
  refine List.forall_mem_cons.mpr ⟨fun _ h => List.mem_cons.mpr (Or.inl (List.mem_singleton.mp h)), List.forall_mem_cons.mpr ⟨fun _ h => List.mem_cons_of_mem _ (List.mem_append_left _ h), List.forall_mem_cons.mpr ⟨fun _ h => List.mem_cons_of_mem _ (List.mem_append_right _ h), fun l h => absurd h List.not_mem_nil⟩⟩⟩
set_option maxRecDepth 20000 in
theorem ggX6_copiesOn_X6_filled : GoodIn wsX6_copiesOn wsX6_filled := goodIn_sl csX6_copiesOn ciX6_copiesOn _ [(1, 4, 1)] rfl gw_wsX6_filled
set_option maxRecDepth 20000 in
theorem gX6_copiesOn_X6_filled : GoodIn wsX6_copiesOn (va_wsS RX6 141 yX6_filled wsX6_filled) := goodIn_app (goodIn_sl csX6_copiesOn ciX6_copiesOn _ [(1, 1, 3)] rfl rfl) ggX6_copiesOn_X6_filled
set_option maxRecDepth 20000 in
theorem ggX1_pickFirstFrom_X11_placeBehind : GoodIn wsX1_pickFirstFrom wsX11_placeBehind := goodIn_sl csX1_pickFirstFrom ciX1_pickFirstFrom _ [(1, 17, 1)] rfl gw_wsX11_placeBehind
set_option maxRecDepth 20000 in
theorem gX1_pickFirstFrom_X11_placeBehind_n78 : GoodIn wsX1_pickFirstFrom (wsX11_placeBehind) := ggX1_pickFirstFrom_X11_placeBehind
set_option maxRecDepth 20000 in
theorem ggX12_moves_X12_ones : GoodIn wsX12_moves wsX12_ones := goodIn_sl csX12_moves ciX12_moves _ [(4, 1, 1)] rfl gw_wsX12_ones
set_option maxRecDepth 20000 in
theorem gX12_moves_X12_ones : GoodIn wsX12_moves (va_wsS RX12 284 yX12_ones wsX12_ones) := goodIn_app (goodIn_sl csX12_moves ciX12_moves _ [(3, 23, 1), (4, 0, 1), (1, 6, 1)] rfl rfl) ggX12_moves_X12_ones
set_option maxRecDepth 20000 in
theorem ggX12_fall_X12_in : GoodIn wsX12_fall wsX12_in := goodIn_sl csX12_fall ciX12_fall _ [(1, 12, 1)] rfl gw_wsX12_in
set_option maxRecDepth 20000 in
theorem gX12_fall_X12_in : GoodIn wsX12_fall (va_wsS RX12 136 yX12_in wsX12_in) := goodIn_app (goodIn_sl csX12_fall ciX12_fall _ [(1, 10, 2), (1, 7, 1)] rfl rfl) ggX12_fall_X12_in
set_option maxRecDepth 20000 in
theorem ggX12_act_X12_in : GoodIn wsX12_act wsX12_in := goodIn_sl csX12_act ciX12_act _ [(1, 10, 1)] rfl gw_wsX12_in
set_option maxRecDepth 20000 in
theorem gX12_act_X12_in : GoodIn wsX12_act (va_wsS RX12 136 yX12_in wsX12_in) := goodIn_app (goodIn_sl csX12_act ciX12_act _ [(1, 8, 2), (1, 5, 1)] rfl rfl) ggX12_act_X12_in
end
