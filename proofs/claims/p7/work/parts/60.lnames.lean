noncomputable def RL : String := "SeatsRoundLaw"
noncomputable abbrev cL_law : ByteArray := code
noncomputable def wsL_law_r1 : List Cond := [Cond.classLink RL 7 RX11, Cond.instantiable RX11 13, Cond.initialized RX11, Cond.classLink RL 10 RX12, Cond.instantiable RX12 59, Cond.initialized RX12, Cond.constantLong RL 158 (4294967295), Cond.methodLink RL 9 yX11_init, Cond.instanceMethod yX11_init, Cond.code yX11_init cX11_init 1 none, Cond.methodLink RX11 1 objectInit, Cond.instanceMethod objectInit, Cond.code objectInit ⟨#[0xb1]⟩ 1 none, Cond.classLink RX11 7 RX9, Cond.instantiable RX9 2, Cond.initialized RX9, Cond.fieldLink RX11 10 "SeatsRound" "tape" "LSeatsRound$Tape;", Cond.classLink RX11 16 RX4, Cond.instantiable RX4 4, Cond.initialized RX4, Cond.fieldLink RX11 19 "SeatsRound" "nameList" "LSeatsRound$NameList;", Cond.classLink RX11 23 RX2, Cond.instantiable RX2 6, Cond.initialized RX2]
noncomputable def wsL_law_r2 : List Cond := [Cond.fieldLink RX11 26 "SeatsRound" "keepers" "LSeatsRound$Keepers;", Cond.classLink RX11 30 RX3, Cond.instantiable RX3 8, Cond.initialized RX3, Cond.fieldLink RX11 33 "SeatsRound" "law" "LSeatsRound$Law;", Cond.classLink RX11 37 RX1, Cond.instantiable RX1 9, Cond.initialized RX1, Cond.fieldLink RX11 42 "SeatsRound" "choice" "LSeatsRound$Choice;", Cond.classLink RX11 46 RX8, Cond.fieldLink RX11 48 "SeatsRound" "tables" "[LSeatsRound$Table;", Cond.fieldLink RX11 52 "SeatsRound" "tableCount" "I", Cond.instantiable RX8 13, Cond.initialized RX8, Cond.fieldLink RX11 57 "SeatsRound" "draft" "LSeatsRound$Table;", Cond.classLink RX11 61 RX6, Cond.instantiable RX6 12, Cond.initialized RX6, Cond.fieldLink RX11 66 "SeatsRound" "parcels" "LSeatsRound$Parcels;", Cond.classLink RX11 70 RX5, Cond.instantiable RX5 10, Cond.initialized RX5, Cond.fieldLink RX11 75 "SeatsRound" "orders" "LSeatsRound$Orders;", Cond.classLink RX11 79 RX10]
noncomputable def wsL_law_r3 : List Cond := [Cond.instantiable RX10 5, Cond.initialized RX10, Cond.fieldLink RX11 84 "SeatsRound" "turnings" "LSeatsRound$Turnings;", Cond.classLink RX11 88 RX0, Cond.instantiable RX0 5, Cond.initialized RX0, Cond.fieldLink RX11 91 "SeatsRound" "acts" "LSeatsRound$Acts;", Cond.classLink RX11 95 RX7, Cond.instantiable RX7 4, Cond.initialized RX7, Cond.fieldLink RX11 98 "SeatsRound" "rows" "LSeatsRound$Rows;", Cond.instanceMethod yX9_init, Cond.code yX9_init cX9_init 1 none, Cond.methodLink RX9 3 objectInit, Cond.arrayClass .byte, Cond.fieldLink RX9 9 "SeatsRound$Tape" "bytes" "[B", Cond.fieldLink RX9 15 "SeatsRound$Tape" "length" "I", Cond.instanceMethod yX4_init, Cond.code yX4_init cX4_init 1 none, Cond.methodLink RX4 3 objectInit, Cond.classLink RX4 9 "[[B", Cond.fieldLink RX4 11 "SeatsRound$NameList" "bytes" "[[B", Cond.arrayClass .int, Cond.fieldLink RX4 16 "SeatsRound$NameList" "size" "[I"]
noncomputable def wsL_law_r4 : List Cond := [Cond.fieldLink RX4 20 "SeatsRound$NameList" "read" "[B", Cond.fieldLink RX4 24 "SeatsRound$NameList" "count" "I", Cond.instanceMethod yX2_init, Cond.code yX2_init cX2_init 1 none, Cond.methodLink RX2 3 objectInit, Cond.fieldLink RX2 9 "SeatsRound$Keepers" "kind" "[I", Cond.fieldLink RX2 15 "SeatsRound$Keepers" "street" "[I", Cond.fieldLink RX2 18 "SeatsRound$Keepers" "strength" "[I", Cond.fieldLink RX2 21 "SeatsRound$Keepers" "table" "[I", Cond.arrayClass .boolean, Cond.fieldLink RX2 24 "SeatsRound$Keepers" "fallen" "[Z", Cond.fieldLink RX2 28 "SeatsRound$Keepers" "count" "I", Cond.instanceMethod yX3_init, Cond.code yX3_init cX3_init 1 none, Cond.methodLink RX3 3 objectInit, Cond.fieldLink RX3 9 "SeatsRound$Law" "text" "[B", Cond.fieldLink RX3 15 "SeatsRound$Law" "length" "I", Cond.fieldLink RX3 19 "SeatsRound$Law" "at" "I", Cond.fieldLink RX3 22 "SeatsRound$Law" "fault" "I", Cond.fieldLink RX3 25 "SeatsRound$Law" "members" "I", Cond.fieldLink RX3 28 "SeatsRound$Law" "streetsIn" "I", Cond.fieldLink RX3 31 "SeatsRound$Law" "weights" "I", Cond.fieldLink RX3 34 "SeatsRound$Law" "greatest" "I", Cond.methodLink RX11 39 yX1_init]
noncomputable def wsL_law_r5 : List Cond := [Cond.instanceMethod yX1_init, Cond.code yX1_init cX1_init 2 none, Cond.methodLink RX1 3 objectInit, Cond.fieldLink RX1 9 "SeatsRound$Choice" "picks" "[I", Cond.fieldLink RX1 15 "SeatsRound$Choice" "chosen" "[I", Cond.fieldLink RX1 18 "SeatsRound$Choice" "pickCount" "I", Cond.fieldLink RX1 22 "SeatsRound$Choice" "chosenCount" "I", Cond.fieldLink RX1 25 "SeatsRound$Choice" "chosenBits" "I", Cond.fieldLink RX1 28 "SeatsRound$Choice" "streetBits" "I", Cond.fieldLink RX1 31 "SeatsRound$Choice" "pickBits" "I", Cond.fieldLink RX1 34 "SeatsRound$Choice" "sums" "[I", Cond.fieldLink RX1 37 "SeatsRound$Choice" "keepers" "LSeatsRound$Keepers;", Cond.instanceMethod yX8_init, Cond.code yX8_init cX8_init 1 none, Cond.methodLink RX8 3 objectInit, Cond.fieldLink RX8 9 "SeatsRound$Table" "members" "I", Cond.fieldLink RX8 15 "SeatsRound$Table" "turn" "I", Cond.fieldLink RX8 18 "SeatsRound$Table" "copies" "I", Cond.fieldLink RX8 21 "SeatsRound$Table" "streets" "I", Cond.fieldLink RX8 24 "SeatsRound$Table" "way" "I", Cond.fieldLink RX8 27 "SeatsRound$Table" "seats" "I", Cond.fieldLink RX8 30 "SeatsRound$Table" "lawLength" "I", Cond.fieldLink RX8 33 "SeatsRound$Table" "oddsCounted" "Z", Cond.fieldLink RX8 37 "SeatsRound$Table" "weight" "[I"]
noncomputable def wsL_law_r6 : List Cond := [Cond.fieldLink RX8 41 "SeatsRound$Table" "odds" "[I", Cond.fieldLink RX8 44 "SeatsRound$Table" "law" "[B", Cond.fieldLink RX8 48 "SeatsRound$Table" "owner" "[B", Cond.arrayClass .short, Cond.fieldLink RX8 51 "SeatsRound$Table" "ahead" "[S", Cond.methodLink RX11 63 yX6_init, Cond.instanceMethod yX6_init, Cond.code yX6_init cX6_init 4 none, Cond.methodLink RX6 3 objectInit, Cond.classLink RX6 9 "[[I", Cond.fieldLink RX6 11 "SeatsRound$Parcels" "version" "[[I", Cond.fieldLink RX6 16 "SeatsRound$Parcels" "kept" "[[I", Cond.fieldLink RX6 19 "SeatsRound$Parcels" "keptFor" "[[I", Cond.fieldLink RX6 22 "SeatsRound$Parcels" "pieces" "[[I", Cond.fieldLink RX6 25 "SeatsRound$Parcels" "pieceTo" "[[I", Cond.fieldLink RX6 28 "SeatsRound$Parcels" "latest" "[I", Cond.fieldLink RX6 32 "SeatsRound$Parcels" "oneTree" "[I", Cond.fieldLink RX6 35 "SeatsRound$Parcels" "otherTree" "[I", Cond.fieldLink RX6 38 "SeatsRound$Parcels" "writings" "I", Cond.fieldLink RX6 42 "SeatsRound$Parcels" "keepers" "LSeatsRound$Keepers;", Cond.fieldLink RX6 46 "SeatsRound$Parcels" "nameList" "LSeatsRound$NameList;", Cond.fieldLink RX6 50 "SeatsRound$Parcels" "choice" "LSeatsRound$Choice;", Cond.methodLink RX11 72 yX5_init, Cond.instanceMethod yX5_init]
noncomputable def wsL_law_r7 : List Cond := [Cond.code yX5_init cX5_init 5 none, Cond.methodLink RX5 3 objectInit, Cond.fieldLink RX5 9 "SeatsRound$Orders" "told" "[I", Cond.fieldLink RX5 15 "SeatsRound$Orders" "toldCount" "I", Cond.fieldLink RX5 19 "SeatsRound$Orders" "path" "[I", Cond.fieldLink RX5 22 "SeatsRound$Orders" "pathLength" "I", Cond.classLink RX5 25 "[[I", Cond.fieldLink RX5 27 "SeatsRound$Orders" "holders" "[[I", Cond.fieldLink RX5 30 "SeatsRound$Orders" "least" "[I", Cond.fieldLink RX5 33 "SeatsRound$Orders" "keepers" "LSeatsRound$Keepers;", Cond.fieldLink RX5 37 "SeatsRound$Orders" "nameList" "LSeatsRound$NameList;", Cond.fieldLink RX5 41 "SeatsRound$Orders" "choice" "LSeatsRound$Choice;", Cond.fieldLink RX5 45 "SeatsRound$Orders" "law" "LSeatsRound$Law;", Cond.methodLink RX11 81 yX10_init, Cond.instanceMethod yX10_init, Cond.code yX10_init cX10_init 2 none, Cond.methodLink RX10 3 objectInit, Cond.fieldLink RX10 9 "SeatsRound$Turnings" "told" "[I", Cond.fieldLink RX10 15 "SeatsRound$Turnings" "count" "I", Cond.fieldLink RX10 19 "SeatsRound$Turnings" "greatest" "I", Cond.fieldLink RX10 22 "SeatsRound$Turnings" "shares" "[I", Cond.fieldLink RX10 25 "SeatsRound$Turnings" "nameList" "LSeatsRound$NameList;", Cond.instanceMethod yX0_init, Cond.code yX0_init cX0_init 1 none]
noncomputable def wsL_law_r8 : List Cond := [Cond.methodLink RX0 3 objectInit, Cond.fieldLink RX0 9 "SeatsRound$Acts" "bodies" "[I", Cond.fieldLink RX0 15 "SeatsRound$Acts" "ran" "I", Cond.fieldLink RX0 19 "SeatsRound$Acts" "own" "I", Cond.fieldLink RX0 22 "SeatsRound$Acts" "number" "I", Cond.fieldLink RX0 25 "SeatsRound$Acts" "strength" "I", Cond.methodLink RX11 97 yX7_init, Cond.instanceMethod yX7_init, Cond.code yX7_init cX7_init 1 none, Cond.methodLink RX7 3 objectInit, Cond.fieldLink RX7 9 "SeatsRound$Rows" "keeper" "[I", Cond.fieldLink RX7 15 "SeatsRound$Rows" "sort" "[I", Cond.fieldLink RX7 18 "SeatsRound$Rows" "length" "[I", Cond.classLink RX7 21 "[[J", Cond.arrayClass .long, Cond.fieldLink RX7 23 "SeatsRound$Rows" "elements" "[[J", Cond.methodLink RX7 26 yJ7_fill_53178, Cond.static yJ7_fill_53178, Cond.initialized RJ7, Cond.code yJ7_fill_53178 cJ7_fill_53178 4 none, Cond.methodLink RL 12 yX12_init, Cond.instanceMethod yX12_init, Cond.code yX12_init cX12_init 2 none, Cond.methodLink RX12 1 objectInit]
noncomputable def wsL_law_r9 : List Cond := [Cond.fieldLink RX12 7 "SeatsRoundModel" "nameSize" "[I", Cond.fieldLink RX12 13 "SeatsRoundModel" "nameByte" "[I", Cond.fieldLink RX12 16 "SeatsRoundModel" "street" "[I", Cond.fieldLink RX12 19 "SeatsRoundModel" "strength" "[I", Cond.fieldLink RX12 22 "SeatsRoundModel" "kind" "[I", Cond.fieldLink RX12 25 "SeatsRoundModel" "known" "[I", Cond.fieldLink RX12 28 "SeatsRoundModel" "isFallen" "[Z", Cond.fieldLink RX12 32 "SeatsRoundModel" "tableOf" "[I", Cond.fieldLink RX12 35 "SeatsRoundModel" "tableZ" "[I", Cond.fieldLink RX12 38 "SeatsRoundModel" "copies" "[I", Cond.fieldLink RX12 41 "SeatsRoundModel" "streets" "[I", Cond.fieldLink RX12 44 "SeatsRoundModel" "picks" "[I", Cond.fieldLink RX12 47 "SeatsRoundModel" "lawSize" "[I", Cond.fieldLink RX12 50 "SeatsRoundModel" "lawByte" "[I", Cond.fieldLink RX12 53 "SeatsRoundModel" "counts" "[I", Cond.fieldLink RX12 56 "SeatsRoundModel" "streetIn" "[I", Cond.fieldLink RX12 59 "SeatsRoundModel" "seatMany" "[I", Cond.fieldLink RX12 62 "SeatsRoundModel" "seats" "[I", Cond.fieldLink RX12 65 "SeatsRoundModel" "tape" "[I", Cond.fieldLink RX12 68 "SeatsRoundModel" "version" "[I", Cond.fieldLink RX12 71 "SeatsRoundModel" "kept" "[I", Cond.fieldLink RX12 74 "SeatsRoundModel" "keptFor" "[I", Cond.fieldLink RX12 77 "SeatsRoundModel" "pieces" "[I", Cond.fieldLink RX12 80 "SeatsRoundModel" "piecesTo" "[I"]
noncomputable def wsL_law_r10 : List Cond := [Cond.fieldLink RX12 83 "SeatsRoundModel" "written" "[I", Cond.fieldLink RX12 86 "SeatsRoundModel" "comer" "[I", Cond.fieldLink RX12 89 "SeatsRoundModel" "orderTold" "[I", Cond.fieldLink RX12 92 "SeatsRoundModel" "turning" "[I", Cond.fieldLink RX12 95 "SeatsRoundModel" "harmShare" "I", Cond.fieldLink RX12 99 "SeatsRoundModel" "trace" "[I", Cond.fieldLink RX12 102 "SeatsRoundModel" "shelfIs" "[I", Cond.fieldLink RX12 105 "SeatsRoundModel" "shelfSort" "[I", Cond.fieldLink RX12 108 "SeatsRoundModel" "shelfSize" "[I", Cond.fieldLink RX12 111 "SeatsRoundModel" "elements" "[J", Cond.fieldLink RX12 115 "SeatsRoundModel" "told" "[I", Cond.fieldLink RX12 118 "SeatsRoundModel" "picked" "[I", Cond.fieldLink RX12 121 "SeatsRoundModel" "chosen" "[I", Cond.fieldLink RX12 124 "SeatsRoundModel" "odds" "[I", Cond.fieldLink RX12 127 "SeatsRoundModel" "keepsBy" "[I", Cond.fieldLink RX12 130 "SeatsRoundModel" "tried" "[I", Cond.methodLink RL 13 yX11_feed, Cond.instanceMethod yX11_feed, Cond.selects RX11 yX11_feed yX11_feed, Cond.code yX11_feed cX11_feed 3 (some .int), Cond.fieldLink RX11 102 "SeatsRound$Tape" "length" "I", Cond.methodLink RX11 105 yX9_append, Cond.instanceMethod yX9_append, Cond.selects RX9 yX9_append yX9_append]
noncomputable def wsL_law_r11 : List Cond := [Cond.code yX9_append cX9_append 4 none, Cond.methodLink RL 17 yX12_feed, Cond.instanceMethod yX12_feed, Cond.selects RX12 yX12_feed yX12_feed, Cond.code yX12_feed cX12_feed 4 (some .int), Cond.fieldLink RX12 146 "SeatsRoundModel" "taped" "I", Cond.methodLink RX12 136 yX12_in, Cond.static yX12_in, Cond.code yX12_in cX12_in 3 (some .boolean), Cond.methodLink RL 18 yX11_name, Cond.instanceMethod yX11_name, Cond.selects RX11 yX11_name yX11_name, Cond.code yX11_name cX11_name 2 (some .int), Cond.fieldLink RX11 109 "SeatsRound$Tape" "bytes" "[B", Cond.fieldLink RX11 117 "SeatsRound$NameList" "count" "I", Cond.methodLink RX11 113 yX4_find, Cond.instanceMethod yX4_find, Cond.selects RX4 yX4_find yX4_find, Cond.code yX4_find cX4_find 5 (some .int), Cond.methodLink RX4 28 yX4_isAlike, Cond.static yX4_isAlike, Cond.code yX4_isAlike cX4_isAlike 5 (some .boolean), Cond.methodLink RX11 120 yX4_add, Cond.instanceMethod yX4_add]
noncomputable def wsL_law_r12 : List Cond := [Cond.selects RX4 yX4_add yX4_add, Cond.code yX4_add cX4_add 4 (some .int), Cond.methodLink RX4 32 arraycopyName, Cond.native arraycopyName, Cond.static arraycopyName, Cond.initialized "java/lang/System", Cond.methodLink RL 22 yX12_name, Cond.instanceMethod yX12_name, Cond.selects RX12 yX12_name yX12_name, Cond.code yX12_name cX12_name 2 (some .int), Cond.fieldLink RX12 133 "SeatsRoundModel" "names" "I", Cond.methodLink RX12 149 yX12_found, Cond.instanceMethod yX12_found, Cond.selects RX12 yX12_found yX12_found, Cond.code yX12_found cX12_found 5 (some .int), Cond.methodLink RX12 153 yX12_comesName, Cond.instanceMethod yX12_comesName, Cond.selects RX12 yX12_comesName yX12_comesName, Cond.code yX12_comesName cX12_comesName 3 none, Cond.methodLink RL 23 yX11_number, Cond.instanceMethod yX11_number, Cond.selects RX11 yX11_number yX11_number, Cond.code yX11_number cX11_number 3 (some .int), Cond.methodLink RX11 123 yX4_has]
noncomputable def wsL_law_r13 : List Cond := [Cond.instanceMethod yX4_has, Cond.selects RX4 yX4_has yX4_has, Cond.code yX4_has cX4_has 2 (some .boolean), Cond.methodLink RX11 127 yX4_placeOf, Cond.instanceMethod yX4_placeOf, Cond.selects RX4 yX4_placeOf yX4_placeOf, Cond.code yX4_placeOf cX4_placeOf 5 (some .int), Cond.constant RX4 38 (16777619), Cond.methodLink RL 26 yX12_number, Cond.instanceMethod yX12_number, Cond.selects RX12 yX12_number yX12_number, Cond.code yX12_number cX12_number 3 (some .int), Cond.methodLink RX12 158 yX12_isName, Cond.instanceMethod yX12_isName, Cond.selects RX12 yX12_isName yX12_isName, Cond.code yX12_isName cX12_isName 2 (some .boolean), Cond.methodLink RX12 162 yX12_numberOf, Cond.instanceMethod yX12_numberOf, Cond.selects RX12 yX12_numberOf yX12_numberOf, Cond.code yX12_numberOf cX12_numberOf 5 (some .int), Cond.constant RX12 157 (16777619), Cond.methodLink RL 27 yX11_keeper, Cond.instanceMethod yX11_keeper, Cond.selects RX11 yX11_keeper yX11_keeper]
noncomputable def wsL_law_r14 : List Cond := [Cond.code yX11_keeper cX11_keeper 3 (some .int), Cond.fieldLink RX11 134 "SeatsRound$Keepers" "count" "I", Cond.methodLink RX11 131 yX11_isStrength, Cond.static yX11_isStrength, Cond.code yX11_isStrength cX11_isStrength 1 (some .boolean), Cond.methodLink RX11 135 yX2_add, Cond.instanceMethod yX2_add, Cond.selects RX2 yX2_add yX2_add, Cond.code yX2_add cX2_add 3 (some .int), Cond.methodLink RL 30 yX12_keeper, Cond.instanceMethod yX12_keeper, Cond.selects RX12 yX12_keeper yX12_keeper, Cond.code yX12_keeper cX12_keeper 3 (some .int), Cond.fieldLink RX12 140 "SeatsRoundModel" "keepers" "I", Cond.methodLink RL 31 yX11_become, Cond.instanceMethod yX11_become, Cond.selects RX11 yX11_become yX11_become, Cond.code yX11_become cX11_become 4 (some .int), Cond.fieldLink RX11 141 "SeatsRound$Keepers" "kind" "[I", Cond.methodLink RX11 137 yX2_has, Cond.instanceMethod yX2_has, Cond.selects RX2 yX2_has yX2_has, Cond.code yX2_has cX2_has 2 (some .boolean), Cond.methodLink RX11 138 yX11_isKind]
noncomputable def wsL_law_r15 : List Cond := [Cond.static yX11_isKind, Cond.code yX11_isKind cX11_isKind 1 (some .boolean), Cond.methodLink RX11 145 yX6_handBack, Cond.instanceMethod yX6_handBack, Cond.selects RX6 yX6_handBack yX6_handBack, Cond.code yX6_handBack cX6_handBack 4 none, Cond.fieldLink RX6 120 "SeatsRound$Keepers" "count" "I", Cond.fieldLink RX6 123 "SeatsRound$NameList" "count" "I", Cond.methodLink RX6 100 yX6_takesGreater, Cond.instanceMethod yX6_takesGreater, Cond.selects RX6 yX6_takesGreater yX6_takesGreater, Cond.code yX6_takesGreater cX6_takesGreater 4 (some .boolean), Cond.methodLink RL 34 yX12_become, Cond.instanceMethod yX12_become, Cond.selects RX12 yX12_become yX12_become, Cond.code yX12_become cX12_become 6 (some .int), Cond.methodLink RX12 166 yX12_isKeeper, Cond.instanceMethod yX12_isKeeper, Cond.selects RX12 yX12_isKeeper yX12_isKeeper, Cond.code yX12_isKeeper cX12_isKeeper 2 (some .boolean), Cond.methodLink RL 35 yX11_strength, Cond.instanceMethod yX11_strength, Cond.selects RX11 yX11_strength yX11_strength, Cond.code yX11_strength cX11_strength 4 (some .int)]
noncomputable def wsL_law_r16 : List Cond := [Cond.fieldLink RX11 149 "SeatsRound$Keepers" "strength" "[I", Cond.methodLink RL 38 yX12_strength, Cond.instanceMethod yX12_strength, Cond.selects RX12 yX12_strength yX12_strength, Cond.code yX12_strength cX12_strength 4 (some .int), Cond.methodLink RL 39 yX11_ofKeeper, Cond.instanceMethod yX11_ofKeeper, Cond.selects RX11 yX11_ofKeeper yX11_ofKeeper, Cond.code yX11_ofKeeper cX11_ofKeeper 3 (some .int), Cond.constant RX11 152 (-2000000000), Cond.fieldLink RX11 153 "SeatsRound$Keepers" "street" "[I", Cond.fieldLink RX11 160 "SeatsRound$Keepers" "table" "[I", Cond.fieldLink RX11 169 "SeatsRound$Keepers" "fallen" "[Z", Cond.methodLink RX11 156 yX2_counting, Cond.instanceMethod yX2_counting, Cond.selects RX2 yX2_counting yX2_counting, Cond.code yX2_counting cX2_counting 3 (some .int), Cond.methodLink RX11 163 yX6_copiesOn, Cond.instanceMethod yX6_copiesOn, Cond.selects RX6 yX6_copiesOn yX6_copiesOn, Cond.code yX6_copiesOn cX6_copiesOn 2 (some .int), Cond.methodLink RX6 141 yX6_filled, Cond.static yX6_filled, Cond.code yX6_filled cX6_filled 6 (some .int)]
noncomputable def wsL_law_r17 : List Cond := [Cond.methodLink RX11 166 yX6_keptBy, Cond.instanceMethod yX6_keptBy, Cond.selects RX6 yX6_keptBy yX6_keptBy, Cond.code yX6_keptBy cX6_keptBy 2 (some .int), Cond.methodLink RL 42 yX12_ofKeeper, Cond.instanceMethod yX12_ofKeeper, Cond.selects RX12 yX12_ofKeeper yX12_ofKeeper, Cond.code yX12_ofKeeper cX12_ofKeeper 3 (some .int), Cond.constant RX12 169 (-2000000000), Cond.methodLink RX12 170 yX12_countsNow, Cond.instanceMethod yX12_countsNow, Cond.selects RX12 yX12_countsNow yX12_countsNow, Cond.code yX12_countsNow cX12_countsNow 2 (some .int), Cond.methodLink RX12 173 yX12_many, Cond.instanceMethod yX12_many, Cond.selects RX12 yX12_many yX12_many, Cond.code yX12_many cX12_many 5 (some .int), Cond.methodLink RL 43 yX11_table, Cond.instanceMethod yX11_table, Cond.selects RX11 yX11_table yX11_table, Cond.code yX11_table cX11_table 6 (some .int), Cond.methodLink RX11 173 yX8_takeMembers, Cond.instanceMethod yX8_takeMembers, Cond.selects RX8 yX8_takeMembers yX8_takeMembers]
noncomputable def wsL_law_r18 : List Cond := [Cond.code yX8_takeMembers cX8_takeMembers 4 none, Cond.methodLink RX8 55 yX2_counting, Cond.methodLink RX11 177 yX8_takeLaw, Cond.instanceMethod yX8_takeLaw, Cond.selects RX8 yX8_takeLaw yX8_takeLaw, Cond.code yX8_takeLaw cX8_takeLaw 3 none, Cond.methodLink RX8 61 Lib.Math.min.name, Cond.static Lib.Math.min.name, Cond.initialized "java/lang/Math", Cond.code Lib.Math.min.name Lib.Math.min.code 2 (some .int), Cond.methodLink RX8 67 Lib.Math.max.name, Cond.static Lib.Math.max.name, Cond.code Lib.Math.max.name Lib.Math.max.code 2 (some .int), Cond.methodLink RX8 70 arraycopyName, Cond.methodLink RX11 181 yX3_workOut, Cond.instanceMethod yX3_workOut, Cond.selects RX3 yX3_workOut yX3_workOut, Cond.code yX3_workOut cX3_workOut 5 (some .int), Cond.fieldLink RX3 37 "SeatsRound$Table" "law" "[B", Cond.fieldLink RX3 42 "SeatsRound$Table" "lawLength" "I", Cond.fieldLink RX3 49 "SeatsRound$Table" "copies" "I", Cond.fieldLink RX3 52 "SeatsRound$Table" "streets" "I", Cond.fieldLink RX3 55 "SeatsRound$Table" "way" "I", Cond.methodLink RX3 45 yX3_look]
noncomputable def wsL_law_r19 : List Cond := [Cond.instanceMethod yX3_look, Cond.selects RX3 yX3_look yX3_look, Cond.code yX3_look cX3_look 5 none, Cond.fieldLink RX3 66 "SeatsRound$Table" "members" "I", Cond.fieldLink RX3 73 "SeatsRound$Keepers" "street" "[I", Cond.fieldLink RX3 79 "SeatsRound$Table" "weight" "[I", Cond.methodLink RX3 82 Lib.Math.max.name, Cond.methodLink RX3 67 yJ6_bitCount_0f7a4, Cond.static yJ6_bitCount_0f7a4, Cond.initialized RJ6, Cond.code yJ6_bitCount_0f7a4 cJ6_bitCount_0f7a4 1 (some .int), Cond.constant RJ6 265 (1431655765), Cond.constant RJ6 266 (858993459), Cond.constant RJ6 267 (252645135), Cond.methodLink RX3 58 yX3_readPart, Cond.instanceMethod yX3_readPart, Cond.selects RX3 yX3_readPart yX3_readPart, Cond.code yX3_readPart cX3_readPart 5 (some .int), Cond.methodLink RX3 62 yX3_sign, Cond.instanceMethod yX3_sign, Cond.selects RX3 yX3_sign yX3_sign, Cond.code yX3_sign cX3_sign 1 (some .int), Cond.methodLink RX3 88 yX3_readSum, Cond.instanceMethod yX3_readSum]
noncomputable def wsL_law_r20 : List Cond := [Cond.selects RX3 yX3_readSum yX3_readSum, Cond.code yX3_readSum cX3_readSum 6 (some .int), Cond.methodLink RX3 100 yX3_readProduct, Cond.instanceMethod yX3_readProduct, Cond.selects RX3 yX3_readProduct yX3_readProduct, Cond.code yX3_readBracket cX3_readBracket 3 (some .int), Cond.code yX3_readOperand cX3_readOperand 4 (some .int), Cond.methodLink RX3 106 yX3_isDigit, Cond.static yX3_isDigit, Cond.code yX3_isDigit cX3_isDigit 1 (some .boolean), Cond.methodLink RX3 110 yX3_readNumber, Cond.instanceMethod yX3_readNumber, Cond.selects RX3 yX3_readNumber yX3_readNumber, Cond.code yX3_readNumber cX3_readNumber 3 (some .int), Cond.methodLink RX3 113 yX3_readBracket, Cond.instanceMethod yX3_readBracket, Cond.selects RX3 yX3_readBracket yX3_readBracket, Cond.code yX3_readProduct cX3_readProduct 6 (some .int), Cond.methodLink RX3 103 yX3_readOperand, Cond.instanceMethod yX3_readOperand, Cond.selects RX3 yX3_readOperand yX3_readOperand, Cond.methodLink RX3 91 yX3_heldWithin, Cond.static yX3_heldWithin, Cond.code yX3_heldWithin cX3_heldWithin 1 (some .int)]
noncomputable def wsL_law_r21 : List Cond := [Cond.methodLink RX3 97 Lib.Math.min.name, Cond.methodLink RX3 94 yX3_readWay, Cond.instanceMethod yX3_readWay, Cond.selects RX3 yX3_readWay yX3_readWay, Cond.code yX3_readWay cX3_readWay 2 (some .int), Cond.methodLink RX11 185 yX8_takeAll, Cond.instanceMethod yX8_takeAll, Cond.selects RX8 yX8_takeAll yX8_takeAll, Cond.code yX8_takeAll cX8_takeAll 2 none, Cond.methodLink RX8 76 yX8_takeLaw, Cond.methodLink RX11 189 yX8_seatAll, Cond.instanceMethod yX8_seatAll, Cond.selects RX8 yX8_seatAll yX8_seatAll, Cond.code yX8_seatAll cX8_seatAll 4 none, Cond.constant RX8 86 (104729), Cond.methodLink RX8 80 yJ7_fill_031fb, Cond.static yJ7_fill_031fb, Cond.code yJ7_fill_031fb cJ7_fill_031fb 4 none, Cond.static yX11_strewn, Cond.code yX11_strewn cX11_strewn 1 (some .int), Cond.constant RX11 423 (1103515245), Cond.methodLink RX8 90 yX8_freeFrom, Cond.instanceMethod yX8_freeFrom, Cond.selects RX8 yX8_freeFrom yX8_freeFrom]
noncomputable def wsL_law_r22 : List Cond := [Cond.code yX8_freeFrom cX8_freeFrom 4 (some .int), Cond.static yX11_placeBehind, Cond.code yX11_placeBehind cX11_placeBehind 1 (some .int), Cond.methodLink RX8 93 yX8_linkPlaces, Cond.instanceMethod yX8_linkPlaces, Cond.selects RX8 yX8_linkPlaces yX8_linkPlaces, Cond.code yX8_linkPlaces cX8_linkPlaces 4 none, Cond.methodLink RL 46 yX12_table, Cond.instanceMethod yX12_table, Cond.selects RX12 yX12_table yX12_table, Cond.code yX12_table cX12_table 5 (some .int), Cond.fieldLink RX12 143 "SeatsRoundModel" "tables" "I", Cond.methodLink RX12 231 yX12_numbers, Cond.instanceMethod yX12_numbers, Cond.selects RX12 yX12_numbers yX12_numbers, Cond.code yX12_numbers cX12_numbers 5 none, Cond.fieldLink RX12 206 "SeatsRoundModel" "nowN" "I", Cond.fieldLink RX12 209 "SeatsRoundModel" "nowU" "I", Cond.fieldLink RX12 212 "SeatsRoundModel" "nowT" "I", Cond.fieldLink RX12 215 "SeatsRoundModel" "nowX" "I", Cond.methodLink RX12 223 yX12_isIn, Cond.instanceMethod yX12_isIn, Cond.selects RX12 yX12_isIn yX12_isIn, Cond.code yX12_isIn cX12_isIn 3 (some .boolean)]
noncomputable def wsL_law_r23 : List Cond := [Cond.methodLink RX12 234 yX12_reads, Cond.instanceMethod yX12_reads, Cond.selects RX12 yX12_reads yX12_reads, Cond.code yX12_reads cX12_reads 7 (some .int), Cond.fieldLink RX12 180 "SeatsRoundModel" "lawTable" "I", Cond.fieldLink RX12 177 "SeatsRoundModel" "at" "I", Cond.fieldLink RX12 197 "SeatsRoundModel" "opens" "I", Cond.fieldLink RX12 183 "SeatsRoundModel" "isFaulty" "Z", Cond.methodLink RX12 187 yX12_here, Cond.instanceMethod yX12_here, Cond.selects RX12 yX12_here yX12_here, Cond.code yX12_here cX12_here 1 (some .int), Cond.methodLink RX12 203 yX12_eats, Cond.instanceMethod yX12_eats, Cond.selects RX12 yX12_eats yX12_eats, Cond.code yX12_eats cX12_eats 2 none, Cond.methodLink RX12 200 yX12_sum, Cond.instanceMethod yX12_sum, Cond.selects RX12 yX12_sum yX12_sum, Cond.code yX12_sum cX12_sum 4 (some .int), Cond.methodLink RX12 191 yX12_product, Cond.instanceMethod yX12_product, Cond.selects RX12 yX12_product yX12_product, Cond.code yX12_one cX12_one 4 (some .int)]
noncomputable def wsL_law_r24 : List Cond := [Cond.code yX12_product cX12_product 4 (some .int), Cond.methodLink RX12 194 yX12_one, Cond.instanceMethod yX12_one, Cond.selects RX12 yX12_one yX12_one, Cond.methodLink RX12 218 yX12_held, Cond.static yX12_held, Cond.code yX12_held cX12_held 1 (some .int), Cond.methodLink RX12 237 yX12_sits, Cond.instanceMethod yX12_sits, Cond.selects RX12 yX12_sits yX12_sits, Cond.code yX12_sits cX12_sits 6 none, Cond.methodLink RX12 227 yX12_mixed, Cond.static yX12_mixed, Cond.code yX12_mixed cX12_mixed 3 (some .int), Cond.constant RX12 221 (104729), Cond.constant RX12 222 (1103515245), Cond.methodLink RL 47 yX11_ofTable, Cond.instanceMethod yX11_ofTable, Cond.selects RX11 yX11_ofTable yX11_ofTable, Cond.code yX11_ofTable cX11_ofTable 4 (some .int), Cond.fieldLink RX11 196 "SeatsRound$Table" "members" "I", Cond.fieldLink RX11 199 "SeatsRound$Table" "seats" "I", Cond.fieldLink RX11 202 "SeatsRound$Table" "copies" "I", Cond.fieldLink RX11 205 "SeatsRound$Table" "streets" "I"]
noncomputable def wsL_law_r25 : List Cond := [Cond.fieldLink RX11 208 "SeatsRound$Table" "way" "I", Cond.methodLink RX11 192 yX11_tableAt, Cond.instanceMethod yX11_tableAt, Cond.selects RX11 yX11_tableAt yX11_tableAt, Cond.code yX11_tableAt cX11_tableAt 2 (some (.object "SeatsRound$Table")), Cond.methodLink RX11 211 yX8_unevenness, Cond.instanceMethod yX8_unevenness, Cond.selects RX8 yX8_unevenness yX8_unevenness, Cond.code yX8_unevenness cX8_unevenness 4 (some .int), Cond.methodLink RX8 108 yX8_countOdds, Cond.instanceMethod yX8_countOdds, Cond.selects RX8 yX8_countOdds yX8_countOdds, Cond.code yX8_countOdds cX8_countOdds 3 none, Cond.methodLink RX8 102 yJ7_fill_53178, Cond.methodLink RX8 105 yX8_firstFor, Cond.instanceMethod yX8_firstFor, Cond.selects RX8 yX8_firstFor yX8_firstFor, Cond.code yX8_firstFor cX8_firstFor 6 (some .int), Cond.methodLink RX8 99 yX8_sumOf, Cond.instanceMethod yX8_sumOf, Cond.selects RX8 yX8_sumOf yX8_sumOf, Cond.code yX8_sumOf cX8_sumOf 3 (some .int), Cond.methodLink RL 50 yX12_ofTable, Cond.instanceMethod yX12_ofTable]
noncomputable def wsL_law_r26 : List Cond := [Cond.selects RX12 yX12_ofTable yX12_ofTable, Cond.code yX12_ofTable cX12_ofTable 3 (some .int), Cond.methodLink RX12 266 yX12_isTable, Cond.instanceMethod yX12_isTable, Cond.selects RX12 yX12_isTable yX12_isTable, Cond.code yX12_isTable cX12_isTable 2 (some .boolean), Cond.methodLink RX12 278 yX12_even, Cond.instanceMethod yX12_even, Cond.selects RX12 yX12_even yX12_even, Cond.code yX12_even cX12_even 5 (some .int), Cond.methodLink RX12 275 yX12_findOdds, Cond.instanceMethod yX12_findOdds, Cond.selects RX12 yX12_findOdds yX12_findOdds, Cond.code yX12_findOdds cX12_findOdds 3 none, Cond.methodLink RX12 253 yX12_pick, Cond.instanceMethod yX12_pick, Cond.selects RX12 yX12_pick yX12_pick, Cond.code yX12_pick cX12_pick 5 none, Cond.fieldLink RX12 240 "SeatsRoundModel" "pickedMany" "I", Cond.methodLink RX12 243 yX12_pickBest, Cond.instanceMethod yX12_pickBest, Cond.selects RX12 yX12_pickBest yX12_pickBest, Cond.code yX12_pickBest cX12_pickBest 8 none, Cond.methodLink RX12 247 yX12_pickNext]
noncomputable def wsL_law_r27 : List Cond := [Cond.instanceMethod yX12_pickNext, Cond.selects RX12 yX12_pickNext yX12_pickNext, Cond.code yX12_pickNext cX12_pickNext 5 none, Cond.methodLink RL 51 yX11_seat, Cond.instanceMethod yX11_seat, Cond.selects RX11 yX11_seat yX11_seat, Cond.code yX11_seat cX11_seat 4 (some .int), Cond.fieldLink RX11 218 "SeatsRound$Table" "owner" "[B", Cond.methodLink RX11 215 yX11_isPlace, Cond.static yX11_isPlace, Cond.code yX11_isPlace cX11_isPlace 1 (some .boolean), Cond.methodLink RL 54 yX12_seat, Cond.instanceMethod yX12_seat, Cond.selects RX12 yX12_seat yX12_seat, Cond.code yX12_seat cX12_seat 3 (some .int), Cond.methodLink RL 55 yX11_picked, Cond.instanceMethod yX11_picked, Cond.selects RX11 yX11_picked yX11_picked, Cond.code yX11_picked cX11_picked 5 (some .int), Cond.fieldLink RX11 225 "SeatsRound$Choice" "pickCount" "I", Cond.fieldLink RX11 228 "SeatsRound$Choice" "picks" "[I", Cond.methodLink RX11 221 yX1_pick, Cond.instanceMethod yX1_pick, Cond.selects RX1 yX1_pick yX1_pick]
noncomputable def wsL_law_r28 : List Cond := [Cond.code yX1_pick cX1_pick 3 none, Cond.fieldLink RX1 41 "SeatsRound$Table" "way" "I", Cond.methodLink RX1 46 yX1_pickBySums, Cond.instanceMethod yX1_pickBySums, Cond.selects RX1 yX1_pickBySums yX1_pickBySums, Cond.code yX1_pickBySums cX1_pickBySums 7 none, Cond.fieldLink RX1 59 "SeatsRound$Table" "members" "I", Cond.methodLink RX1 85 yX8_sumOf, Cond.methodLink RX1 50 yX1_pickByJumps, Cond.instanceMethod yX1_pickByJumps, Cond.selects RX1 yX1_pickByJumps yX1_pickByJumps, Cond.code yX1_pickByJumps cX1_pickByJumps 4 none, Cond.methodLink RX1 82 yX1_pickFirstFrom, Cond.instanceMethod yX1_pickFirstFrom, Cond.selects RX1 yX1_pickFirstFrom yX1_pickFirstFrom, Cond.code yX1_pickFirstFrom cX1_pickFirstFrom 5 none, Cond.fieldLink RX1 56 "SeatsRound$Table" "seats" "I", Cond.fieldLink RX1 62 "SeatsRound$Table" "ahead" "[S", Cond.fieldLink RX1 66 "SeatsRound$Table" "owner" "[B", Cond.methodLink RX1 70 yX1_isPicked, Cond.instanceMethod yX1_isPicked, Cond.selects RX1 yX1_isPicked yX1_isPicked, Cond.code yX1_isPicked cX1_isPicked 2 (some .boolean), Cond.methodLink RX1 74 yX1_takePick]
noncomputable def wsL_law_r29 : List Cond := [Cond.instanceMethod yX1_takePick, Cond.selects RX1 yX1_takePick yX1_takePick, Cond.code yX1_takePick cX1_takePick 2 none, Cond.methodLink RX1 53 yX1_pickRound, Cond.instanceMethod yX1_pickRound, Cond.selects RX1 yX1_pickRound yX1_pickRound, Cond.code yX1_pickRound cX1_pickRound 5 none, Cond.methodLink RL 59 yX12_picked, Cond.instanceMethod yX12_picked, Cond.selects RX12 yX12_picked yX12_picked, Cond.code yX12_picked cX12_picked 4 (some .int), Cond.methodLink RL 60 yX11_keeperOf, Cond.instanceMethod yX11_keeperOf, Cond.selects RX11 yX11_keeperOf yX11_keeperOf, Cond.code yX11_keeperOf cX11_keeperOf 5 (some .int), Cond.fieldLink RX11 231 "SeatsRound$Table" "turn" "I", Cond.fieldLink RX11 237 "SeatsRound$Choice" "chosenCount" "I", Cond.fieldLink RX11 240 "SeatsRound$Choice" "chosen" "[I", Cond.methodLink RX11 234 yX1_choose, Cond.instanceMethod yX1_choose, Cond.selects RX1 yX1_choose yX1_choose, Cond.code yX1_choose cX1_choose 4 none, Cond.fieldLink RX1 92 "SeatsRound$Table" "copies" "I", Cond.fieldLink RX1 95 "SeatsRound$Table" "streets" "I"]
noncomputable def wsL_law_r30 : List Cond := [Cond.methodLink RX1 98 Lib.Math.min.name, Cond.fieldLink RX1 103 "SeatsRound$Keepers" "street" "[I", Cond.methodLink RX1 89 yX1_pick, Cond.methodLink RX1 108 yX1_takeChosen, Cond.instanceMethod yX1_takeChosen, Cond.selects RX1 yX1_takeChosen yX1_takeChosen, Cond.code yX1_takeChosen cX1_takeChosen 2 none, Cond.methodLink RX1 111 yX1_isChosen, Cond.instanceMethod yX1_isChosen, Cond.selects RX1 yX1_isChosen yX1_isChosen, Cond.code yX1_isChosen cX1_isChosen 2 (some .boolean), Cond.methodLink RL 63 yX12_keeperOf, Cond.instanceMethod yX12_keeperOf, Cond.selects RX12 yX12_keeperOf yX12_keeperOf, Cond.code yX12_keeperOf cX12_keeperOf 4 (some .int), Cond.fieldLink RX12 250 "SeatsRoundModel" "chosenMany" "I", Cond.methodLink RX12 269 yX12_chooseName, Cond.instanceMethod yX12_chooseName, Cond.selects RX12 yX12_chooseName yX12_chooseName, Cond.code yX12_chooseName cX12_chooseName 3 none, Cond.methodLink RX12 263 yX12_choose, Cond.instanceMethod yX12_choose, Cond.selects RX12 yX12_choose yX12_choose, Cond.code yX12_choose cX12_choose 7 none]
noncomputable def wsL_law_r31 : List Cond := [Cond.methodLink RX12 257 yX12_streetsOf, Cond.instanceMethod yX12_streetsOf, Cond.selects RX12 yX12_streetsOf yX12_streetsOf, Cond.code yX12_streetsOf cX12_streetsOf 5 (some .int), Cond.methodLink RX12 260 yX12_isChosen, Cond.instanceMethod yX12_isChosen, Cond.selects RX12 yX12_isChosen yX12_isChosen, Cond.code yX12_isChosen cX12_isChosen 3 (some .boolean), Cond.methodLink RL 64 yX11_tooFew, Cond.instanceMethod yX11_tooFew, Cond.selects RX11 yX11_tooFew yX11_tooFew, Cond.code yX11_tooFew cX11_tooFew 5 (some .int), Cond.fieldLink RX11 243 "SeatsRound$Choice" "streetBits" "I", Cond.methodLink RX11 246 yJ6_bitCount_0f7a4, Cond.methodLink RL 68 yX12_tooFew, Cond.instanceMethod yX12_tooFew, Cond.selects RX12 yX12_tooFew yX12_tooFew, Cond.code yX12_tooFew cX12_tooFew 4 (some .int), Cond.methodLink RL 69 yX11_share, Cond.instanceMethod yX11_share, Cond.selects RX11 yX11_share yX11_share, Cond.code yX11_share cX11_share 7 (some .int), Cond.fieldLink RX11 254 "SeatsRound$Table" "odds" "[I", Cond.methodLink RX11 251 yX8_countOdds]
noncomputable def wsL_law_r32 : List Cond := [Cond.methodLink RX11 257 yX8_firstFor, Cond.methodLink RL 72 yX12_share, Cond.instanceMethod yX12_share, Cond.selects RX12 yX12_share yX12_share, Cond.code yX12_share cX12_share 4 (some .int), Cond.methodLink RX12 272 yX12_shareOf, Cond.instanceMethod yX12_shareOf, Cond.selects RX12 yX12_shareOf yX12_shareOf, Cond.code yX12_shareOf cX12_shareOf 5 (some .int), Cond.methodLink RL 73 yX11_moves, Cond.instanceMethod yX11_moves, Cond.selects RX11 yX11_moves yX11_moves, Cond.code yX11_moves cX11_moves 11 (some .int), Cond.fieldLink RX11 264 "SeatsRound$Choice" "chosenBits" "I", Cond.methodLink RX11 260 yX8_alikeIn, Cond.instanceMethod yX8_alikeIn, Cond.selects RX8 yX8_alikeIn yX8_alikeIn, Cond.code yX8_alikeIn cX8_alikeIn 4 (some .int), Cond.methodLink RL 76 yX12_moves, Cond.instanceMethod yX12_moves, Cond.selects RX12 yX12_moves yX12_moves, Cond.code yX12_moves cX12_moves 10 (some .int), Cond.methodLink RX12 281 yX12_bits, Cond.instanceMethod yX12_bits]
noncomputable def wsL_law_r33 : List Cond := [Cond.selects RX12 yX12_bits yX12_bits, Cond.code yX12_bits cX12_bits 3 (some .int), Cond.methodLink RX12 284 yX12_ones, Cond.static yX12_ones, Cond.code yX12_ones cX12_ones 3 (some .int), Cond.methodLink RL 77 yX11_knows, Cond.instanceMethod yX11_knows, Cond.selects RX11 yX11_knows yX11_knows, Cond.code yX11_knows cX11_knows 4 (some .int), Cond.methodLink RL 80 yX12_knows, Cond.instanceMethod yX12_knows, Cond.selects RX12 yX12_knows yX12_knows, Cond.code yX12_knows cX12_knows 4 (some .int), Cond.methodLink RL 81 yX11_write, Cond.instanceMethod yX11_write, Cond.selects RX11 yX11_write yX11_write, Cond.code yX11_write cX11_write 4 (some .int), Cond.methodLink RX11 267 yX2_isUp, Cond.instanceMethod yX2_isUp, Cond.selects RX2 yX2_isUp yX2_isUp, Cond.code yX2_isUp cX2_isUp 2 (some .boolean), Cond.methodLink RX11 270 yX6_spread, Cond.instanceMethod yX6_spread, Cond.selects RX6 yX6_spread yX6_spread]
noncomputable def wsL_law_r34 : List Cond := [Cond.code yX6_spread cX6_spread 5 (some .int), Cond.fieldLink RX6 54 "SeatsRound$Table" "turn" "I", Cond.fieldLink RX6 71 "SeatsRound$Choice" "chosenCount" "I", Cond.fieldLink RX6 74 "SeatsRound$Choice" "chosen" "[I", Cond.methodLink RX6 59 yX4_placeOf, Cond.methodLink RX6 65 yX1_choose, Cond.methodLink RX6 77 yX6_reaches, Cond.instanceMethod yX6_reaches, Cond.selects RX6 yX6_reaches yX6_reaches, Cond.code yX6_reaches cX6_reaches 3 (some .boolean), Cond.fieldLink RX6 81 "SeatsRound$Keepers" "fallen" "[Z", Cond.fieldLink RX6 87 "SeatsRound$Keepers" "kind" "[I", Cond.methodLink RX6 90 yX6_isKeptFor, Cond.instanceMethod yX6_isKeptFor, Cond.selects RX6 yX6_isKeptFor yX6_isKeptFor, Cond.code yX6_isKeptFor cX6_isKeptFor 5 (some .boolean), Cond.fieldLink RX6 107 "SeatsRound$Choice" "pickCount" "I", Cond.fieldLink RX6 110 "SeatsRound$Choice" "picks" "[I", Cond.methodLink RX6 113 yX1_isChosen, Cond.methodLink RX6 117 yX2_isUp, Cond.methodLink RX6 93 yX6_receives, Cond.instanceMethod yX6_receives, Cond.selects RX6 yX6_receives yX6_receives, Cond.code yX6_receives cX6_receives 4 (some .boolean)]
noncomputable def wsL_law_r35 : List Cond := [Cond.methodLink RX6 97 yX6_hasRoom, Cond.instanceMethod yX6_hasRoom, Cond.selects RX6 yX6_hasRoom yX6_hasRoom, Cond.code yX6_hasRoom cX6_hasRoom 3 (some .boolean), Cond.methodLink RX6 103 yX6_copiesOn, Cond.methodLink RL 84 yX12_write, Cond.instanceMethod yX12_write, Cond.selects RX12 yX12_write yX12_write, Cond.code yX12_write cX12_write 7 (some .int), Cond.fieldLink RX12 290 "SeatsRoundModel" "writings" "I", Cond.methodLink RX12 287 yX12_isAwake, Cond.instanceMethod yX12_isAwake, Cond.selects RX12 yX12_isAwake yX12_isAwake, Cond.code yX12_isAwake cX12_isAwake 2 (some .boolean), Cond.methodLink RX12 293 yX12_keeps, Cond.instanceMethod yX12_keeps, Cond.selects RX12 yX12_keeps yX12_keeps, Cond.code yX12_keeps cX12_keeps 8 (some .int), Cond.methodLink RX12 297 yX12_hasRoom, Cond.instanceMethod yX12_hasRoom, Cond.selects RX12 yX12_hasRoom yX12_hasRoom, Cond.code yX12_hasRoom cX12_hasRoom 3 (some .boolean), Cond.methodLink RL 85 yX11_read, Cond.instanceMethod yX11_read]
noncomputable def wsL_law_r36 : List Cond := [Cond.selects RX11 yX11_read yX11_read, Cond.code yX11_read cX11_read 4 (some .int), Cond.methodLink RX11 274 yX6_greatestFor, Cond.instanceMethod yX6_greatestFor, Cond.selects RX6 yX6_greatestFor yX6_greatestFor, Cond.code yX6_greatestFor cX6_greatestFor 6 (some .int), Cond.methodLink RX6 130 Lib.Math.max.name, Cond.methodLink RL 88 yX12_read, Cond.instanceMethod yX12_read, Cond.selects RX12 yX12_read yX12_read, Cond.code yX12_read cX12_read 6 (some .int), Cond.methodLink RL 89 yX11_onShelf, Cond.instanceMethod yX11_onShelf, Cond.selects RX11 yX11_onShelf yX11_onShelf, Cond.code yX11_onShelf cX11_onShelf 4 (some .int), Cond.fieldLink RX11 277 "SeatsRound$Parcels" "version" "[[I", Cond.fieldLink RX11 281 "SeatsRound$Parcels" "kept" "[[I", Cond.fieldLink RX11 284 "SeatsRound$Parcels" "keptFor" "[[I", Cond.fieldLink RX11 287 "SeatsRound$Parcels" "pieces" "[[I", Cond.methodLink RL 92 yX12_onShelf, Cond.instanceMethod yX12_onShelf, Cond.selects RX12 yX12_onShelf yX12_onShelf, Cond.code yX12_onShelf cX12_onShelf 5 (some .int), Cond.methodLink RL 93 yX11_fall]
noncomputable def wsL_law_r37 : List Cond := [Cond.instanceMethod yX11_fall, Cond.selects RX11 yX11_fall yX11_fall, Cond.code yX11_fall cX11_fall 4 (some .int), Cond.methodLink RX11 290 yX6_empty, Cond.instanceMethod yX6_empty, Cond.selects RX6 yX6_empty yX6_empty, Cond.code yX6_empty cX6_empty 2 none, Cond.methodLink RX6 124 yJ7_fill_53178, Cond.methodLink RL 96 yX12_fall, Cond.instanceMethod yX12_fall, Cond.selects RX12 yX12_fall yX12_fall, Cond.code yX12_fall cX12_fall 5 (some .int), Cond.methodLink RL 97 yX11_half, Cond.instanceMethod yX11_half, Cond.selects RX11 yX11_half yX11_half, Cond.code yX11_half cX11_half 4 (some .int), Cond.methodLink RX11 293 yX6_movePiece, Cond.instanceMethod yX6_movePiece, Cond.selects RX6 yX6_movePiece yX6_movePiece, Cond.code yX6_movePiece cX6_movePiece 4 (some .int), Cond.methodLink RL 100 yX12_half, Cond.instanceMethod yX12_half, Cond.selects RX12 yX12_half yX12_half, Cond.code yX12_half cX12_half 6 (some .int)]
noncomputable def wsL_law_r38 : List Cond := [Cond.methodLink RL 101 yX11_mend, Cond.instanceMethod yX11_mend, Cond.selects RX11 yX11_mend yX11_mend, Cond.code yX11_mend cX11_mend 3 (some .int), Cond.methodLink RX11 297 yX6_mendAll, Cond.instanceMethod yX6_mendAll, Cond.selects RX6 yX6_mendAll yX6_mendAll, Cond.code yX6_mendAll cX6_mendAll 7 (some .int), Cond.methodLink RX6 135 yX6_greatestAnywhere, Cond.instanceMethod yX6_greatestAnywhere, Cond.selects RX6 yX6_greatestAnywhere yX6_greatestAnywhere, Cond.code yX6_greatestAnywhere cX6_greatestAnywhere 4 (some .int), Cond.methodLink RL 104 yX12_mend, Cond.instanceMethod yX12_mend, Cond.selects RX12 yX12_mend yX12_mend, Cond.code yX12_mend cX12_mend 7 (some .int), Cond.methodLink RL 105 yX11_trees, Cond.instanceMethod yX11_trees, Cond.selects RX11 yX11_trees yX11_trees, Cond.code yX11_trees cX11_trees 4 (some .int), Cond.methodLink RX11 300 yX6_compare, Cond.instanceMethod yX6_compare, Cond.selects RX6 yX6_compare yX6_compare, Cond.code yX6_compare cX6_compare 3 none]
noncomputable def wsL_law_r39 : List Cond := [Cond.methodLink RX6 138 yX6_grow, Cond.instanceMethod yX6_grow, Cond.selects RX6 yX6_grow yX6_grow, Cond.code yX6_grow cX6_grow 4 none, Cond.methodLink RX11 303 yX6_wordsAsked, Cond.instanceMethod yX6_wordsAsked, Cond.selects RX6 yX6_wordsAsked yX6_wordsAsked, Cond.code yX6_wordsAsked cX6_wordsAsked 4 (some .int), Cond.methodLink RX11 306 yX6_unlikeLeaves, Cond.instanceMethod yX6_unlikeLeaves, Cond.selects RX6 yX6_unlikeLeaves yX6_unlikeLeaves, Cond.code yX6_unlikeLeaves cX6_unlikeLeaves 3 (some .int), Cond.methodLink RL 108 yX12_trees, Cond.instanceMethod yX12_trees, Cond.selects RX12 yX12_trees yX12_trees, Cond.code yX12_trees cX12_trees 6 (some .int), Cond.methodLink RX12 307 yX12_wordsBelow, Cond.instanceMethod yX12_wordsBelow, Cond.selects RX12 yX12_wordsBelow yX12_wordsBelow, Cond.code yX12_wordsBelow cX12_wordsBelow 5 (some .int), Cond.methodLink RX12 303 yX12_areUnlike, Cond.instanceMethod yX12_areUnlike, Cond.selects RX12 yX12_areUnlike yX12_areUnlike, Cond.code yX12_areUnlike cX12_areUnlike 7 (some .boolean)]
noncomputable def wsL_law_r40 : List Cond := [Cond.methodLink RX12 300 yX12_leafOf, Cond.instanceMethod yX12_leafOf, Cond.selects RX12 yX12_leafOf yX12_leafOf, Cond.code yX12_leafOf cX12_leafOf 5 (some .int), Cond.methodLink RL 109 yX11_noon, Cond.instanceMethod yX11_noon, Cond.selects RX11 yX11_noon yX11_noon, Cond.code yX11_noon cX11_noon 7 (some .int), Cond.methodLink RX11 309 yX11_upward, Cond.static yX11_upward, Cond.code yX11_upward cX11_upward 2 (some .int), Cond.methodLink RL 112 yX12_noon, Cond.instanceMethod yX12_noon, Cond.selects RX12 yX12_noon yX12_noon, Cond.code yX12_noon cX12_noon 6 (some .int), Cond.methodLink RL 113 yX11_lies, Cond.instanceMethod yX11_lies, Cond.selects RX11 yX11_lies yX11_lies, Cond.code yX11_lies cX11_lies 7 (some .int), Cond.methodLink RX11 312 Lib.Math.max.name, Cond.methodLink RL 117 yX12_lies, Cond.instanceMethod yX12_lies, Cond.selects RX12 yX12_lies yX12_lies, Cond.code yX12_lies cX12_lies 6 (some .int)]
noncomputable def wsL_law_r41 : List Cond := [Cond.methodLink RL 118 yX11_comes, Cond.instanceMethod yX11_comes, Cond.selects RX11 yX11_comes yX11_comes, Cond.code yX11_comes cX11_comes 2 (some .int), Cond.fieldLink RX11 320 "SeatsRound$Orders" "toldCount" "I", Cond.fieldLink RX11 323 "SeatsRound$Orders" "told" "[I", Cond.methodLink RX11 317 yX5_isTold, Cond.instanceMethod yX5_isTold, Cond.selects RX5 yX5_isTold yX5_isTold, Cond.code yX5_isTold cX5_isTold 3 (some .boolean), Cond.methodLink RL 121 yX12_comes, Cond.instanceMethod yX12_comes, Cond.selects RX12 yX12_comes yX12_comes, Cond.code yX12_comes cX12_comes 2 (some .int), Cond.fieldLink RX12 310 "SeatsRoundModel" "comers" "I", Cond.methodLink RX12 313 yX12_isComing, Cond.instanceMethod yX12_isComing, Cond.selects RX12 yX12_isComing yX12_isComing, Cond.code yX12_isComing cX12_isComing 3 (some .boolean), Cond.methodLink RL 122 yX11_order, Cond.instanceMethod yX11_order, Cond.selects RX11 yX11_order yX11_order, Cond.code yX11_order cX11_order 4 (some .int), Cond.methodLink RX11 326 yX5_leastFrom]
noncomputable def wsL_law_r42 : List Cond := [Cond.instanceMethod yX5_leastFrom, Cond.selects RX5 yX5_leastFrom yX5_leastFrom, Cond.code yX5_leastFrom cX5_leastFrom 5 (some .int), Cond.methodLink RX5 49 yX5_seatSet, Cond.instanceMethod yX5_seatSet, Cond.selects RX5 yX5_seatSet yX5_seatSet, Cond.code yX5_seatSet cX5_seatSet 6 (some .boolean), Cond.fieldLink RX5 67 "SeatsRound$Table" "members" "I", Cond.fieldLink RX5 70 "SeatsRound$Table" "weight" "[I", Cond.fieldLink RX5 84 "SeatsRound$Table" "turn" "I", Cond.fieldLink RX5 90 "SeatsRound$NameList" "count" "I", Cond.fieldLink RX5 105 "SeatsRound$Choice" "chosenBits" "I", Cond.methodLink RX5 61 yX8_takeAll, Cond.methodLink RX5 73 yX2_counting, Cond.methodLink RX5 78 yX3_workOut, Cond.methodLink RX5 87 yX8_seatAll, Cond.methodLink RX5 95 yX4_placeOf, Cond.methodLink RX5 99 yX1_choose, Cond.methodLink RX5 53 yX5_leastOnward, Cond.instanceMethod yX5_leastOnward, Cond.selects RX5 yX5_leastOnward yX5_leastOnward, Cond.code yX5_leastOnward cX5_leastOnward 5 (some .int), Cond.methodLink RX5 108 yX5_sumOver, Cond.instanceMethod yX5_sumOver]
noncomputable def wsL_law_r43 : List Cond := [Cond.selects RX5 yX5_sumOver yX5_sumOver, Cond.code yX5_sumOver cX5_sumOver 6 (some .int), Cond.methodLink RX5 111 yJ6_bitCount_0f7a4, Cond.methodLink RX5 57 yX5_walk, Cond.instanceMethod yX5_walk, Cond.selects RX5 yX5_walk yX5_walk, Cond.code yX5_walk cX5_walk 5 none, Cond.methodLink RX5 116 yX5_nextOf, Cond.instanceMethod yX5_nextOf, Cond.selects RX5 yX5_nextOf yX5_nextOf, Cond.code yX5_nextOf cX5_nextOf 3 (some .int), Cond.methodLink RL 125 yX12_order, Cond.instanceMethod yX12_order, Cond.selects RX12 yX12_order yX12_order, Cond.code yX12_order cX12_order 6 (some .int), Cond.fieldLink RX12 325 "SeatsRoundModel" "orderMany" "I", Cond.methodLink RX12 316 yX12_setBy, Cond.instanceMethod yX12_setBy, Cond.selects RX12 yX12_setBy yX12_setBy, Cond.code yX12_setBy cX12_setBy 5 (some .int), Cond.methodLink RX12 319 yX12_tries, Cond.instanceMethod yX12_tries, Cond.selects RX12 yX12_tries yX12_tries, Cond.code yX12_tries cX12_tries 5 none]
noncomputable def wsL_law_r44 : List Cond := [Cond.methodLink RX12 322 yX12_movesBy, Cond.instanceMethod yX12_movesBy, Cond.selects RX12 yX12_movesBy yX12_movesBy, Cond.code yX12_movesBy cX12_movesBy 7 (some .int), Cond.methodLink RX12 328 yX12_nextOrder, Cond.instanceMethod yX12_nextOrder, Cond.selects RX12 yX12_nextOrder yX12_nextOrder, Cond.code yX12_nextOrder cX12_nextOrder 8 (some .boolean), Cond.methodLink RL 126 yX11_ordered, Cond.instanceMethod yX11_ordered, Cond.selects RX11 yX11_ordered yX11_ordered, Cond.code yX11_ordered cX11_ordered 2 (some .int), Cond.fieldLink RX11 330 "SeatsRound$Orders" "pathLength" "I", Cond.fieldLink RX11 333 "SeatsRound$Orders" "path" "[I", Cond.methodLink RL 129 yX12_ordered, Cond.instanceMethod yX12_ordered, Cond.selects RX12 yX12_ordered yX12_ordered, Cond.code yX12_ordered cX12_ordered 2 (some .int), Cond.methodLink RL 130 yX11_turning, Cond.instanceMethod yX11_turning, Cond.selects RX11 yX11_turning yX11_turning, Cond.code yX11_turning cX11_turning 2 (some .int), Cond.fieldLink RX11 336 "SeatsRound$Turnings" "count" "I", Cond.fieldLink RX11 337 "SeatsRound$Turnings" "told" "[I"]
noncomputable def wsL_law_r45 : List Cond := [Cond.methodLink RL 133 yX12_turning, Cond.instanceMethod yX12_turning, Cond.selects RX12 yX12_turning yX12_turning, Cond.code yX12_turning cX12_turning 2 (some .int), Cond.fieldLink RX12 331 "SeatsRoundModel" "turnings" "I", Cond.methodLink RL 134 yX11_harm, Cond.instanceMethod yX11_harm, Cond.selects RX11 yX11_harm yX11_harm, Cond.code yX11_harm cX11_harm 3 (some .int), Cond.methodLink RX11 338 yX10_leastHarm, Cond.instanceMethod yX10_leastHarm, Cond.selects RX10 yX10_leastHarm yX10_leastHarm, Cond.code yX10_leastHarm cX10_leastHarm 6 (some .int), Cond.methodLink RX10 29 yX8_takeAll, Cond.methodLink RX10 35 yX8_seatAll, Cond.methodLink RX10 39 yX10_greatestShare, Cond.instanceMethod yX10_greatestShare, Cond.selects RX10 yX10_greatestShare yX10_greatestShare, Cond.code yX10_greatestShare cX10_greatestShare 5 (some .int), Cond.fieldLink RX10 49 "SeatsRound$NameList" "count" "I", Cond.fieldLink RX10 52 "SeatsRound$Table" "turn" "I", Cond.methodLink RX10 63 Lib.Math.max.name, Cond.methodLink RX10 43 yJ7_fill_53178, Cond.methodLink RX10 55 yX4_placeOf]
noncomputable def wsL_law_r46 : List Cond := [Cond.methodLink RX10 59 yX8_firstFor, Cond.methodLink RL 137 yX12_harm, Cond.instanceMethod yX12_harm, Cond.selects RX12 yX12_harm yX12_harm, Cond.code yX12_harm cX12_harm 7 (some .int), Cond.methodLink RL 138 yX11_harmed, Cond.instanceMethod yX11_harmed, Cond.selects RX11 yX11_harmed yX11_harmed, Cond.code yX11_harmed cX11_harmed 1 (some .int), Cond.fieldLink RX11 341 "SeatsRound$Turnings" "greatest" "I", Cond.methodLink RL 141 yX12_harmed, Cond.instanceMethod yX12_harmed, Cond.selects RX12 yX12_harmed yX12_harmed, Cond.code yX12_harmed cX12_harmed 1 (some .int), Cond.methodLink RL 142 yX11_act, Cond.instanceMethod yX11_act, Cond.selects RX11 yX11_act yX11_act, Cond.code yX11_act cX11_act 4 (some .int), Cond.fieldLink RX11 344 "SeatsRound$Acts" "ran" "I", Cond.methodLink RX11 347 yX0_run, Cond.instanceMethod yX0_run, Cond.selects RX0 yX0_run yX0_run, Cond.code yX0_run cX0_run 6 (some .int), Cond.methodLink RX0 28 yX0_findsFrom]
noncomputable def wsL_law_r47 : List Cond := [Cond.instanceMethod yX0_findsFrom, Cond.selects RX0 yX0_findsFrom yX0_findsFrom, Cond.code yX0_findsFrom cX0_findsFrom 3 (some .int), Cond.methodLink RX0 41 yX0_begin, Cond.instanceMethod yX0_begin, Cond.selects RX0 yX0_begin yX0_begin, Cond.code yX0_begin cX0_begin 2 none, Cond.methodLink RX0 32 yX0_keepsFrom, Cond.instanceMethod yX0_keepsFrom, Cond.selects RX0 yX0_keepsFrom yX0_keepsFrom, Cond.code yX0_keepsFrom cX0_keepsFrom 4 (some .int), Cond.methodLink RX0 35 yX0_movesFrom, Cond.instanceMethod yX0_movesFrom, Cond.selects RX0 yX0_movesFrom yX0_movesFrom, Cond.code yX0_movesFrom cX0_movesFrom 4 (some .int), Cond.methodLink RX0 38 yX0_tellsFrom, Cond.instanceMethod yX0_tellsFrom, Cond.selects RX0 yX0_tellsFrom yX0_tellsFrom, Cond.code yX0_tellsFrom cX0_tellsFrom 4 (some .int), Cond.methodLink RL 145 yX12_act, Cond.instanceMethod yX12_act, Cond.selects RX12 yX12_act yX12_act, Cond.code yX12_act cX12_act 5 (some .int), Cond.fieldLink RX12 334 "SeatsRoundModel" "bodies" "I"]
noncomputable def wsL_law_r48 : List Cond := [Cond.methodLink RX12 340 yX12_findsFrom, Cond.instanceMethod yX12_findsFrom, Cond.selects RX12 yX12_findsFrom yX12_findsFrom, Cond.code yX12_findsFrom cX12_findsFrom 4 (some .int), Cond.methodLink RX12 337 yX12_begins, Cond.instanceMethod yX12_begins, Cond.selects RX12 yX12_begins yX12_begins, Cond.code yX12_begins cX12_begins 2 none, Cond.methodLink RX12 343 yX12_aboveOf, Cond.static yX12_aboveOf, Cond.code yX12_aboveOf cX12_aboveOf 1 (some .int), Cond.methodLink RX12 346 yX12_keepsFrom, Cond.instanceMethod yX12_keepsFrom, Cond.selects RX12 yX12_keepsFrom yX12_keepsFrom, Cond.code yX12_keepsFrom cX12_keepsFrom 5 (some .int), Cond.methodLink RX12 349 yX12_movesFrom, Cond.instanceMethod yX12_movesFrom, Cond.selects RX12 yX12_movesFrom yX12_movesFrom, Cond.code yX12_movesFrom cX12_movesFrom 5 (some .int), Cond.methodLink RX12 352 yX12_tellsFrom, Cond.instanceMethod yX12_tellsFrom, Cond.selects RX12 yX12_tellsFrom yX12_tellsFrom, Cond.code yX12_tellsFrom cX12_tellsFrom 5 (some .int), Cond.methodLink RL 146 yX11_trace]
noncomputable def wsL_law_r49 : List Cond := [Cond.instanceMethod yX11_trace, Cond.selects RX11 yX11_trace yX11_trace, Cond.code yX11_trace cX11_trace 2 (some .int), Cond.fieldLink RX11 351 "SeatsRound$Acts" "bodies" "[I", Cond.methodLink RL 149 yX12_trace, Cond.instanceMethod yX12_trace, Cond.selects RX12 yX12_trace yX12_trace, Cond.code yX12_trace cX12_trace 2 (some .int), Cond.methodLink RL 150 yX11_keep, Cond.instanceMethod yX11_keep, Cond.selects RX11 yX11_keep yX11_keep, Cond.code yX11_keep cX11_keep 3 (some .int), Cond.methodLink RX11 354 yX11_isShelf, Cond.static yX11_isShelf, Cond.code yX11_isShelf cX11_isShelf 1 (some .boolean), Cond.methodLink RX11 357 yX7_holdKeeper, Cond.instanceMethod yX7_holdKeeper, Cond.selects RX7 yX7_holdKeeper yX7_holdKeeper, Cond.code yX7_holdKeeper cX7_holdKeeper 3 none, Cond.methodLink RL 153 yX12_keep, Cond.instanceMethod yX12_keep, Cond.selects RX12 yX12_keep yX12_keep, Cond.code yX12_keep cX12_keep 3 (some .int), Cond.methodLink RX12 355 yX12_isShelf]
noncomputable def wsL_law_r50 : List Cond := [Cond.static yX12_isShelf, Cond.code yX12_isShelf cX12_isShelf 1 (some .boolean), Cond.methodLink RL 154 yX11_row, Cond.instanceMethod yX11_row, Cond.selects RX11 yX11_row yX11_row, Cond.code yX11_row cX11_row 4 (some .int), Cond.methodLink RX11 360 yX7_holdRow, Cond.instanceMethod yX7_holdRow, Cond.selects RX7 yX7_holdRow yX7_holdRow, Cond.code yX7_holdRow cX7_holdRow 4 none, Cond.methodLink RX7 32 yJ7_fill_d0a16, Cond.static yJ7_fill_d0a16, Cond.code yJ7_fill_d0a16 cJ7_fill_d0a16 5 none, Cond.methodLink RL 157 yX12_row, Cond.instanceMethod yX12_row, Cond.selects RX12 yX12_row yX12_row, Cond.code yX12_row cX12_row 5 (some .int), Cond.methodLink RL 160 yX11_put, Cond.instanceMethod yX11_put, Cond.selects RX11 yX11_put yX11_put, Cond.code yX11_put cX11_put 6 (some .int), Cond.fieldLink RX11 367 "SeatsRound$Rows" "elements" "[[J", Cond.fieldLink RX11 371 "SeatsRound$Rows" "sort" "[I", Cond.methodLink RX11 364 yX7_refusalAt]
noncomputable def wsL_law_r51 : List Cond := [Cond.instanceMethod yX7_refusalAt, Cond.selects RX7 yX7_refusalAt yX7_refusalAt, Cond.code yX7_refusalAt cX7_refusalAt 3 (some .int), Cond.methodLink RX7 35 yX7_isEmpty, Cond.instanceMethod yX7_isEmpty, Cond.selects RX7 yX7_isEmpty yX7_isEmpty, Cond.code yX7_isEmpty cX7_isEmpty 2 (some .boolean), Cond.methodLink RX7 39 yX7_isRow, Cond.instanceMethod yX7_isRow, Cond.selects RX7 yX7_isRow yX7_isRow, Cond.code yX7_isRow cX7_isRow 2 (some .boolean), Cond.methodLink RX11 374 yX7_lowest, Cond.static yX7_lowest, Cond.code yX7_lowest cX7_lowest 3 (some .long), Cond.methodLink RL 164 yX12_put, Cond.instanceMethod yX12_put, Cond.selects RX12 yX12_put yX12_put, Cond.code yX12_put cX12_put 7 (some .int), Cond.methodLink RX12 358 yX12_barred, Cond.instanceMethod yX12_barred, Cond.selects RX12 yX12_barred yX12_barred, Cond.code yX12_barred cX12_barred 3 (some .int), Cond.methodLink RL 165 yX11_element, Cond.instanceMethod yX11_element]
noncomputable def wsL_law_r52 : List Cond := [Cond.selects RX11 yX11_element yX11_element, Cond.code yX11_element cX11_element 3 (some .long), Cond.constantLong RX11 380 (-9223372036854775808), Cond.methodLink RL 169 yX12_element, Cond.instanceMethod yX12_element, Cond.selects RX12 yX12_element yX12_element, Cond.code yX12_element cX12_element 3 (some .long), Cond.constantLong RX12 361 (-9223372036854775808), Cond.methodLink RL 170 yX11_shift, Cond.instanceMethod yX11_shift, Cond.selects RX11 yX11_shift yX11_shift, Cond.code yX11_shift cX11_shift 6 (some .int), Cond.methodLink RX11 392 arraycopyName, Cond.methodLink RX11 382 yX7_isEmpty, Cond.methodLink RX11 385 yX7_isRow, Cond.methodLink RX11 388 yX7_spans, Cond.instanceMethod yX7_spans, Cond.selects RX7 yX7_spans yX7_spans, Cond.code yX7_spans cX7_spans 4 (some .boolean), Cond.methodLink RL 174 yX12_shift, Cond.instanceMethod yX12_shift, Cond.selects RX12 yX12_shift yX12_shift, Cond.code yX12_shift cX12_shift 10 (some .int), Cond.methodLink RL 175 yX11_taken]
noncomputable def wsL_law_r53 : List Cond := [Cond.instanceMethod yX11_taken, Cond.selects RX11 yX11_taken yX11_taken, Cond.code yX11_taken cX11_taken 5 (some .int), Cond.fieldLink RX11 398 "SeatsRound$Rows" "keeper" "[I", Cond.methodLink RX11 401 yX11_isUnder, Cond.static yX11_isUnder, Cond.code yX11_isUnder cX11_isUnder 4 (some .boolean), Cond.fieldLink RX11 420 "SeatsRound" "KIND_ABOVE" "[I", Cond.methodLink RL 178 yX12_taken, Cond.instanceMethod yX12_taken, Cond.selects RX12 yX12_taken yX12_taken, Cond.code yX12_taken cX12_taken 4 (some .int), Cond.methodLink RL 179 yX11_names, Cond.instanceMethod yX11_names, Cond.selects RX11 yX11_names yX11_names, Cond.code yX11_names cX11_names 4 (some .int), Cond.fieldLink RX11 405 "SeatsRound$Rows" "length" "[I", Cond.methodLink RX11 407 yX4_addFrom, Cond.instanceMethod yX4_addFrom, Cond.selects RX4 yX4_addFrom yX4_addFrom, Cond.code yX4_addFrom cX4_addFrom 12 (some .int), Cond.constantLong RX4 39 (6), Cond.methodLink RX4 41 yX4_find, Cond.methodLink RX4 45 yX4_add]
noncomputable def wsL_law_r54 : List Cond := [Cond.methodLink RL 182 yX12_names, Cond.instanceMethod yX12_names, Cond.selects RX12 yX12_names yX12_names, Cond.code yX12_names cX12_names 11 (some .int), Cond.methodLink RL 183 yX11_count, Cond.instanceMethod yX11_count, Cond.selects RX11 yX11_count yX11_count, Cond.code yX11_count cX11_count 2 (some .int), Cond.fieldLink RX11 417 "SeatsRound$Parcels" "writings" "I", Cond.methodLink RX11 411 yX6_allCopies, Cond.instanceMethod yX6_allCopies, Cond.selects RX6 yX6_allCopies yX6_allCopies, Cond.code yX6_allCopies cX6_allCopies 3 (some .int), Cond.methodLink RX11 414 yX6_allKept, Cond.instanceMethod yX6_allKept, Cond.selects RX6 yX6_allKept yX6_allKept, Cond.code yX6_allKept cX6_allKept 3 (some .int), Cond.methodLink RX6 145 yX6_keptBy, Cond.methodLink RL 186 yX12_count, Cond.instanceMethod yX12_count, Cond.selects RX12 yX12_count yX12_count, Cond.code yX12_count cX12_count 4 (some .int)]
noncomputable def wsL_law : List Cond := (wsL_law_r1 ++ (wsL_law_r2 ++ (wsL_law_r3 ++ (wsL_law_r4 ++ (wsL_law_r5 ++ (wsL_law_r6 ++ (wsL_law_r7 ++ (wsL_law_r8 ++ (wsL_law_r9 ++ (wsL_law_r10 ++ (wsL_law_r11 ++ (wsL_law_r12 ++ (wsL_law_r13 ++ (wsL_law_r14 ++ (wsL_law_r15 ++ (wsL_law_r16 ++ (wsL_law_r17 ++ (wsL_law_r18 ++ (wsL_law_r19 ++ (wsL_law_r20 ++ (wsL_law_r21 ++ (wsL_law_r22 ++ (wsL_law_r23 ++ (wsL_law_r24 ++ (wsL_law_r25 ++ (wsL_law_r26 ++ (wsL_law_r27 ++ (wsL_law_r28 ++ (wsL_law_r29 ++ (wsL_law_r30 ++ (wsL_law_r31 ++ (wsL_law_r32 ++ (wsL_law_r33 ++ (wsL_law_r34 ++ (wsL_law_r35 ++ (wsL_law_r36 ++ (wsL_law_r37 ++ (wsL_law_r38 ++ (wsL_law_r39 ++ (wsL_law_r40 ++ (wsL_law_r41 ++ (wsL_law_r42 ++ (wsL_law_r43 ++ (wsL_law_r44 ++ (wsL_law_r45 ++ (wsL_law_r46 ++ (wsL_law_r47 ++ (wsL_law_r48 ++ (wsL_law_r49 ++ (wsL_law_r50 ++ (wsL_law_r51 ++ (wsL_law_r52 ++ (wsL_law_r53 ++ wsL_law_r54))))))))))))))))))))))))))))))))))))))))))))))))))))) ++ wsX110 ++ wsX120 ++ wsX90 ++ wsX40 ++ wsX20 ++ wsX30 ++ wsX10 ++ wsX80 ++ wsX60 ++ wsX50 ++ wsX100 ++ wsX00 ++ wsX70 ++ ([] : List Cond)
noncomputable def wsL_cs : List (List Cond) := [wsL_law_r1, wsL_law_r2, wsL_law_r3, wsL_law_r4, wsL_law_r5, wsL_law_r6, wsL_law_r7, wsL_law_r8, wsL_law_r9, wsL_law_r10, wsL_law_r11, wsL_law_r12, wsL_law_r13, wsL_law_r14, wsL_law_r15, wsL_law_r16, wsL_law_r17, wsL_law_r18, wsL_law_r19, wsL_law_r20, wsL_law_r21, wsL_law_r22, wsL_law_r23, wsL_law_r24, wsL_law_r25, wsL_law_r26, wsL_law_r27, wsL_law_r28, wsL_law_r29, wsL_law_r30, wsL_law_r31, wsL_law_r32, wsL_law_r33, wsL_law_r34, wsL_law_r35, wsL_law_r36, wsL_law_r37, wsL_law_r38, wsL_law_r39, wsL_law_r40, wsL_law_r41, wsL_law_r42, wsL_law_r43, wsL_law_r44, wsL_law_r45, wsL_law_r46, wsL_law_r47, wsL_law_r48, wsL_law_r49, wsL_law_r50, wsL_law_r51, wsL_law_r52, wsL_law_r53, wsL_law_r54, wsX110, wsX120, wsX90, wsX40, wsX20, wsX30, wsX10, wsX80, wsX60, wsX50, wsX100, wsX00, wsX70]
set_option maxRecDepth 20000 in
theorem wsL_cs_in : ∀ l ∈ wsL_cs, ∀ w ∈ l, w ∈ wsL_law := by
  unfold wsL_cs
  refine List.forall_mem_cons.mpr ⟨(fun _ h => (List.mem_append_left _ (List.mem_append_left _ (List.mem_append_left _ (List.mem_append_left _ (List.mem_append_left _ (List.mem_append_left _ (List.mem_append_left _ (List.mem_append_left _ (List.mem_append_left _ (List.mem_append_left _ (List.mem_append_left _ (List.mem_append_left _ (List.mem_append_left _ (List.mem_append_left _ (List.mem_append_left _ h)))))))))))))))), List.forall_mem_cons.mpr ⟨(fun _ h => (List.mem_append_left _ (List.mem_append_left _ (List.mem_append_left _ (List.mem_append_left _ (List.mem_append_left _ (List.mem_append_left _ (List.mem_append_left _ (List.mem_append_left _ (List.mem_append_left _ (List.mem_append_left _ (List.mem_append_left _ (List.mem_append_left _ (List.mem_append_left _ (List.mem_append_left _ (List.mem_append_right _ (List.mem_append_left _ h))))))))))))))))), List.forall_mem_cons.mpr ⟨(fun _ h => (List.mem_append_left _ (List.mem_append_left _ (List.mem_append_left _ (List.mem_append_left _ (List.mem_append_left _ (List.mem_append_left _ (List.mem_append_left _ (List.mem_append_left _ (List.mem_append_left _ (List.mem_append_left _ (List.mem_append_left _ (List.mem_append_left _ (List.mem_append_left _ (List.mem_append_left _ (List.mem_append_right _ (List.mem_append_right _ (List.mem_append_left _ h)))))))))))))))))), List.forall_mem_cons.mpr ⟨(fun _ h => (List.mem_append_left _ (List.mem_append_left _ (List.mem_append_left _ (List.mem_append_left _ (List.mem_append_left _ (List.mem_append_left _ (List.mem_append_left _ (List.mem_append_left _ (List.mem_append_left _ (List.mem_append_left _ (List.mem_append_left _ (List.mem_append_left _ (List.mem_append_left _ (List.mem_append_left _ (List.mem_append_right _ (List.mem_append_right _ (List.mem_append_right _ (List.mem_append_left _ h))))))))))))))))))), List.forall_mem_cons.mpr ⟨(fun _ h => (List.mem_append_left _ (List.mem_append_left _ (List.mem_append_left _ (List.mem_append_left _ (List.mem_append_left _ (List.mem_append_left _ (List.mem_append_left _ (List.mem_append_left _ (List.mem_append_left _ (List.mem_append_left _ (List.mem_append_left _ (List.mem_append_left _ (List.mem_append_left _ (List.mem_append_left _ (List.mem_append_right _ (List.mem_append_right _ (List.mem_append_right _ (List.mem_append_right _ (List.mem_append_left _ h)))))))))))))))))))), List.forall_mem_cons.mpr ⟨(fun _ h => (List.mem_append_left _ (List.mem_append_left _ (List.mem_append_left _ (List.mem_append_left _ (List.mem_append_left _ (List.mem_append_left _ (List.mem_append_left _ (List.mem_append_left _ (List.mem_append_left _ (List.mem_append_left _ (List.mem_append_left _ (List.mem_append_left _ (List.mem_append_left _ (List.mem_append_left _ (List.mem_append_right _ (List.mem_append_right _ (List.mem_append_right _ (List.mem_append_right _ (List.mem_append_right _ (List.mem_append_left _ h))))))))))))))))))))), List.forall_mem_cons.mpr ⟨(fun _ h => (List.mem_append_left _ (List.mem_append_left _ (List.mem_append_left _ (List.mem_append_left _ (List.mem_append_left _ (List.mem_append_left _ (List.mem_append_left _ (List.mem_append_left _ (List.mem_append_left _ (List.mem_append_left _ (List.mem_append_left _ (List.mem_append_left _ (List.mem_append_left _ (List.mem_append_left _ (List.mem_append_right _ (List.mem_append_right _ (List.mem_append_right _ (List.mem_append_right _ (List.mem_append_right _ (List.mem_append_right _ (List.mem_append_left _ h)))))))))))))))))))))), List.forall_mem_cons.mpr ⟨(fun _ h => (List.mem_append_left _ (List.mem_append_left _ (List.mem_append_left _ (List.mem_append_left _ (List.mem_append_left _ (List.mem_append_left _ (List.mem_append_left _ (List.mem_append_left _ (List.mem_append_left _ (List.mem_append_left _ (List.mem_append_left _ (List.mem_append_left _ (List.mem_append_left _ (List.mem_append_left _ (List.mem_append_right _ (List.mem_append_right _ (List.mem_append_right _ (List.mem_append_right _ (List.mem_append_right _ (List.mem_append_right _ (List.mem_append_right _ (List.mem_append_left _ h))))))))))))))))))))))), List.forall_mem_cons.mpr ⟨(fun _ h => (List.mem_append_left _ (List.mem_append_left _ (List.mem_append_left _ (List.mem_append_left _ (List.mem_append_left _ (List.mem_append_left _ (List.mem_append_left _ (List.mem_append_left _ (List.mem_append_left _ (List.mem_append_left _ (List.mem_append_left _ (List.mem_append_left _ (List.mem_append_left _ (List.mem_append_left _ (List.mem_append_right _ (List.mem_append_right _ (List.mem_append_right _ (List.mem_append_right _ (List.mem_append_right _ (List.mem_append_right _ (List.mem_append_right _ (List.mem_append_right _ (List.mem_append_left _ h)))))))))))))))))))))))), List.forall_mem_cons.mpr ⟨(fun _ h => (List.mem_append_left _ (List.mem_append_left _ (List.mem_append_left _ (List.mem_append_left _ (List.mem_append_left _ (List.mem_append_left _ (List.mem_append_left _ (List.mem_append_left _ (List.mem_append_left _ (List.mem_append_left _ (List.mem_append_left _ (List.mem_append_left _ (List.mem_append_left _ (List.mem_append_left _ (List.mem_append_right _ (List.mem_append_right _ (List.mem_append_right _ (List.mem_append_right _ (List.mem_append_right _ (List.mem_append_right _ (List.mem_append_right _ (List.mem_append_right _ (List.mem_append_right _ (List.mem_append_left _ h))))))))))))))))))))))))), List.forall_mem_cons.mpr ⟨(fun _ h => (List.mem_append_left _ (List.mem_append_left _ (List.mem_append_left _ (List.mem_append_left _ (List.mem_append_left _ (List.mem_append_left _ (List.mem_append_left _ (List.mem_append_left _ (List.mem_append_left _ (List.mem_append_left _ (List.mem_append_left _ (List.mem_append_left _ (List.mem_append_left _ (List.mem_append_left _ (List.mem_append_right _ (List.mem_append_right _ (List.mem_append_right _ (List.mem_append_right _ (List.mem_append_right _ (List.mem_append_right _ (List.mem_append_right _ (List.mem_append_right _ (List.mem_append_right _ (List.mem_append_right _ (List.mem_append_left _ h)))))))))))))))))))))))))), List.forall_mem_cons.mpr ⟨(fun _ h => (List.mem_append_left _ (List.mem_append_left _ (List.mem_append_left _ (List.mem_append_left _ (List.mem_append_left _ (List.mem_append_left _ (List.mem_append_left _ (List.mem_append_left _ (List.mem_append_left _ (List.mem_append_left _ (List.mem_append_left _ (List.mem_append_left _ (List.mem_append_left _ (List.mem_append_left _ (List.mem_append_right _ (List.mem_append_right _ (List.mem_append_right _ (List.mem_append_right _ (List.mem_append_right _ (List.mem_append_right _ (List.mem_append_right _ (List.mem_append_right _ (List.mem_append_right _ (List.mem_append_right _ (List.mem_append_right _ (List.mem_append_left _ h))))))))))))))))))))))))))), List.forall_mem_cons.mpr ⟨(fun _ h => (List.mem_append_left _ (List.mem_append_left _ (List.mem_append_left _ (List.mem_append_left _ (List.mem_append_left _ (List.mem_append_left _ (List.mem_append_left _ (List.mem_append_left _ (List.mem_append_left _ (List.mem_append_left _ (List.mem_append_left _ (List.mem_append_left _ (List.mem_append_left _ (List.mem_append_left _ (List.mem_append_right _ (List.mem_append_right _ (List.mem_append_right _ (List.mem_append_right _ (List.mem_append_right _ (List.mem_append_right _ (List.mem_append_right _ (List.mem_append_right _ (List.mem_append_right _ (List.mem_append_right _ (List.mem_append_right _ (List.mem_append_right _ (List.mem_append_left _ h)))))))))))))))))))))))))))), List.forall_mem_cons.mpr ⟨(fun _ h => (List.mem_append_left _ (List.mem_append_left _ (List.mem_append_left _ (List.mem_append_left _ (List.mem_append_left _ (List.mem_append_left _ (List.mem_append_left _ (List.mem_append_left _ (List.mem_append_left _ (List.mem_append_left _ (List.mem_append_left _ (List.mem_append_left _ (List.mem_append_left _ (List.mem_append_left _ (List.mem_append_right _ (List.mem_append_right _ (List.mem_append_right _ (List.mem_append_right _ (List.mem_append_right _ (List.mem_append_right _ (List.mem_append_right _ (List.mem_append_right _ (List.mem_append_right _ (List.mem_append_right _ (List.mem_append_right _ (List.mem_append_right _ (List.mem_append_right _ (List.mem_append_left _ h))))))))))))))))))))))))))))), List.forall_mem_cons.mpr ⟨(fun _ h => (List.mem_append_left _ (List.mem_append_left _ (List.mem_append_left _ (List.mem_append_left _ (List.mem_append_left _ (List.mem_append_left _ (List.mem_append_left _ (List.mem_append_left _ (List.mem_append_left _ (List.mem_append_left _ (List.mem_append_left _ (List.mem_append_left _ (List.mem_append_left _ (List.mem_append_left _ (List.mem_append_right _ (List.mem_append_right _ (List.mem_append_right _ (List.mem_append_right _ (List.mem_append_right _ (List.mem_append_right _ (List.mem_append_right _ (List.mem_append_right _ (List.mem_append_right _ (List.mem_append_right _ (List.mem_append_right _ (List.mem_append_right _ (List.mem_append_right _ (List.mem_append_right _ (List.mem_append_left _ h)))))))))))))))))))))))))))))), List.forall_mem_cons.mpr ⟨(fun _ h => (List.mem_append_left _ (List.mem_append_left _ (List.mem_append_left _ (List.mem_append_left _ (List.mem_append_left _ (List.mem_append_left _ (List.mem_append_left _ (List.mem_append_left _ (List.mem_append_left _ (List.mem_append_left _ (List.mem_append_left _ (List.mem_append_left _ (List.mem_append_left _ (List.mem_append_left _ (List.mem_append_right _ (List.mem_append_right _ (List.mem_append_right _ (List.mem_append_right _ (List.mem_append_right _ (List.mem_append_right _ (List.mem_append_right _ (List.mem_append_right _ (List.mem_append_right _ (List.mem_append_right _ (List.mem_append_right _ (List.mem_append_right _ (List.mem_append_right _ (List.mem_append_right _ (List.mem_append_right _ (List.mem_append_left _ h))))))))))))))))))))))))))))))), List.forall_mem_cons.mpr ⟨(fun _ h => (List.mem_append_left _ (List.mem_append_left _ (List.mem_append_left _ (List.mem_append_left _ (List.mem_append_left _ (List.mem_append_left _ (List.mem_append_left _ (List.mem_append_left _ (List.mem_append_left _ (List.mem_append_left _ (List.mem_append_left _ (List.mem_append_left _ (List.mem_append_left _ (List.mem_append_left _ (List.mem_append_right _ (List.mem_append_right _ (List.mem_append_right _ (List.mem_append_right _ (List.mem_append_right _ (List.mem_append_right _ (List.mem_append_right _ (List.mem_append_right _ (List.mem_append_right _ (List.mem_append_right _ (List.mem_append_right _ (List.mem_append_right _ (List.mem_append_right _ (List.mem_append_right _ (List.mem_append_right _ (List.mem_append_right _ (List.mem_append_left _ h)))))))))))))))))))))))))))))))), List.forall_mem_cons.mpr ⟨(fun _ h => (List.mem_append_left _ (List.mem_append_left _ (List.mem_append_left _ (List.mem_append_left _ (List.mem_append_left _ (List.mem_append_left _ (List.mem_append_left _ (List.mem_append_left _ (List.mem_append_left _ (List.mem_append_left _ (List.mem_append_left _ (List.mem_append_left _ (List.mem_append_left _ (List.mem_append_left _ (List.mem_append_right _ (List.mem_append_right _ (List.mem_append_right _ (List.mem_append_right _ (List.mem_append_right _ (List.mem_append_right _ (List.mem_append_right _ (List.mem_append_right _ (List.mem_append_right _ (List.mem_append_right _ (List.mem_append_right _ (List.mem_append_right _ (List.mem_append_right _ (List.mem_append_right _ (List.mem_append_right _ (List.mem_append_right _ (List.mem_append_right _ (List.mem_append_left _ h))))))))))))))))))))))))))))))))), List.forall_mem_cons.mpr ⟨(fun _ h => (List.mem_append_left _ (List.mem_append_left _ (List.mem_append_left _ (List.mem_append_left _ (List.mem_append_left _ (List.mem_append_left _ (List.mem_append_left _ (List.mem_append_left _ (List.mem_append_left _ (List.mem_append_left _ (List.mem_append_left _ (List.mem_append_left _ (List.mem_append_left _ (List.mem_append_left _ (List.mem_append_right _ (List.mem_append_right _ (List.mem_append_right _ (List.mem_append_right _ (List.mem_append_right _ (List.mem_append_right _ (List.mem_append_right _ (List.mem_append_right _ (List.mem_append_right _ (List.mem_append_right _ (List.mem_append_right _ (List.mem_append_right _ (List.mem_append_right _ (List.mem_append_right _ (List.mem_append_right _ (List.mem_append_right _ (List.mem_append_right _ (List.mem_append_right _ (List.mem_append_left _ h)))))))))))))))))))))))))))))))))), List.forall_mem_cons.mpr ⟨(fun _ h => (List.mem_append_left _ (List.mem_append_left _ (List.mem_append_left _ (List.mem_append_left _ (List.mem_append_left _ (List.mem_append_left _ (List.mem_append_left _ (List.mem_append_left _ (List.mem_append_left _ (List.mem_append_left _ (List.mem_append_left _ (List.mem_append_left _ (List.mem_append_left _ (List.mem_append_left _ (List.mem_append_right _ (List.mem_append_right _ (List.mem_append_right _ (List.mem_append_right _ (List.mem_append_right _ (List.mem_append_right _ (List.mem_append_right _ (List.mem_append_right _ (List.mem_append_right _ (List.mem_append_right _ (List.mem_append_right _ (List.mem_append_right _ (List.mem_append_right _ (List.mem_append_right _ (List.mem_append_right _ (List.mem_append_right _ (List.mem_append_right _ (List.mem_append_right _ (List.mem_append_right _ (List.mem_append_left _ h))))))))))))))))))))))))))))))))))), List.forall_mem_cons.mpr ⟨(fun _ h => (List.mem_append_left _ (List.mem_append_left _ (List.mem_append_left _ (List.mem_append_left _ (List.mem_append_left _ (List.mem_append_left _ (List.mem_append_left _ (List.mem_append_left _ (List.mem_append_left _ (List.mem_append_left _ (List.mem_append_left _ (List.mem_append_left _ (List.mem_append_left _ (List.mem_append_left _ (List.mem_append_right _ (List.mem_append_right _ (List.mem_append_right _ (List.mem_append_right _ (List.mem_append_right _ (List.mem_append_right _ (List.mem_append_right _ (List.mem_append_right _ (List.mem_append_right _ (List.mem_append_right _ (List.mem_append_right _ (List.mem_append_right _ (List.mem_append_right _ (List.mem_append_right _ (List.mem_append_right _ (List.mem_append_right _ (List.mem_append_right _ (List.mem_append_right _ (List.mem_append_right _ (List.mem_append_right _ (List.mem_append_left _ h)))))))))))))))))))))))))))))))))))), List.forall_mem_cons.mpr ⟨(fun _ h => (List.mem_append_left _ (List.mem_append_left _ (List.mem_append_left _ (List.mem_append_left _ (List.mem_append_left _ (List.mem_append_left _ (List.mem_append_left _ (List.mem_append_left _ (List.mem_append_left _ (List.mem_append_left _ (List.mem_append_left _ (List.mem_append_left _ (List.mem_append_left _ (List.mem_append_left _ (List.mem_append_right _ (List.mem_append_right _ (List.mem_append_right _ (List.mem_append_right _ (List.mem_append_right _ (List.mem_append_right _ (List.mem_append_right _ (List.mem_append_right _ (List.mem_append_right _ (List.mem_append_right _ (List.mem_append_right _ (List.mem_append_right _ (List.mem_append_right _ (List.mem_append_right _ (List.mem_append_right _ (List.mem_append_right _ (List.mem_append_right _ (List.mem_append_right _ (List.mem_append_right _ (List.mem_append_right _ (List.mem_append_right _ (List.mem_append_left _ h))))))))))))))))))))))))))))))))))))), List.forall_mem_cons.mpr ⟨(fun _ h => (List.mem_append_left _ (List.mem_append_left _ (List.mem_append_left _ (List.mem_append_left _ (List.mem_append_left _ (List.mem_append_left _ (List.mem_append_left _ (List.mem_append_left _ (List.mem_append_left _ (List.mem_append_left _ (List.mem_append_left _ (List.mem_append_left _ (List.mem_append_left _ (List.mem_append_left _ (List.mem_append_right _ (List.mem_append_right _ (List.mem_append_right _ (List.mem_append_right _ (List.mem_append_right _ (List.mem_append_right _ (List.mem_append_right _ (List.mem_append_right _ (List.mem_append_right _ (List.mem_append_right _ (List.mem_append_right _ (List.mem_append_right _ (List.mem_append_right _ (List.mem_append_right _ (List.mem_append_right _ (List.mem_append_right _ (List.mem_append_right _ (List.mem_append_right _ (List.mem_append_right _ (List.mem_append_right _ (List.mem_append_right _ (List.mem_append_right _ (List.mem_append_left _ h)))))))))))))))))))))))))))))))))))))), List.forall_mem_cons.mpr ⟨(fun _ h => (List.mem_append_left _ (List.mem_append_left _ (List.mem_append_left _ (List.mem_append_left _ (List.mem_append_left _ (List.mem_append_left _ (List.mem_append_left _ (List.mem_append_left _ (List.mem_append_left _ (List.mem_append_left _ (List.mem_append_left _ (List.mem_append_left _ (List.mem_append_left _ (List.mem_append_left _ (List.mem_append_right _ (List.mem_append_right _ (List.mem_append_right _ (List.mem_append_right _ (List.mem_append_right _ (List.mem_append_right _ (List.mem_append_right _ (List.mem_append_right _ (List.mem_append_right _ (List.mem_append_right _ (List.mem_append_right _ (List.mem_append_right _ (List.mem_append_right _ (List.mem_append_right _ (List.mem_append_right _ (List.mem_append_right _ (List.mem_append_right _ (List.mem_append_right _ (List.mem_append_right _ (List.mem_append_right _ (List.mem_append_right _ (List.mem_append_right _ (List.mem_append_right _ (List.mem_append_left _ h))))))))))))))))))))))))))))))))))))))), List.forall_mem_cons.mpr ⟨(fun _ h => (List.mem_append_left _ (List.mem_append_left _ (List.mem_append_left _ (List.mem_append_left _ (List.mem_append_left _ (List.mem_append_left _ (List.mem_append_left _ (List.mem_append_left _ (List.mem_append_left _ (List.mem_append_left _ (List.mem_append_left _ (List.mem_append_left _ (List.mem_append_left _ (List.mem_append_left _ (List.mem_append_right _ (List.mem_append_right _ (List.mem_append_right _ (List.mem_append_right _ (List.mem_append_right _ (List.mem_append_right _ (List.mem_append_right _ (List.mem_append_right _ (List.mem_append_right _ (List.mem_append_right _ (List.mem_append_right _ (List.mem_append_right _ (List.mem_append_right _ (List.mem_append_right _ (List.mem_append_right _ (List.mem_append_right _ (List.mem_append_right _ (List.mem_append_right _ (List.mem_append_right _ (List.mem_append_right _ (List.mem_append_right _ (List.mem_append_right _ (List.mem_append_right _ (List.mem_append_right _ (List.mem_append_left _ h)))))))))))))))))))))))))))))))))))))))), List.forall_mem_cons.mpr ⟨(fun _ h => (List.mem_append_left _ (List.mem_append_left _ (List.mem_append_left _ (List.mem_append_left _ (List.mem_append_left _ (List.mem_append_left _ (List.mem_append_left _ (List.mem_append_left _ (List.mem_append_left _ (List.mem_append_left _ (List.mem_append_left _ (List.mem_append_left _ (List.mem_append_left _ (List.mem_append_left _ (List.mem_append_right _ (List.mem_append_right _ (List.mem_append_right _ (List.mem_append_right _ (List.mem_append_right _ (List.mem_append_right _ (List.mem_append_right _ (List.mem_append_right _ (List.mem_append_right _ (List.mem_append_right _ (List.mem_append_right _ (List.mem_append_right _ (List.mem_append_right _ (List.mem_append_right _ (List.mem_append_right _ (List.mem_append_right _ (List.mem_append_right _ (List.mem_append_right _ (List.mem_append_right _ (List.mem_append_right _ (List.mem_append_right _ (List.mem_append_right _ (List.mem_append_right _ (List.mem_append_right _ (List.mem_append_right _ (List.mem_append_left _ h))))))))))))))))))))))))))))))))))))))))), List.forall_mem_cons.mpr ⟨(fun _ h => (List.mem_append_left _ (List.mem_append_left _ (List.mem_append_left _ (List.mem_append_left _ (List.mem_append_left _ (List.mem_append_left _ (List.mem_append_left _ (List.mem_append_left _ (List.mem_append_left _ (List.mem_append_left _ (List.mem_append_left _ (List.mem_append_left _ (List.mem_append_left _ (List.mem_append_left _ (List.mem_append_right _ (List.mem_append_right _ (List.mem_append_right _ (List.mem_append_right _ (List.mem_append_right _ (List.mem_append_right _ (List.mem_append_right _ (List.mem_append_right _ (List.mem_append_right _ (List.mem_append_right _ (List.mem_append_right _ (List.mem_append_right _ (List.mem_append_right _ (List.mem_append_right _ (List.mem_append_right _ (List.mem_append_right _ (List.mem_append_right _ (List.mem_append_right _ (List.mem_append_right _ (List.mem_append_right _ (List.mem_append_right _ (List.mem_append_right _ (List.mem_append_right _ (List.mem_append_right _ (List.mem_append_right _ (List.mem_append_right _ (List.mem_append_left _ h)))))))))))))))))))))))))))))))))))))))))), List.forall_mem_cons.mpr ⟨(fun _ h => (List.mem_append_left _ (List.mem_append_left _ (List.mem_append_left _ (List.mem_append_left _ (List.mem_append_left _ (List.mem_append_left _ (List.mem_append_left _ (List.mem_append_left _ (List.mem_append_left _ (List.mem_append_left _ (List.mem_append_left _ (List.mem_append_left _ (List.mem_append_left _ (List.mem_append_left _ (List.mem_append_right _ (List.mem_append_right _ (List.mem_append_right _ (List.mem_append_right _ (List.mem_append_right _ (List.mem_append_right _ (List.mem_append_right _ (List.mem_append_right _ (List.mem_append_right _ (List.mem_append_right _ (List.mem_append_right _ (List.mem_append_right _ (List.mem_append_right _ (List.mem_append_right _ (List.mem_append_right _ (List.mem_append_right _ (List.mem_append_right _ (List.mem_append_right _ (List.mem_append_right _ (List.mem_append_right _ (List.mem_append_right _ (List.mem_append_right _ (List.mem_append_right _ (List.mem_append_right _ (List.mem_append_right _ (List.mem_append_right _ (List.mem_append_right _ (List.mem_append_left _ h))))))))))))))))))))))))))))))))))))))))))), List.forall_mem_cons.mpr ⟨(fun _ h => (List.mem_append_left _ (List.mem_append_left _ (List.mem_append_left _ (List.mem_append_left _ (List.mem_append_left _ (List.mem_append_left _ (List.mem_append_left _ (List.mem_append_left _ (List.mem_append_left _ (List.mem_append_left _ (List.mem_append_left _ (List.mem_append_left _ (List.mem_append_left _ (List.mem_append_left _ (List.mem_append_right _ (List.mem_append_right _ (List.mem_append_right _ (List.mem_append_right _ (List.mem_append_right _ (List.mem_append_right _ (List.mem_append_right _ (List.mem_append_right _ (List.mem_append_right _ (List.mem_append_right _ (List.mem_append_right _ (List.mem_append_right _ (List.mem_append_right _ (List.mem_append_right _ (List.mem_append_right _ (List.mem_append_right _ (List.mem_append_right _ (List.mem_append_right _ (List.mem_append_right _ (List.mem_append_right _ (List.mem_append_right _ (List.mem_append_right _ (List.mem_append_right _ (List.mem_append_right _ (List.mem_append_right _ (List.mem_append_right _ (List.mem_append_right _ (List.mem_append_right _ (List.mem_append_left _ h)))))))))))))))))))))))))))))))))))))))))))), List.forall_mem_cons.mpr ⟨(fun _ h => (List.mem_append_left _ (List.mem_append_left _ (List.mem_append_left _ (List.mem_append_left _ (List.mem_append_left _ (List.mem_append_left _ (List.mem_append_left _ (List.mem_append_left _ (List.mem_append_left _ (List.mem_append_left _ (List.mem_append_left _ (List.mem_append_left _ (List.mem_append_left _ (List.mem_append_left _ (List.mem_append_right _ (List.mem_append_right _ (List.mem_append_right _ (List.mem_append_right _ (List.mem_append_right _ (List.mem_append_right _ (List.mem_append_right _ (List.mem_append_right _ (List.mem_append_right _ (List.mem_append_right _ (List.mem_append_right _ (List.mem_append_right _ (List.mem_append_right _ (List.mem_append_right _ (List.mem_append_right _ (List.mem_append_right _ (List.mem_append_right _ (List.mem_append_right _ (List.mem_append_right _ (List.mem_append_right _ (List.mem_append_right _ (List.mem_append_right _ (List.mem_append_right _ (List.mem_append_right _ (List.mem_append_right _ (List.mem_append_right _ (List.mem_append_right _ (List.mem_append_right _ (List.mem_append_right _ (List.mem_append_left _ h))))))))))))))))))))))))))))))))))))))))))))), List.forall_mem_cons.mpr ⟨(fun _ h => (List.mem_append_left _ (List.mem_append_left _ (List.mem_append_left _ (List.mem_append_left _ (List.mem_append_left _ (List.mem_append_left _ (List.mem_append_left _ (List.mem_append_left _ (List.mem_append_left _ (List.mem_append_left _ (List.mem_append_left _ (List.mem_append_left _ (List.mem_append_left _ (List.mem_append_left _ (List.mem_append_right _ (List.mem_append_right _ (List.mem_append_right _ (List.mem_append_right _ (List.mem_append_right _ (List.mem_append_right _ (List.mem_append_right _ (List.mem_append_right _ (List.mem_append_right _ (List.mem_append_right _ (List.mem_append_right _ (List.mem_append_right _ (List.mem_append_right _ (List.mem_append_right _ (List.mem_append_right _ (List.mem_append_right _ (List.mem_append_right _ (List.mem_append_right _ (List.mem_append_right _ (List.mem_append_right _ (List.mem_append_right _ (List.mem_append_right _ (List.mem_append_right _ (List.mem_append_right _ (List.mem_append_right _ (List.mem_append_right _ (List.mem_append_right _ (List.mem_append_right _ (List.mem_append_right _ (List.mem_append_right _ (List.mem_append_left _ h)))))))))))))))))))))))))))))))))))))))))))))), List.forall_mem_cons.mpr ⟨(fun _ h => (List.mem_append_left _ (List.mem_append_left _ (List.mem_append_left _ (List.mem_append_left _ (List.mem_append_left _ (List.mem_append_left _ (List.mem_append_left _ (List.mem_append_left _ (List.mem_append_left _ (List.mem_append_left _ (List.mem_append_left _ (List.mem_append_left _ (List.mem_append_left _ (List.mem_append_left _ (List.mem_append_right _ (List.mem_append_right _ (List.mem_append_right _ (List.mem_append_right _ (List.mem_append_right _ (List.mem_append_right _ (List.mem_append_right _ (List.mem_append_right _ (List.mem_append_right _ (List.mem_append_right _ (List.mem_append_right _ (List.mem_append_right _ (List.mem_append_right _ (List.mem_append_right _ (List.mem_append_right _ (List.mem_append_right _ (List.mem_append_right _ (List.mem_append_right _ (List.mem_append_right _ (List.mem_append_right _ (List.mem_append_right _ (List.mem_append_right _ (List.mem_append_right _ (List.mem_append_right _ (List.mem_append_right _ (List.mem_append_right _ (List.mem_append_right _ (List.mem_append_right _ (List.mem_append_right _ (List.mem_append_right _ (List.mem_append_right _ (List.mem_append_left _ h))))))))))))))))))))))))))))))))))))))))))))))), List.forall_mem_cons.mpr ⟨(fun _ h => (List.mem_append_left _ (List.mem_append_left _ (List.mem_append_left _ (List.mem_append_left _ (List.mem_append_left _ (List.mem_append_left _ (List.mem_append_left _ (List.mem_append_left _ (List.mem_append_left _ (List.mem_append_left _ (List.mem_append_left _ (List.mem_append_left _ (List.mem_append_left _ (List.mem_append_left _ (List.mem_append_right _ (List.mem_append_right _ (List.mem_append_right _ (List.mem_append_right _ (List.mem_append_right _ (List.mem_append_right _ (List.mem_append_right _ (List.mem_append_right _ (List.mem_append_right _ (List.mem_append_right _ (List.mem_append_right _ (List.mem_append_right _ (List.mem_append_right _ (List.mem_append_right _ (List.mem_append_right _ (List.mem_append_right _ (List.mem_append_right _ (List.mem_append_right _ (List.mem_append_right _ (List.mem_append_right _ (List.mem_append_right _ (List.mem_append_right _ (List.mem_append_right _ (List.mem_append_right _ (List.mem_append_right _ (List.mem_append_right _ (List.mem_append_right _ (List.mem_append_right _ (List.mem_append_right _ (List.mem_append_right _ (List.mem_append_right _ (List.mem_append_right _ (List.mem_append_left _ h)))))))))))))))))))))))))))))))))))))))))))))))), List.forall_mem_cons.mpr ⟨(fun _ h => (List.mem_append_left _ (List.mem_append_left _ (List.mem_append_left _ (List.mem_append_left _ (List.mem_append_left _ (List.mem_append_left _ (List.mem_append_left _ (List.mem_append_left _ (List.mem_append_left _ (List.mem_append_left _ (List.mem_append_left _ (List.mem_append_left _ (List.mem_append_left _ (List.mem_append_left _ (List.mem_append_right _ (List.mem_append_right _ (List.mem_append_right _ (List.mem_append_right _ (List.mem_append_right _ (List.mem_append_right _ (List.mem_append_right _ (List.mem_append_right _ (List.mem_append_right _ (List.mem_append_right _ (List.mem_append_right _ (List.mem_append_right _ (List.mem_append_right _ (List.mem_append_right _ (List.mem_append_right _ (List.mem_append_right _ (List.mem_append_right _ (List.mem_append_right _ (List.mem_append_right _ (List.mem_append_right _ (List.mem_append_right _ (List.mem_append_right _ (List.mem_append_right _ (List.mem_append_right _ (List.mem_append_right _ (List.mem_append_right _ (List.mem_append_right _ (List.mem_append_right _ (List.mem_append_right _ (List.mem_append_right _ (List.mem_append_right _ (List.mem_append_right _ (List.mem_append_right _ (List.mem_append_left _ h))))))))))))))))))))))))))))))))))))))))))))))))), List.forall_mem_cons.mpr ⟨(fun _ h => (List.mem_append_left _ (List.mem_append_left _ (List.mem_append_left _ (List.mem_append_left _ (List.mem_append_left _ (List.mem_append_left _ (List.mem_append_left _ (List.mem_append_left _ (List.mem_append_left _ (List.mem_append_left _ (List.mem_append_left _ (List.mem_append_left _ (List.mem_append_left _ (List.mem_append_left _ (List.mem_append_right _ (List.mem_append_right _ (List.mem_append_right _ (List.mem_append_right _ (List.mem_append_right _ (List.mem_append_right _ (List.mem_append_right _ (List.mem_append_right _ (List.mem_append_right _ (List.mem_append_right _ (List.mem_append_right _ (List.mem_append_right _ (List.mem_append_right _ (List.mem_append_right _ (List.mem_append_right _ (List.mem_append_right _ (List.mem_append_right _ (List.mem_append_right _ (List.mem_append_right _ (List.mem_append_right _ (List.mem_append_right _ (List.mem_append_right _ (List.mem_append_right _ (List.mem_append_right _ (List.mem_append_right _ (List.mem_append_right _ (List.mem_append_right _ (List.mem_append_right _ (List.mem_append_right _ (List.mem_append_right _ (List.mem_append_right _ (List.mem_append_right _ (List.mem_append_right _ (List.mem_append_right _ (List.mem_append_left _ h)))))))))))))))))))))))))))))))))))))))))))))))))), List.forall_mem_cons.mpr ⟨(fun _ h => (List.mem_append_left _ (List.mem_append_left _ (List.mem_append_left _ (List.mem_append_left _ (List.mem_append_left _ (List.mem_append_left _ (List.mem_append_left _ (List.mem_append_left _ (List.mem_append_left _ (List.mem_append_left _ (List.mem_append_left _ (List.mem_append_left _ (List.mem_append_left _ (List.mem_append_left _ (List.mem_append_right _ (List.mem_append_right _ (List.mem_append_right _ (List.mem_append_right _ (List.mem_append_right _ (List.mem_append_right _ (List.mem_append_right _ (List.mem_append_right _ (List.mem_append_right _ (List.mem_append_right _ (List.mem_append_right _ (List.mem_append_right _ (List.mem_append_right _ (List.mem_append_right _ (List.mem_append_right _ (List.mem_append_right _ (List.mem_append_right _ (List.mem_append_right _ (List.mem_append_right _ (List.mem_append_right _ (List.mem_append_right _ (List.mem_append_right _ (List.mem_append_right _ (List.mem_append_right _ (List.mem_append_right _ (List.mem_append_right _ (List.mem_append_right _ (List.mem_append_right _ (List.mem_append_right _ (List.mem_append_right _ (List.mem_append_right _ (List.mem_append_right _ (List.mem_append_right _ (List.mem_append_right _ (List.mem_append_right _ (List.mem_append_left _ h))))))))))))))))))))))))))))))))))))))))))))))))))), List.forall_mem_cons.mpr ⟨(fun _ h => (List.mem_append_left _ (List.mem_append_left _ (List.mem_append_left _ (List.mem_append_left _ (List.mem_append_left _ (List.mem_append_left _ (List.mem_append_left _ (List.mem_append_left _ (List.mem_append_left _ (List.mem_append_left _ (List.mem_append_left _ (List.mem_append_left _ (List.mem_append_left _ (List.mem_append_left _ (List.mem_append_right _ (List.mem_append_right _ (List.mem_append_right _ (List.mem_append_right _ (List.mem_append_right _ (List.mem_append_right _ (List.mem_append_right _ (List.mem_append_right _ (List.mem_append_right _ (List.mem_append_right _ (List.mem_append_right _ (List.mem_append_right _ (List.mem_append_right _ (List.mem_append_right _ (List.mem_append_right _ (List.mem_append_right _ (List.mem_append_right _ (List.mem_append_right _ (List.mem_append_right _ (List.mem_append_right _ (List.mem_append_right _ (List.mem_append_right _ (List.mem_append_right _ (List.mem_append_right _ (List.mem_append_right _ (List.mem_append_right _ (List.mem_append_right _ (List.mem_append_right _ (List.mem_append_right _ (List.mem_append_right _ (List.mem_append_right _ (List.mem_append_right _ (List.mem_append_right _ (List.mem_append_right _ (List.mem_append_right _ (List.mem_append_right _ (List.mem_append_left _ h)))))))))))))))))))))))))))))))))))))))))))))))))))), List.forall_mem_cons.mpr ⟨(fun _ h => (List.mem_append_left _ (List.mem_append_left _ (List.mem_append_left _ (List.mem_append_left _ (List.mem_append_left _ (List.mem_append_left _ (List.mem_append_left _ (List.mem_append_left _ (List.mem_append_left _ (List.mem_append_left _ (List.mem_append_left _ (List.mem_append_left _ (List.mem_append_left _ (List.mem_append_left _ (List.mem_append_right _ (List.mem_append_right _ (List.mem_append_right _ (List.mem_append_right _ (List.mem_append_right _ (List.mem_append_right _ (List.mem_append_right _ (List.mem_append_right _ (List.mem_append_right _ (List.mem_append_right _ (List.mem_append_right _ (List.mem_append_right _ (List.mem_append_right _ (List.mem_append_right _ (List.mem_append_right _ (List.mem_append_right _ (List.mem_append_right _ (List.mem_append_right _ (List.mem_append_right _ (List.mem_append_right _ (List.mem_append_right _ (List.mem_append_right _ (List.mem_append_right _ (List.mem_append_right _ (List.mem_append_right _ (List.mem_append_right _ (List.mem_append_right _ (List.mem_append_right _ (List.mem_append_right _ (List.mem_append_right _ (List.mem_append_right _ (List.mem_append_right _ (List.mem_append_right _ (List.mem_append_right _ (List.mem_append_right _ (List.mem_append_right _ (List.mem_append_right _ (List.mem_append_left _ h))))))))))))))))))))))))))))))))))))))))))))))))))))), List.forall_mem_cons.mpr ⟨(fun _ h => (List.mem_append_left _ (List.mem_append_left _ (List.mem_append_left _ (List.mem_append_left _ (List.mem_append_left _ (List.mem_append_left _ (List.mem_append_left _ (List.mem_append_left _ (List.mem_append_left _ (List.mem_append_left _ (List.mem_append_left _ (List.mem_append_left _ (List.mem_append_left _ (List.mem_append_left _ (List.mem_append_right _ (List.mem_append_right _ (List.mem_append_right _ (List.mem_append_right _ (List.mem_append_right _ (List.mem_append_right _ (List.mem_append_right _ (List.mem_append_right _ (List.mem_append_right _ (List.mem_append_right _ (List.mem_append_right _ (List.mem_append_right _ (List.mem_append_right _ (List.mem_append_right _ (List.mem_append_right _ (List.mem_append_right _ (List.mem_append_right _ (List.mem_append_right _ (List.mem_append_right _ (List.mem_append_right _ (List.mem_append_right _ (List.mem_append_right _ (List.mem_append_right _ (List.mem_append_right _ (List.mem_append_right _ (List.mem_append_right _ (List.mem_append_right _ (List.mem_append_right _ (List.mem_append_right _ (List.mem_append_right _ (List.mem_append_right _ (List.mem_append_right _ (List.mem_append_right _ (List.mem_append_right _ (List.mem_append_right _ (List.mem_append_right _ (List.mem_append_right _ (List.mem_append_right _ (List.mem_append_left _ h)))))))))))))))))))))))))))))))))))))))))))))))))))))), List.forall_mem_cons.mpr ⟨(fun _ h => (List.mem_append_left _ (List.mem_append_left _ (List.mem_append_left _ (List.mem_append_left _ (List.mem_append_left _ (List.mem_append_left _ (List.mem_append_left _ (List.mem_append_left _ (List.mem_append_left _ (List.mem_append_left _ (List.mem_append_left _ (List.mem_append_left _ (List.mem_append_left _ (List.mem_append_left _ (List.mem_append_right _ (List.mem_append_right _ (List.mem_append_right _ (List.mem_append_right _ (List.mem_append_right _ (List.mem_append_right _ (List.mem_append_right _ (List.mem_append_right _ (List.mem_append_right _ (List.mem_append_right _ (List.mem_append_right _ (List.mem_append_right _ (List.mem_append_right _ (List.mem_append_right _ (List.mem_append_right _ (List.mem_append_right _ (List.mem_append_right _ (List.mem_append_right _ (List.mem_append_right _ (List.mem_append_right _ (List.mem_append_right _ (List.mem_append_right _ (List.mem_append_right _ (List.mem_append_right _ (List.mem_append_right _ (List.mem_append_right _ (List.mem_append_right _ (List.mem_append_right _ (List.mem_append_right _ (List.mem_append_right _ (List.mem_append_right _ (List.mem_append_right _ (List.mem_append_right _ (List.mem_append_right _ (List.mem_append_right _ (List.mem_append_right _ (List.mem_append_right _ (List.mem_append_right _ (List.mem_append_right _ (List.mem_append_left _ h))))))))))))))))))))))))))))))))))))))))))))))))))))))), List.forall_mem_cons.mpr ⟨(fun _ h => (List.mem_append_left _ (List.mem_append_left _ (List.mem_append_left _ (List.mem_append_left _ (List.mem_append_left _ (List.mem_append_left _ (List.mem_append_left _ (List.mem_append_left _ (List.mem_append_left _ (List.mem_append_left _ (List.mem_append_left _ (List.mem_append_left _ (List.mem_append_left _ (List.mem_append_left _ (List.mem_append_right _ (List.mem_append_right _ (List.mem_append_right _ (List.mem_append_right _ (List.mem_append_right _ (List.mem_append_right _ (List.mem_append_right _ (List.mem_append_right _ (List.mem_append_right _ (List.mem_append_right _ (List.mem_append_right _ (List.mem_append_right _ (List.mem_append_right _ (List.mem_append_right _ (List.mem_append_right _ (List.mem_append_right _ (List.mem_append_right _ (List.mem_append_right _ (List.mem_append_right _ (List.mem_append_right _ (List.mem_append_right _ (List.mem_append_right _ (List.mem_append_right _ (List.mem_append_right _ (List.mem_append_right _ (List.mem_append_right _ (List.mem_append_right _ (List.mem_append_right _ (List.mem_append_right _ (List.mem_append_right _ (List.mem_append_right _ (List.mem_append_right _ (List.mem_append_right _ (List.mem_append_right _ (List.mem_append_right _ (List.mem_append_right _ (List.mem_append_right _ (List.mem_append_right _ (List.mem_append_right _ (List.mem_append_right _ (List.mem_append_left _ h)))))))))))))))))))))))))))))))))))))))))))))))))))))))), List.forall_mem_cons.mpr ⟨(fun _ h => (List.mem_append_left _ (List.mem_append_left _ (List.mem_append_left _ (List.mem_append_left _ (List.mem_append_left _ (List.mem_append_left _ (List.mem_append_left _ (List.mem_append_left _ (List.mem_append_left _ (List.mem_append_left _ (List.mem_append_left _ (List.mem_append_left _ (List.mem_append_left _ (List.mem_append_left _ (List.mem_append_right _ (List.mem_append_right _ (List.mem_append_right _ (List.mem_append_right _ (List.mem_append_right _ (List.mem_append_right _ (List.mem_append_right _ (List.mem_append_right _ (List.mem_append_right _ (List.mem_append_right _ (List.mem_append_right _ (List.mem_append_right _ (List.mem_append_right _ (List.mem_append_right _ (List.mem_append_right _ (List.mem_append_right _ (List.mem_append_right _ (List.mem_append_right _ (List.mem_append_right _ (List.mem_append_right _ (List.mem_append_right _ (List.mem_append_right _ (List.mem_append_right _ (List.mem_append_right _ (List.mem_append_right _ (List.mem_append_right _ (List.mem_append_right _ (List.mem_append_right _ (List.mem_append_right _ (List.mem_append_right _ (List.mem_append_right _ (List.mem_append_right _ (List.mem_append_right _ (List.mem_append_right _ (List.mem_append_right _ (List.mem_append_right _ (List.mem_append_right _ (List.mem_append_right _ (List.mem_append_right _ (List.mem_append_right _ (List.mem_append_right _ (List.mem_append_left _ h))))))))))))))))))))))))))))))))))))))))))))))))))))))))), List.forall_mem_cons.mpr ⟨(fun _ h => (List.mem_append_left _ (List.mem_append_left _ (List.mem_append_left _ (List.mem_append_left _ (List.mem_append_left _ (List.mem_append_left _ (List.mem_append_left _ (List.mem_append_left _ (List.mem_append_left _ (List.mem_append_left _ (List.mem_append_left _ (List.mem_append_left _ (List.mem_append_left _ (List.mem_append_left _ (List.mem_append_right _ (List.mem_append_right _ (List.mem_append_right _ (List.mem_append_right _ (List.mem_append_right _ (List.mem_append_right _ (List.mem_append_right _ (List.mem_append_right _ (List.mem_append_right _ (List.mem_append_right _ (List.mem_append_right _ (List.mem_append_right _ (List.mem_append_right _ (List.mem_append_right _ (List.mem_append_right _ (List.mem_append_right _ (List.mem_append_right _ (List.mem_append_right _ (List.mem_append_right _ (List.mem_append_right _ (List.mem_append_right _ (List.mem_append_right _ (List.mem_append_right _ (List.mem_append_right _ (List.mem_append_right _ (List.mem_append_right _ (List.mem_append_right _ (List.mem_append_right _ (List.mem_append_right _ (List.mem_append_right _ (List.mem_append_right _ (List.mem_append_right _ (List.mem_append_right _ (List.mem_append_right _ (List.mem_append_right _ (List.mem_append_right _ (List.mem_append_right _ (List.mem_append_right _ (List.mem_append_right _ (List.mem_append_right _ (List.mem_append_right _ (List.mem_append_right _ (List.mem_append_left _ h)))))))))))))))))))))))))))))))))))))))))))))))))))))))))), List.forall_mem_cons.mpr ⟨(fun _ h => (List.mem_append_left _ (List.mem_append_left _ (List.mem_append_left _ (List.mem_append_left _ (List.mem_append_left _ (List.mem_append_left _ (List.mem_append_left _ (List.mem_append_left _ (List.mem_append_left _ (List.mem_append_left _ (List.mem_append_left _ (List.mem_append_left _ (List.mem_append_left _ (List.mem_append_left _ (List.mem_append_right _ (List.mem_append_right _ (List.mem_append_right _ (List.mem_append_right _ (List.mem_append_right _ (List.mem_append_right _ (List.mem_append_right _ (List.mem_append_right _ (List.mem_append_right _ (List.mem_append_right _ (List.mem_append_right _ (List.mem_append_right _ (List.mem_append_right _ (List.mem_append_right _ (List.mem_append_right _ (List.mem_append_right _ (List.mem_append_right _ (List.mem_append_right _ (List.mem_append_right _ (List.mem_append_right _ (List.mem_append_right _ (List.mem_append_right _ (List.mem_append_right _ (List.mem_append_right _ (List.mem_append_right _ (List.mem_append_right _ (List.mem_append_right _ (List.mem_append_right _ (List.mem_append_right _ (List.mem_append_right _ (List.mem_append_right _ (List.mem_append_right _ (List.mem_append_right _ (List.mem_append_right _ (List.mem_append_right _ (List.mem_append_right _ (List.mem_append_right _ (List.mem_append_right _ (List.mem_append_right _ (List.mem_append_right _ (List.mem_append_right _ (List.mem_append_right _ (List.mem_append_right _ (List.mem_append_left _ h))))))))))))))))))))))))))))))))))))))))))))))))))))))))))), List.forall_mem_cons.mpr ⟨(fun _ h => (List.mem_append_left _ (List.mem_append_left _ (List.mem_append_left _ (List.mem_append_left _ (List.mem_append_left _ (List.mem_append_left _ (List.mem_append_left _ (List.mem_append_left _ (List.mem_append_left _ (List.mem_append_left _ (List.mem_append_left _ (List.mem_append_left _ (List.mem_append_left _ (List.mem_append_left _ (List.mem_append_right _ (List.mem_append_right _ (List.mem_append_right _ (List.mem_append_right _ (List.mem_append_right _ (List.mem_append_right _ (List.mem_append_right _ (List.mem_append_right _ (List.mem_append_right _ (List.mem_append_right _ (List.mem_append_right _ (List.mem_append_right _ (List.mem_append_right _ (List.mem_append_right _ (List.mem_append_right _ (List.mem_append_right _ (List.mem_append_right _ (List.mem_append_right _ (List.mem_append_right _ (List.mem_append_right _ (List.mem_append_right _ (List.mem_append_right _ (List.mem_append_right _ (List.mem_append_right _ (List.mem_append_right _ (List.mem_append_right _ (List.mem_append_right _ (List.mem_append_right _ (List.mem_append_right _ (List.mem_append_right _ (List.mem_append_right _ (List.mem_append_right _ (List.mem_append_right _ (List.mem_append_right _ (List.mem_append_right _ (List.mem_append_right _ (List.mem_append_right _ (List.mem_append_right _ (List.mem_append_right _ (List.mem_append_right _ (List.mem_append_right _ (List.mem_append_right _ (List.mem_append_right _ (List.mem_append_right _ (List.mem_append_left _ h)))))))))))))))))))))))))))))))))))))))))))))))))))))))))))), List.forall_mem_cons.mpr ⟨(fun _ h => (List.mem_append_left _ (List.mem_append_left _ (List.mem_append_left _ (List.mem_append_left _ (List.mem_append_left _ (List.mem_append_left _ (List.mem_append_left _ (List.mem_append_left _ (List.mem_append_left _ (List.mem_append_left _ (List.mem_append_left _ (List.mem_append_left _ (List.mem_append_left _ (List.mem_append_left _ (List.mem_append_right _ (List.mem_append_right _ (List.mem_append_right _ (List.mem_append_right _ (List.mem_append_right _ (List.mem_append_right _ (List.mem_append_right _ (List.mem_append_right _ (List.mem_append_right _ (List.mem_append_right _ (List.mem_append_right _ (List.mem_append_right _ (List.mem_append_right _ (List.mem_append_right _ (List.mem_append_right _ (List.mem_append_right _ (List.mem_append_right _ (List.mem_append_right _ (List.mem_append_right _ (List.mem_append_right _ (List.mem_append_right _ (List.mem_append_right _ (List.mem_append_right _ (List.mem_append_right _ (List.mem_append_right _ (List.mem_append_right _ (List.mem_append_right _ (List.mem_append_right _ (List.mem_append_right _ (List.mem_append_right _ (List.mem_append_right _ (List.mem_append_right _ (List.mem_append_right _ (List.mem_append_right _ (List.mem_append_right _ (List.mem_append_right _ (List.mem_append_right _ (List.mem_append_right _ (List.mem_append_right _ (List.mem_append_right _ (List.mem_append_right _ (List.mem_append_right _ (List.mem_append_right _ (List.mem_append_right _ (List.mem_append_right _ (List.mem_append_left _ h))))))))))))))))))))))))))))))))))))))))))))))))))))))))))))), List.forall_mem_cons.mpr ⟨(fun _ h => (List.mem_append_left _ (List.mem_append_left _ (List.mem_append_left _ (List.mem_append_left _ (List.mem_append_left _ (List.mem_append_left _ (List.mem_append_left _ (List.mem_append_left _ (List.mem_append_left _ (List.mem_append_left _ (List.mem_append_left _ (List.mem_append_left _ (List.mem_append_left _ (List.mem_append_left _ (List.mem_append_right _ (List.mem_append_right _ (List.mem_append_right _ (List.mem_append_right _ (List.mem_append_right _ (List.mem_append_right _ (List.mem_append_right _ (List.mem_append_right _ (List.mem_append_right _ (List.mem_append_right _ (List.mem_append_right _ (List.mem_append_right _ (List.mem_append_right _ (List.mem_append_right _ (List.mem_append_right _ (List.mem_append_right _ (List.mem_append_right _ (List.mem_append_right _ (List.mem_append_right _ (List.mem_append_right _ (List.mem_append_right _ (List.mem_append_right _ (List.mem_append_right _ (List.mem_append_right _ (List.mem_append_right _ (List.mem_append_right _ (List.mem_append_right _ (List.mem_append_right _ (List.mem_append_right _ (List.mem_append_right _ (List.mem_append_right _ (List.mem_append_right _ (List.mem_append_right _ (List.mem_append_right _ (List.mem_append_right _ (List.mem_append_right _ (List.mem_append_right _ (List.mem_append_right _ (List.mem_append_right _ (List.mem_append_right _ (List.mem_append_right _ (List.mem_append_right _ (List.mem_append_right _ (List.mem_append_right _ (List.mem_append_right _ (List.mem_append_right _ (List.mem_append_left _ h)))))))))))))))))))))))))))))))))))))))))))))))))))))))))))))), List.forall_mem_cons.mpr ⟨(fun _ h => (List.mem_append_left _ (List.mem_append_left _ (List.mem_append_left _ (List.mem_append_left _ (List.mem_append_left _ (List.mem_append_left _ (List.mem_append_left _ (List.mem_append_left _ (List.mem_append_left _ (List.mem_append_left _ (List.mem_append_left _ (List.mem_append_left _ (List.mem_append_left _ (List.mem_append_left _ (List.mem_append_right _ (List.mem_append_right _ (List.mem_append_right _ (List.mem_append_right _ (List.mem_append_right _ (List.mem_append_right _ (List.mem_append_right _ (List.mem_append_right _ (List.mem_append_right _ (List.mem_append_right _ (List.mem_append_right _ (List.mem_append_right _ (List.mem_append_right _ (List.mem_append_right _ (List.mem_append_right _ (List.mem_append_right _ (List.mem_append_right _ (List.mem_append_right _ (List.mem_append_right _ (List.mem_append_right _ (List.mem_append_right _ (List.mem_append_right _ (List.mem_append_right _ (List.mem_append_right _ (List.mem_append_right _ (List.mem_append_right _ (List.mem_append_right _ (List.mem_append_right _ (List.mem_append_right _ (List.mem_append_right _ (List.mem_append_right _ (List.mem_append_right _ (List.mem_append_right _ (List.mem_append_right _ (List.mem_append_right _ (List.mem_append_right _ (List.mem_append_right _ (List.mem_append_right _ (List.mem_append_right _ (List.mem_append_right _ (List.mem_append_right _ (List.mem_append_right _ (List.mem_append_right _ (List.mem_append_right _ (List.mem_append_right _ (List.mem_append_right _ (List.mem_append_right _ (List.mem_append_left _ h))))))))))))))))))))))))))))))))))))))))))))))))))))))))))))))), List.forall_mem_cons.mpr ⟨(fun _ h => (List.mem_append_left _ (List.mem_append_left _ (List.mem_append_left _ (List.mem_append_left _ (List.mem_append_left _ (List.mem_append_left _ (List.mem_append_left _ (List.mem_append_left _ (List.mem_append_left _ (List.mem_append_left _ (List.mem_append_left _ (List.mem_append_left _ (List.mem_append_left _ (List.mem_append_left _ (List.mem_append_right _ (List.mem_append_right _ (List.mem_append_right _ (List.mem_append_right _ (List.mem_append_right _ (List.mem_append_right _ (List.mem_append_right _ (List.mem_append_right _ (List.mem_append_right _ (List.mem_append_right _ (List.mem_append_right _ (List.mem_append_right _ (List.mem_append_right _ (List.mem_append_right _ (List.mem_append_right _ (List.mem_append_right _ (List.mem_append_right _ (List.mem_append_right _ (List.mem_append_right _ (List.mem_append_right _ (List.mem_append_right _ (List.mem_append_right _ (List.mem_append_right _ (List.mem_append_right _ (List.mem_append_right _ (List.mem_append_right _ (List.mem_append_right _ (List.mem_append_right _ (List.mem_append_right _ (List.mem_append_right _ (List.mem_append_right _ (List.mem_append_right _ (List.mem_append_right _ (List.mem_append_right _ (List.mem_append_right _ (List.mem_append_right _ (List.mem_append_right _ (List.mem_append_right _ (List.mem_append_right _ (List.mem_append_right _ (List.mem_append_right _ (List.mem_append_right _ (List.mem_append_right _ (List.mem_append_right _ (List.mem_append_right _ (List.mem_append_right _ (List.mem_append_right _ (List.mem_append_right _ (List.mem_append_left _ h)))))))))))))))))))))))))))))))))))))))))))))))))))))))))))))))), List.forall_mem_cons.mpr ⟨(fun _ h => (List.mem_append_left _ (List.mem_append_left _ (List.mem_append_left _ (List.mem_append_left _ (List.mem_append_left _ (List.mem_append_left _ (List.mem_append_left _ (List.mem_append_left _ (List.mem_append_left _ (List.mem_append_left _ (List.mem_append_left _ (List.mem_append_left _ (List.mem_append_left _ (List.mem_append_left _ (List.mem_append_right _ (List.mem_append_right _ (List.mem_append_right _ (List.mem_append_right _ (List.mem_append_right _ (List.mem_append_right _ (List.mem_append_right _ (List.mem_append_right _ (List.mem_append_right _ (List.mem_append_right _ (List.mem_append_right _ (List.mem_append_right _ (List.mem_append_right _ (List.mem_append_right _ (List.mem_append_right _ (List.mem_append_right _ (List.mem_append_right _ (List.mem_append_right _ (List.mem_append_right _ (List.mem_append_right _ (List.mem_append_right _ (List.mem_append_right _ (List.mem_append_right _ (List.mem_append_right _ (List.mem_append_right _ (List.mem_append_right _ (List.mem_append_right _ (List.mem_append_right _ (List.mem_append_right _ (List.mem_append_right _ (List.mem_append_right _ (List.mem_append_right _ (List.mem_append_right _ (List.mem_append_right _ (List.mem_append_right _ (List.mem_append_right _ (List.mem_append_right _ (List.mem_append_right _ (List.mem_append_right _ (List.mem_append_right _ (List.mem_append_right _ (List.mem_append_right _ (List.mem_append_right _ (List.mem_append_right _ (List.mem_append_right _ (List.mem_append_right _ (List.mem_append_right _ (List.mem_append_right _ (List.mem_append_right _ (List.mem_append_left _ h))))))))))))))))))))))))))))))))))))))))))))))))))))))))))))))))), List.forall_mem_cons.mpr ⟨(fun _ h => (List.mem_append_left _ (List.mem_append_left _ (List.mem_append_left _ (List.mem_append_left _ (List.mem_append_left _ (List.mem_append_left _ (List.mem_append_left _ (List.mem_append_left _ (List.mem_append_left _ (List.mem_append_left _ (List.mem_append_left _ (List.mem_append_left _ (List.mem_append_left _ (List.mem_append_left _ (List.mem_append_right _ (List.mem_append_right _ (List.mem_append_right _ (List.mem_append_right _ (List.mem_append_right _ (List.mem_append_right _ (List.mem_append_right _ (List.mem_append_right _ (List.mem_append_right _ (List.mem_append_right _ (List.mem_append_right _ (List.mem_append_right _ (List.mem_append_right _ (List.mem_append_right _ (List.mem_append_right _ (List.mem_append_right _ (List.mem_append_right _ (List.mem_append_right _ (List.mem_append_right _ (List.mem_append_right _ (List.mem_append_right _ (List.mem_append_right _ (List.mem_append_right _ (List.mem_append_right _ (List.mem_append_right _ (List.mem_append_right _ (List.mem_append_right _ (List.mem_append_right _ (List.mem_append_right _ (List.mem_append_right _ (List.mem_append_right _ (List.mem_append_right _ (List.mem_append_right _ (List.mem_append_right _ (List.mem_append_right _ (List.mem_append_right _ (List.mem_append_right _ (List.mem_append_right _ (List.mem_append_right _ (List.mem_append_right _ (List.mem_append_right _ (List.mem_append_right _ (List.mem_append_right _ (List.mem_append_right _ (List.mem_append_right _ (List.mem_append_right _ (List.mem_append_right _ (List.mem_append_right _ (List.mem_append_right _ (List.mem_append_right _ (List.mem_append_left _ h)))))))))))))))))))))))))))))))))))))))))))))))))))))))))))))))))), List.forall_mem_cons.mpr ⟨(fun _ h => (List.mem_append_left _ (List.mem_append_left _ (List.mem_append_left _ (List.mem_append_left _ (List.mem_append_left _ (List.mem_append_left _ (List.mem_append_left _ (List.mem_append_left _ (List.mem_append_left _ (List.mem_append_left _ (List.mem_append_left _ (List.mem_append_left _ (List.mem_append_left _ (List.mem_append_left _ (List.mem_append_right _ (List.mem_append_right _ (List.mem_append_right _ (List.mem_append_right _ (List.mem_append_right _ (List.mem_append_right _ (List.mem_append_right _ (List.mem_append_right _ (List.mem_append_right _ (List.mem_append_right _ (List.mem_append_right _ (List.mem_append_right _ (List.mem_append_right _ (List.mem_append_right _ (List.mem_append_right _ (List.mem_append_right _ (List.mem_append_right _ (List.mem_append_right _ (List.mem_append_right _ (List.mem_append_right _ (List.mem_append_right _ (List.mem_append_right _ (List.mem_append_right _ (List.mem_append_right _ (List.mem_append_right _ (List.mem_append_right _ (List.mem_append_right _ (List.mem_append_right _ (List.mem_append_right _ (List.mem_append_right _ (List.mem_append_right _ (List.mem_append_right _ (List.mem_append_right _ (List.mem_append_right _ (List.mem_append_right _ (List.mem_append_right _ (List.mem_append_right _ (List.mem_append_right _ (List.mem_append_right _ (List.mem_append_right _ (List.mem_append_right _ (List.mem_append_right _ (List.mem_append_right _ (List.mem_append_right _ (List.mem_append_right _ (List.mem_append_right _ (List.mem_append_right _ (List.mem_append_right _ (List.mem_append_right _ (List.mem_append_right _ (List.mem_append_right _ (List.mem_append_left _ h))))))))))))))))))))))))))))))))))))))))))))))))))))))))))))))))))), List.forall_mem_cons.mpr ⟨(fun _ h => (List.mem_append_left _ (List.mem_append_left _ (List.mem_append_left _ (List.mem_append_left _ (List.mem_append_left _ (List.mem_append_left _ (List.mem_append_left _ (List.mem_append_left _ (List.mem_append_left _ (List.mem_append_left _ (List.mem_append_left _ (List.mem_append_left _ (List.mem_append_left _ (List.mem_append_left _ (List.mem_append_right _ (List.mem_append_right _ (List.mem_append_right _ (List.mem_append_right _ (List.mem_append_right _ (List.mem_append_right _ (List.mem_append_right _ (List.mem_append_right _ (List.mem_append_right _ (List.mem_append_right _ (List.mem_append_right _ (List.mem_append_right _ (List.mem_append_right _ (List.mem_append_right _ (List.mem_append_right _ (List.mem_append_right _ (List.mem_append_right _ (List.mem_append_right _ (List.mem_append_right _ (List.mem_append_right _ (List.mem_append_right _ (List.mem_append_right _ (List.mem_append_right _ (List.mem_append_right _ (List.mem_append_right _ (List.mem_append_right _ (List.mem_append_right _ (List.mem_append_right _ (List.mem_append_right _ (List.mem_append_right _ (List.mem_append_right _ (List.mem_append_right _ (List.mem_append_right _ (List.mem_append_right _ (List.mem_append_right _ (List.mem_append_right _ (List.mem_append_right _ (List.mem_append_right _ (List.mem_append_right _ (List.mem_append_right _ (List.mem_append_right _ (List.mem_append_right _ (List.mem_append_right _ (List.mem_append_right _ (List.mem_append_right _ (List.mem_append_right _ (List.mem_append_right _ (List.mem_append_right _ (List.mem_append_right _ (List.mem_append_right _ (List.mem_append_right _ (List.mem_append_right _ (List.mem_append_left _ h)))))))))))))))))))))))))))))))))))))))))))))))))))))))))))))))))))), List.forall_mem_cons.mpr ⟨(fun _ h => (List.mem_append_left _ (List.mem_append_left _ (List.mem_append_left _ (List.mem_append_left _ (List.mem_append_left _ (List.mem_append_left _ (List.mem_append_left _ (List.mem_append_left _ (List.mem_append_left _ (List.mem_append_left _ (List.mem_append_left _ (List.mem_append_left _ (List.mem_append_left _ (List.mem_append_left _ (List.mem_append_right _ (List.mem_append_right _ (List.mem_append_right _ (List.mem_append_right _ (List.mem_append_right _ (List.mem_append_right _ (List.mem_append_right _ (List.mem_append_right _ (List.mem_append_right _ (List.mem_append_right _ (List.mem_append_right _ (List.mem_append_right _ (List.mem_append_right _ (List.mem_append_right _ (List.mem_append_right _ (List.mem_append_right _ (List.mem_append_right _ (List.mem_append_right _ (List.mem_append_right _ (List.mem_append_right _ (List.mem_append_right _ (List.mem_append_right _ (List.mem_append_right _ (List.mem_append_right _ (List.mem_append_right _ (List.mem_append_right _ (List.mem_append_right _ (List.mem_append_right _ (List.mem_append_right _ (List.mem_append_right _ (List.mem_append_right _ (List.mem_append_right _ (List.mem_append_right _ (List.mem_append_right _ (List.mem_append_right _ (List.mem_append_right _ (List.mem_append_right _ (List.mem_append_right _ (List.mem_append_right _ (List.mem_append_right _ (List.mem_append_right _ (List.mem_append_right _ (List.mem_append_right _ (List.mem_append_right _ (List.mem_append_right _ (List.mem_append_right _ (List.mem_append_right _ (List.mem_append_right _ (List.mem_append_right _ (List.mem_append_right _ (List.mem_append_right _ (List.mem_append_right _ (List.mem_append_right _ h)))))))))))))))))))))))))))))))))))))))))))))))))))))))))))))))))))), List.forall_mem_cons.mpr ⟨(fun _ h => (List.mem_append_left _ (List.mem_append_left _ (List.mem_append_left _ (List.mem_append_left _ (List.mem_append_left _ (List.mem_append_left _ (List.mem_append_left _ (List.mem_append_left _ (List.mem_append_left _ (List.mem_append_left _ (List.mem_append_left _ (List.mem_append_left _ (List.mem_append_left _ (List.mem_append_right _ h))))))))))))))), List.forall_mem_cons.mpr ⟨(fun _ h => (List.mem_append_left _ (List.mem_append_left _ (List.mem_append_left _ (List.mem_append_left _ (List.mem_append_left _ (List.mem_append_left _ (List.mem_append_left _ (List.mem_append_left _ (List.mem_append_left _ (List.mem_append_left _ (List.mem_append_left _ (List.mem_append_left _ (List.mem_append_right _ h)))))))))))))), List.forall_mem_cons.mpr ⟨(fun _ h => (List.mem_append_left _ (List.mem_append_left _ (List.mem_append_left _ (List.mem_append_left _ (List.mem_append_left _ (List.mem_append_left _ (List.mem_append_left _ (List.mem_append_left _ (List.mem_append_left _ (List.mem_append_left _ (List.mem_append_left _ (List.mem_append_right _ h))))))))))))), List.forall_mem_cons.mpr ⟨(fun _ h => (List.mem_append_left _ (List.mem_append_left _ (List.mem_append_left _ (List.mem_append_left _ (List.mem_append_left _ (List.mem_append_left _ (List.mem_append_left _ (List.mem_append_left _ (List.mem_append_left _ (List.mem_append_left _ (List.mem_append_right _ h)))))))))))), List.forall_mem_cons.mpr ⟨(fun _ h => (List.mem_append_left _ (List.mem_append_left _ (List.mem_append_left _ (List.mem_append_left _ (List.mem_append_left _ (List.mem_append_left _ (List.mem_append_left _ (List.mem_append_left _ (List.mem_append_left _ (List.mem_append_right _ h))))))))))), List.forall_mem_cons.mpr ⟨(fun _ h => (List.mem_append_left _ (List.mem_append_left _ (List.mem_append_left _ (List.mem_append_left _ (List.mem_append_left _ (List.mem_append_left _ (List.mem_append_left _ (List.mem_append_left _ (List.mem_append_right _ h)))))))))), List.forall_mem_cons.mpr ⟨(fun _ h => (List.mem_append_left _ (List.mem_append_left _ (List.mem_append_left _ (List.mem_append_left _ (List.mem_append_left _ (List.mem_append_left _ (List.mem_append_left _ (List.mem_append_right _ h))))))))), List.forall_mem_cons.mpr ⟨(fun _ h => (List.mem_append_left _ (List.mem_append_left _ (List.mem_append_left _ (List.mem_append_left _ (List.mem_append_left _ (List.mem_append_left _ (List.mem_append_right _ h)))))))), List.forall_mem_cons.mpr ⟨(fun _ h => (List.mem_append_left _ (List.mem_append_left _ (List.mem_append_left _ (List.mem_append_left _ (List.mem_append_left _ (List.mem_append_right _ h))))))), List.forall_mem_cons.mpr ⟨(fun _ h => (List.mem_append_left _ (List.mem_append_left _ (List.mem_append_left _ (List.mem_append_left _ (List.mem_append_right _ h)))))), List.forall_mem_cons.mpr ⟨(fun _ h => (List.mem_append_left _ (List.mem_append_left _ (List.mem_append_left _ (List.mem_append_right _ h))))), List.forall_mem_cons.mpr ⟨(fun _ h => (List.mem_append_left _ (List.mem_append_left _ (List.mem_append_right _ h)))), List.forall_mem_cons.mpr ⟨(fun _ h => (List.mem_append_left _ (List.mem_append_right _ h))), fun l h => absurd h List.not_mem_nil⟩⟩⟩⟩⟩⟩⟩⟩⟩⟩⟩⟩⟩⟩⟩⟩⟩⟩⟩⟩⟩⟩⟩⟩⟩⟩⟩⟩⟩⟩⟩⟩⟩⟩⟩⟩⟩⟩⟩⟩⟩⟩⟩⟩⟩⟩⟩⟩⟩⟩⟩⟩⟩⟩⟩⟩⟩⟩⟩⟩⟩⟩⟩⟩⟩⟩⟩
theorem mem_r2 {big : List Cond} (cs : List (List Cond)) (hc : ∀ l ∈ cs, ∀ w ∈ l, w ∈ big) (ws : List Cond) (ps : List (Nat × Nat)) (hp : ws = ps.filterMap (fun i => (cs[i.1]?).bind (fun l => l[i.2]?))) : ∀ w ∈ ws, w ∈ big := by
  intro w hw
  rw [hp] at hw
  obtain ⟨i, -, hi⟩ := List.mem_filterMap.mp hw
  obtain ⟨l, hl, hi⟩ := Option.bind_eq_some_iff.mp hi
  exact hc l (List.mem_of_getElem? hl) w (List.mem_of_getElem? hi)
noncomputable def lwt0 : List Cond := lw_tbl
noncomputable def lwt1 : List Cond := lwt0.drop 32
noncomputable def lwt2 : List Cond := lwt1.drop 32
noncomputable def lwt3 : List Cond := lwt2.drop 32
noncomputable def lwt4 : List Cond := lwt3.drop 32
noncomputable def lwt5 : List Cond := lwt4.drop 32
noncomputable def lwt6 : List Cond := lwt5.drop 32
noncomputable def lwt7 : List Cond := lwt6.drop 32
noncomputable def lwt8 : List Cond := lwt7.drop 32
noncomputable def lwt9 : List Cond := lwt8.drop 32
noncomputable def lwt10 : List Cond := lwt9.drop 32
noncomputable def lwt11 : List Cond := lwt10.drop 32
noncomputable def lwt12 : List Cond := lwt11.drop 32
noncomputable def lwt13 : List Cond := lwt12.drop 32
noncomputable def lwt14 : List Cond := lwt13.drop 32
noncomputable def lwt15 : List Cond := lwt14.drop 32
noncomputable def lwt16 : List Cond := lwt15.drop 32
noncomputable def lwt17 : List Cond := lwt16.drop 32
noncomputable def lwt18 : List Cond := lwt17.drop 32
noncomputable def lwt19 : List Cond := lwt18.drop 32
noncomputable def lwt20 : List Cond := lwt19.drop 32
noncomputable def lwt21 : List Cond := lwt20.drop 32
noncomputable def lwt22 : List Cond := lwt21.drop 32
noncomputable def lwt23 : List Cond := lwt22.drop 32
noncomputable def lwt24 : List Cond := lwt23.drop 32
noncomputable def lwt25 : List Cond := lwt24.drop 32
noncomputable def lwt26 : List Cond := lwt25.drop 32
noncomputable def lwt27 : List Cond := lwt26.drop 32
noncomputable def lwt28 : List Cond := lwt27.drop 32
noncomputable def lwt29 : List Cond := lwt28.drop 32
noncomputable def lwt30 : List Cond := lwt29.drop 32
noncomputable def lwt31 : List Cond := lwt30.drop 32
noncomputable def lwt32 : List Cond := lwt31.drop 32
noncomputable def lwt33 : List Cond := lwt32.drop 32
noncomputable def lwt34 : List Cond := lwt33.drop 32
noncomputable def lwt35 : List Cond := lwt34.drop 32
noncomputable def lwt36 : List Cond := lwt35.drop 32
noncomputable def lwt37 : List Cond := lwt36.drop 32
noncomputable def lwt38 : List Cond := lwt37.drop 32
noncomputable def lwt39 : List Cond := lwt38.drop 32
noncomputable def lwt40 : List Cond := lwt39.drop 32
noncomputable def lwt41 : List Cond := lwt40.drop 32
noncomputable def lwt42 : List Cond := lwt41.drop 32
noncomputable def lwt43 : List Cond := lwt42.drop 32
noncomputable def lwt44 : List Cond := lwt43.drop 32
noncomputable def lwt45 : List Cond := lwt44.drop 32
noncomputable def lwt46 : List Cond := lwt45.drop 32
noncomputable def lwt47 : List Cond := lwt46.drop 32
noncomputable def lwt48 : List Cond := lwt47.drop 32
noncomputable def lwt49 : List Cond := lwt48.drop 32
noncomputable def lwt50 : List Cond := lwt49.drop 32
noncomputable def lwt51 : List Cond := lwt50.drop 32
noncomputable def lwt52 : List Cond := lwt51.drop 32
noncomputable def lwt53 : List Cond := lwt52.drop 32
theorem lwt0_in : ∀ w ∈ lwt0, w ∈ lw_tbl := fun _ h => h
theorem lwt1_in : ∀ w ∈ lwt1, w ∈ lw_tbl := fun w h => lwt0_in w (List.mem_of_mem_drop h)
theorem lwt2_in : ∀ w ∈ lwt2, w ∈ lw_tbl := fun w h => lwt1_in w (List.mem_of_mem_drop h)
theorem lwt3_in : ∀ w ∈ lwt3, w ∈ lw_tbl := fun w h => lwt2_in w (List.mem_of_mem_drop h)
theorem lwt4_in : ∀ w ∈ lwt4, w ∈ lw_tbl := fun w h => lwt3_in w (List.mem_of_mem_drop h)
theorem lwt5_in : ∀ w ∈ lwt5, w ∈ lw_tbl := fun w h => lwt4_in w (List.mem_of_mem_drop h)
theorem lwt6_in : ∀ w ∈ lwt6, w ∈ lw_tbl := fun w h => lwt5_in w (List.mem_of_mem_drop h)
theorem lwt7_in : ∀ w ∈ lwt7, w ∈ lw_tbl := fun w h => lwt6_in w (List.mem_of_mem_drop h)
theorem lwt8_in : ∀ w ∈ lwt8, w ∈ lw_tbl := fun w h => lwt7_in w (List.mem_of_mem_drop h)
theorem lwt9_in : ∀ w ∈ lwt9, w ∈ lw_tbl := fun w h => lwt8_in w (List.mem_of_mem_drop h)
theorem lwt10_in : ∀ w ∈ lwt10, w ∈ lw_tbl := fun w h => lwt9_in w (List.mem_of_mem_drop h)
theorem lwt11_in : ∀ w ∈ lwt11, w ∈ lw_tbl := fun w h => lwt10_in w (List.mem_of_mem_drop h)
theorem lwt12_in : ∀ w ∈ lwt12, w ∈ lw_tbl := fun w h => lwt11_in w (List.mem_of_mem_drop h)
theorem lwt13_in : ∀ w ∈ lwt13, w ∈ lw_tbl := fun w h => lwt12_in w (List.mem_of_mem_drop h)
theorem lwt14_in : ∀ w ∈ lwt14, w ∈ lw_tbl := fun w h => lwt13_in w (List.mem_of_mem_drop h)
theorem lwt15_in : ∀ w ∈ lwt15, w ∈ lw_tbl := fun w h => lwt14_in w (List.mem_of_mem_drop h)
theorem lwt16_in : ∀ w ∈ lwt16, w ∈ lw_tbl := fun w h => lwt15_in w (List.mem_of_mem_drop h)
theorem lwt17_in : ∀ w ∈ lwt17, w ∈ lw_tbl := fun w h => lwt16_in w (List.mem_of_mem_drop h)
theorem lwt18_in : ∀ w ∈ lwt18, w ∈ lw_tbl := fun w h => lwt17_in w (List.mem_of_mem_drop h)
theorem lwt19_in : ∀ w ∈ lwt19, w ∈ lw_tbl := fun w h => lwt18_in w (List.mem_of_mem_drop h)
theorem lwt20_in : ∀ w ∈ lwt20, w ∈ lw_tbl := fun w h => lwt19_in w (List.mem_of_mem_drop h)
theorem lwt21_in : ∀ w ∈ lwt21, w ∈ lw_tbl := fun w h => lwt20_in w (List.mem_of_mem_drop h)
theorem lwt22_in : ∀ w ∈ lwt22, w ∈ lw_tbl := fun w h => lwt21_in w (List.mem_of_mem_drop h)
theorem lwt23_in : ∀ w ∈ lwt23, w ∈ lw_tbl := fun w h => lwt22_in w (List.mem_of_mem_drop h)
theorem lwt24_in : ∀ w ∈ lwt24, w ∈ lw_tbl := fun w h => lwt23_in w (List.mem_of_mem_drop h)
theorem lwt25_in : ∀ w ∈ lwt25, w ∈ lw_tbl := fun w h => lwt24_in w (List.mem_of_mem_drop h)
theorem lwt26_in : ∀ w ∈ lwt26, w ∈ lw_tbl := fun w h => lwt25_in w (List.mem_of_mem_drop h)
theorem lwt27_in : ∀ w ∈ lwt27, w ∈ lw_tbl := fun w h => lwt26_in w (List.mem_of_mem_drop h)
theorem lwt28_in : ∀ w ∈ lwt28, w ∈ lw_tbl := fun w h => lwt27_in w (List.mem_of_mem_drop h)
theorem lwt29_in : ∀ w ∈ lwt29, w ∈ lw_tbl := fun w h => lwt28_in w (List.mem_of_mem_drop h)
theorem lwt30_in : ∀ w ∈ lwt30, w ∈ lw_tbl := fun w h => lwt29_in w (List.mem_of_mem_drop h)
theorem lwt31_in : ∀ w ∈ lwt31, w ∈ lw_tbl := fun w h => lwt30_in w (List.mem_of_mem_drop h)
theorem lwt32_in : ∀ w ∈ lwt32, w ∈ lw_tbl := fun w h => lwt31_in w (List.mem_of_mem_drop h)
theorem lwt33_in : ∀ w ∈ lwt33, w ∈ lw_tbl := fun w h => lwt32_in w (List.mem_of_mem_drop h)
theorem lwt34_in : ∀ w ∈ lwt34, w ∈ lw_tbl := fun w h => lwt33_in w (List.mem_of_mem_drop h)
theorem lwt35_in : ∀ w ∈ lwt35, w ∈ lw_tbl := fun w h => lwt34_in w (List.mem_of_mem_drop h)
theorem lwt36_in : ∀ w ∈ lwt36, w ∈ lw_tbl := fun w h => lwt35_in w (List.mem_of_mem_drop h)
theorem lwt37_in : ∀ w ∈ lwt37, w ∈ lw_tbl := fun w h => lwt36_in w (List.mem_of_mem_drop h)
theorem lwt38_in : ∀ w ∈ lwt38, w ∈ lw_tbl := fun w h => lwt37_in w (List.mem_of_mem_drop h)
theorem lwt39_in : ∀ w ∈ lwt39, w ∈ lw_tbl := fun w h => lwt38_in w (List.mem_of_mem_drop h)
theorem lwt40_in : ∀ w ∈ lwt40, w ∈ lw_tbl := fun w h => lwt39_in w (List.mem_of_mem_drop h)
theorem lwt41_in : ∀ w ∈ lwt41, w ∈ lw_tbl := fun w h => lwt40_in w (List.mem_of_mem_drop h)
theorem lwt42_in : ∀ w ∈ lwt42, w ∈ lw_tbl := fun w h => lwt41_in w (List.mem_of_mem_drop h)
theorem lwt43_in : ∀ w ∈ lwt43, w ∈ lw_tbl := fun w h => lwt42_in w (List.mem_of_mem_drop h)
theorem lwt44_in : ∀ w ∈ lwt44, w ∈ lw_tbl := fun w h => lwt43_in w (List.mem_of_mem_drop h)
theorem lwt45_in : ∀ w ∈ lwt45, w ∈ lw_tbl := fun w h => lwt44_in w (List.mem_of_mem_drop h)
theorem lwt46_in : ∀ w ∈ lwt46, w ∈ lw_tbl := fun w h => lwt45_in w (List.mem_of_mem_drop h)
theorem lwt47_in : ∀ w ∈ lwt47, w ∈ lw_tbl := fun w h => lwt46_in w (List.mem_of_mem_drop h)
theorem lwt48_in : ∀ w ∈ lwt48, w ∈ lw_tbl := fun w h => lwt47_in w (List.mem_of_mem_drop h)
theorem lwt49_in : ∀ w ∈ lwt49, w ∈ lw_tbl := fun w h => lwt48_in w (List.mem_of_mem_drop h)
theorem lwt50_in : ∀ w ∈ lwt50, w ∈ lw_tbl := fun w h => lwt49_in w (List.mem_of_mem_drop h)
theorem lwt51_in : ∀ w ∈ lwt51, w ∈ lw_tbl := fun w h => lwt50_in w (List.mem_of_mem_drop h)
theorem lwt52_in : ∀ w ∈ lwt52, w ∈ lw_tbl := fun w h => lwt51_in w (List.mem_of_mem_drop h)
theorem lwt53_in : ∀ w ∈ lwt53, w ∈ lw_tbl := fun w h => lwt52_in w (List.mem_of_mem_drop h)
noncomputable def lwt_cs : List (List Cond) := [lwt0, lwt1, lwt2, lwt3, lwt4, lwt5, lwt6, lwt7, lwt8, lwt9, lwt10, lwt11, lwt12, lwt13, lwt14, lwt15, lwt16, lwt17, lwt18, lwt19, lwt20, lwt21, lwt22, lwt23, lwt24, lwt25, lwt26, lwt27, lwt28, lwt29, lwt30, lwt31, lwt32, lwt33, lwt34, lwt35, lwt36, lwt37, lwt38, lwt39, lwt40, lwt41, lwt42, lwt43, lwt44, lwt45, lwt46, lwt47, lwt48, lwt49, lwt50, lwt51, lwt52, lwt53]
set_option maxRecDepth 20000 in
theorem lwt_cs_in : ∀ l ∈ lwt_cs, ∀ w ∈ l, w ∈ lw_tbl := by
  unfold lwt_cs
  refine List.forall_mem_cons.mpr ⟨lwt0_in, List.forall_mem_cons.mpr ⟨lwt1_in, List.forall_mem_cons.mpr ⟨lwt2_in, List.forall_mem_cons.mpr ⟨lwt3_in, List.forall_mem_cons.mpr ⟨lwt4_in, List.forall_mem_cons.mpr ⟨lwt5_in, List.forall_mem_cons.mpr ⟨lwt6_in, List.forall_mem_cons.mpr ⟨lwt7_in, List.forall_mem_cons.mpr ⟨lwt8_in, List.forall_mem_cons.mpr ⟨lwt9_in, List.forall_mem_cons.mpr ⟨lwt10_in, List.forall_mem_cons.mpr ⟨lwt11_in, List.forall_mem_cons.mpr ⟨lwt12_in, List.forall_mem_cons.mpr ⟨lwt13_in, List.forall_mem_cons.mpr ⟨lwt14_in, List.forall_mem_cons.mpr ⟨lwt15_in, List.forall_mem_cons.mpr ⟨lwt16_in, List.forall_mem_cons.mpr ⟨lwt17_in, List.forall_mem_cons.mpr ⟨lwt18_in, List.forall_mem_cons.mpr ⟨lwt19_in, List.forall_mem_cons.mpr ⟨lwt20_in, List.forall_mem_cons.mpr ⟨lwt21_in, List.forall_mem_cons.mpr ⟨lwt22_in, List.forall_mem_cons.mpr ⟨lwt23_in, List.forall_mem_cons.mpr ⟨lwt24_in, List.forall_mem_cons.mpr ⟨lwt25_in, List.forall_mem_cons.mpr ⟨lwt26_in, List.forall_mem_cons.mpr ⟨lwt27_in, List.forall_mem_cons.mpr ⟨lwt28_in, List.forall_mem_cons.mpr ⟨lwt29_in, List.forall_mem_cons.mpr ⟨lwt30_in, List.forall_mem_cons.mpr ⟨lwt31_in, List.forall_mem_cons.mpr ⟨lwt32_in, List.forall_mem_cons.mpr ⟨lwt33_in, List.forall_mem_cons.mpr ⟨lwt34_in, List.forall_mem_cons.mpr ⟨lwt35_in, List.forall_mem_cons.mpr ⟨lwt36_in, List.forall_mem_cons.mpr ⟨lwt37_in, List.forall_mem_cons.mpr ⟨lwt38_in, List.forall_mem_cons.mpr ⟨lwt39_in, List.forall_mem_cons.mpr ⟨lwt40_in, List.forall_mem_cons.mpr ⟨lwt41_in, List.forall_mem_cons.mpr ⟨lwt42_in, List.forall_mem_cons.mpr ⟨lwt43_in, List.forall_mem_cons.mpr ⟨lwt44_in, List.forall_mem_cons.mpr ⟨lwt45_in, List.forall_mem_cons.mpr ⟨lwt46_in, List.forall_mem_cons.mpr ⟨lwt47_in, List.forall_mem_cons.mpr ⟨lwt48_in, List.forall_mem_cons.mpr ⟨lwt49_in, List.forall_mem_cons.mpr ⟨lwt50_in, List.forall_mem_cons.mpr ⟨lwt51_in, List.forall_mem_cons.mpr ⟨lwt52_in, List.forall_mem_cons.mpr ⟨lwt53_in, fun l h => absurd h List.not_mem_nil⟩⟩⟩⟩⟩⟩⟩⟩⟩⟩⟩⟩⟩⟩⟩⟩⟩⟩⟩⟩⟩⟩⟩⟩⟩⟩⟩⟩⟩⟩⟩⟩⟩⟩⟩⟩⟩⟩⟩⟩⟩⟩⟩⟩⟩⟩⟩⟩⟩⟩⟩⟩⟩⟩
set_option maxRecDepth 100000 in
set_option maxHeartbeats 4000000 in
theorem wsL_law_in : ∀ w ∈ wsL_law, w ∈ lw_tbl := mem_r2 lwt_cs lwt_cs_in _ [(3, 4), (3, 5), (2, 19), (36, 0), (36, 1), (3, 0), (53, 7), (3, 6), (3, 7), (3, 8), (3, 9), (3, 10), (3, 11), (3, 12), (3, 13), (2, 20), (15, 28), (3, 28), (3, 29), (2, 21), (15, 29), (4, 22), (4, 23), (2, 22), (15, 30), (5, 27), (5, 28), (2, 23), (15, 31), (6, 26), (6, 27), (2, 24), (16, 0), (8, 7), (16, 1), (16, 2), (8, 9), (2, 25), (16, 3), (10, 18), (10, 19), (2, 26), (16, 4), (12, 4), (12, 5), (2, 27), (16, 5), (13, 14), (13, 15), (2, 28), (16, 6), (14, 7), (14, 8), (2, 29), (16, 7), (14, 31), (15, 0), (2, 30), (16, 8), (3, 15), (3, 16), (3, 17), (3, 27), (3, 18), (3, 20), (3, 31), (4, 0), (4, 1), (4, 2), (4, 4), (4, 21), (4, 5), (4, 6), (4, 7), (4, 25), (4, 26), (4, 27), (4, 28), (4, 31), (5, 3), (5, 5), (5, 26), (5, 7), (5, 10), (5, 30), (5, 31), (6, 0), (6, 1), (6, 2), (6, 3), (6, 4), (6, 5), (6, 6), (6, 7), (6, 8), (6, 28), (6, 29), (6, 30), (6, 31), (7, 0), (7, 3), (7, 6), (7, 9), (7, 12), (7, 15), (7, 17), (7, 18), (7, 19), (8, 11), (8, 12), (8, 13), (8, 14), (8, 19), (8, 24), (8, 28), (9, 0), (9, 4), (9, 7), (9, 9), (9, 10), (9, 13), (9, 15), (9, 17), (10, 17), (9, 20), (10, 20), (10, 21), (10, 22), (10, 23), (10, 24), (10, 26), (10, 28), (10, 30), (11, 0), (11, 2), (11, 3), (11, 4), (11, 5), (11, 6), (11, 8), (11, 9), (11, 10), (12, 6), (12, 7), (12, 8), (12, 9), (12, 11), (12, 13), (12, 15), (12, 17), (12, 10), (12, 19), (12, 20), (12, 21), (12, 22), (12, 23), (12, 24), (13, 16), (13, 17), (13, 18), (13, 19), (13, 20), (13, 22), (13, 24), (13, 26), (13, 27), (14, 10), (14, 11), (14, 12), (14, 13), (14, 15), (14, 17), (14, 18), (14, 19), (15, 1), (15, 2), (15, 3), (15, 4), (15, 10), (15, 12), (15, 14), (15, 5), (15, 27), (15, 16), (15, 7), (15, 8), (2, 31), (15, 9), (36, 2), (36, 3), (36, 4), (36, 5), (36, 7), (36, 8), (36, 10), (36, 11), (36, 12), (36, 13), (36, 14), (36, 16), (36, 17), (36, 18), (36, 19), (36, 20), (36, 21), (36, 22), (36, 23), (36, 24), (36, 25), (36, 26), (36, 27), (36, 29), (36, 30), (36, 31), (37, 0), (37, 1), (37, 2), (37, 5), (37, 7), (37, 9), (37, 10), (37, 11), (37, 13), (37, 14), (37, 15), (37, 16), (37, 17), (37, 26), (37, 28), (37, 30), (37, 31), (38, 0), (17, 4), (17, 5), (17, 6), (17, 7), (3, 21), (17, 8), (17, 9), (17, 10), (17, 11), (41, 24), (41, 25), (41, 26), (41, 27), (36, 28), (41, 28), (41, 29), (41, 30), (17, 12), (17, 13), (17, 14), (17, 15), (3, 19), (4, 9), (17, 16), (17, 17), (17, 18), (17, 19), (17, 20), (17, 21), (17, 22), (17, 23), (17, 24), (17, 25), (17, 26), (17, 27), (17, 29), (17, 28), (3, 1), (41, 31), (42, 0), (42, 1), (42, 2), (36, 6), (42, 3), (42, 5), (1, 5), (42, 6), (42, 7), (42, 9), (1, 6), (42, 10), (17, 30), (17, 31), (18, 0), (18, 1), (18, 2), (18, 3), (18, 4), (18, 5), (18, 6), (18, 7), (18, 8), (18, 9), (18, 10), (42, 11), (42, 12), (42, 13), (42, 14), (42, 15), (42, 17), (1, 7), (42, 18), (42, 19), (42, 21), (1, 8), (42, 22), (42, 23), (18, 11), (18, 12), (18, 13), (18, 14), (5, 11), (18, 15), (18, 16), (18, 17), (18, 18), (18, 19), (18, 20), (18, 21), (42, 24), (42, 25), (42, 26), (42, 27), (36, 9), (18, 22), (18, 23), (18, 24), (18, 25), (4, 30), (18, 26), (18, 27), (18, 28), (18, 29), (18, 30), (18, 31), (19, 0), (19, 1), (19, 2), (19, 3), (19, 4), (5, 12), (4, 11), (19, 5), (19, 7), (0, 0), (19, 8), (42, 28), (42, 29), (42, 30), (42, 31), (43, 0), (43, 2), (1, 9), (43, 3), (19, 9), (19, 10), (19, 11), (19, 12), (5, 4), (43, 4), (43, 5), (43, 6), (43, 7), (19, 13), (19, 14), (19, 15), (19, 16), (19, 17), (5, 1), (5, 6), (5, 9), (19, 18), (19, 19), (19, 20), (19, 21), (19, 22), (19, 23), (19, 24), (19, 25), (19, 26), (19, 27), (19, 28), (19, 29), (19, 30), (19, 31), (20, 0), (43, 8), (43, 9), (43, 10), (43, 11), (43, 12), (43, 13), (43, 15), (1, 10), (43, 16), (43, 17), (43, 19), (1, 11), (43, 20), (20, 1), (20, 2), (20, 3), (20, 4), (20, 5), (20, 6), (20, 7), (20, 8), (20, 9), (20, 10), (20, 11), (20, 12), (20, 13), (20, 14), (20, 15), (3, 2), (20, 16), (20, 17), (20, 18), (20, 19), (20, 20), (20, 21), (20, 22), (20, 23), (20, 24), (9, 16), (9, 8), (8, 25), (8, 29), (9, 2), (20, 25), (20, 27), (0, 1), (20, 28), (8, 15), (5, 0), (9, 11), (21, 3), (20, 29), (20, 30), (3, 3), (20, 31), (21, 0), (21, 1), (21, 2), (21, 4), (21, 6), (0, 2), (21, 7), (21, 8), (21, 10), (0, 3), (21, 11), (21, 12), (21, 14), (0, 4), (21, 15), (21, 16), (21, 18), (0, 5), (22, 2), (21, 23), (21, 24), (21, 25), (21, 26), (21, 27), (21, 29), (0, 7), (21, 30), (21, 31), (22, 1), (0, 8), (21, 19), (21, 20), (21, 22), (0, 6), (22, 3), (22, 4), (22, 5), (22, 6), (22, 7), (22, 9), (0, 9), (22, 10), (22, 11), (22, 12), (22, 13), (22, 14), (22, 15), (22, 16), (22, 17), (22, 18), (22, 19), (22, 23), (22, 20), (22, 21), (22, 22), (22, 25), (22, 26), (22, 27), (22, 28), (22, 30), (0, 10), (22, 31), (23, 1), (23, 2), (23, 3), (23, 5), (0, 11), (23, 6), (43, 21), (43, 22), (43, 23), (43, 24), (36, 15), (43, 25), (43, 27), (1, 12), (43, 28), (37, 22), (37, 23), (37, 24), (37, 25), (43, 29), (43, 31), (1, 13), (44, 0), (44, 1), (44, 3), (1, 14), (44, 4), (37, 18), (37, 19), (37, 20), (37, 21), (44, 5), (44, 7), (1, 15), (44, 8), (44, 9), (44, 11), (1, 16), (44, 12), (44, 13), (44, 15), (1, 17), (44, 16), (44, 17), (44, 19), (1, 18), (44, 24), (44, 20), (44, 21), (44, 23), (1, 19), (44, 25), (44, 26), (44, 27), (44, 28), (44, 30), (1, 20), (44, 31), (45, 0), (45, 1), (45, 2), (45, 3), (45, 4), (23, 7), (23, 8), (23, 9), (23, 10), (8, 18), (9, 6), (8, 27), (8, 31), (9, 3), (23, 11), (23, 13), (0, 12), (23, 14), (23, 15), (23, 16), (23, 17), (23, 18), (23, 19), (23, 20), (23, 21), (23, 22), (23, 23), (23, 24), (23, 25), (23, 26), (23, 27), (23, 28), (23, 29), (23, 30), (23, 31), (47, 1), (47, 2), (47, 3), (47, 4), (45, 9), (45, 11), (1, 21), (45, 12), (47, 5), (47, 7), (1, 31), (47, 8), (46, 29), (46, 31), (1, 30), (47, 0), (45, 17), (45, 19), (1, 22), (45, 20), (37, 27), (45, 21), (45, 23), (1, 23), (45, 24), (45, 25), (45, 27), (1, 24), (45, 28), (24, 0), (24, 1), (24, 2), (24, 3), (9, 19), (24, 4), (24, 5), (24, 6), (45, 5), (45, 6), (45, 7), (45, 8), (24, 7), (24, 8), (24, 9), (24, 10), (7, 8), (7, 2), (24, 11), (24, 12), (24, 13), (24, 14), (9, 1), (24, 15), (24, 17), (0, 13), (24, 18), (8, 16), (24, 19), (24, 20), (24, 22), (0, 14), (24, 23), (24, 24), (24, 26), (0, 15), (24, 27), (9, 5), (9, 21), (9, 18), (24, 28), (24, 30), (0, 16), (24, 31), (25, 0), (25, 2), (0, 17), (25, 3), (25, 5), (25, 7), (0, 18), (25, 8), (45, 13), (45, 14), (45, 15), (45, 16), (25, 9), (25, 10), (25, 11), (25, 12), (8, 23), (7, 11), (7, 5), (25, 13), (25, 14), (25, 15), (25, 16), (8, 26), (8, 30), (25, 18), (5, 2), (25, 17), (25, 19), (25, 21), (0, 19), (25, 22), (25, 23), (25, 24), (25, 25), (25, 26), (45, 29), (45, 30), (45, 31), (46, 0), (37, 29), (46, 1), (46, 3), (1, 25), (46, 4), (46, 5), (46, 7), (1, 26), (46, 8), (46, 9), (46, 11), (1, 27), (46, 12), (46, 13), (46, 15), (1, 28), (46, 16), (25, 27), (25, 28), (25, 29), (25, 30), (7, 16), (25, 31), (46, 17), (46, 18), (46, 19), (46, 20), (26, 0), (26, 1), (26, 2), (26, 3), (9, 14), (26, 4), (26, 5), (46, 21), (46, 22), (46, 23), (46, 24), (46, 25), (46, 27), (1, 29), (46, 28), (26, 6), (26, 7), (26, 8), (26, 9), (7, 14), (26, 10), (26, 11), (26, 12), (26, 13), (47, 9), (47, 10), (47, 11), (47, 12), (47, 13), (47, 15), (2, 0), (47, 16), (47, 17), (47, 18), (47, 19), (26, 14), (26, 15), (26, 16), (26, 17), (47, 20), (47, 21), (47, 22), (47, 23), (26, 18), (26, 19), (26, 20), (26, 21), (26, 22), (26, 23), (26, 24), (26, 25), (26, 26), (26, 27), (26, 28), (26, 29), (8, 20), (7, 10), (7, 4), (26, 30), (26, 31), (27, 0), (27, 2), (0, 20), (27, 3), (5, 8), (4, 29), (27, 4), (27, 6), (0, 21), (27, 7), (7, 7), (7, 1), (27, 8), (27, 9), (27, 10), (27, 12), (0, 22), (27, 13), (27, 14), (27, 16), (0, 23), (27, 17), (27, 18), (47, 24), (47, 25), (47, 26), (47, 27), (37, 3), (47, 28), (47, 30), (2, 1), (47, 31), (48, 0), (48, 2), (2, 2), (48, 3), (48, 4), (48, 6), (2, 3), (48, 7), (27, 19), (27, 20), (27, 21), (27, 22), (27, 23), (27, 24), (27, 25), (27, 26), (27, 27), (48, 8), (48, 9), (48, 10), (48, 11), (27, 28), (27, 29), (27, 30), (27, 31), (10, 27), (10, 29), (10, 31), (11, 1), (48, 12), (48, 13), (48, 14), (48, 15), (28, 0), (28, 1), (28, 2), (28, 3), (28, 4), (28, 5), (28, 6), (28, 7), (28, 8), (48, 16), (48, 17), (48, 18), (48, 19), (28, 9), (28, 10), (28, 11), (28, 12), (28, 13), (28, 14), (28, 15), (28, 16), (48, 20), (48, 21), (48, 22), (48, 23), (28, 17), (28, 18), (28, 19), (28, 20), (28, 21), (28, 22), (28, 23), (28, 24), (28, 25), (28, 27), (0, 24), (28, 28), (48, 24), (48, 25), (48, 26), (48, 27), (28, 29), (28, 30), (28, 31), (29, 0), (29, 1), (29, 2), (29, 3), (29, 4), (29, 5), (29, 7), (0, 25), (29, 8), (29, 9), (29, 10), (29, 11), (29, 12), (29, 13), (29, 14), (29, 15), (29, 16), (48, 28), (48, 29), (48, 30), (48, 31), (49, 0), (49, 2), (2, 4), (49, 3), (49, 4), (49, 6), (2, 5), (49, 7), (49, 8), (49, 10), (2, 6), (49, 11), (29, 17), (29, 18), (29, 19), (29, 20), (29, 21), (29, 22), (29, 23), (49, 12), (49, 13), (49, 14), (49, 15), (29, 24), (29, 25), (29, 26), (29, 27), (29, 28), (49, 16), (49, 17), (49, 18), (49, 19), (29, 29), (29, 30), (29, 31), (30, 0), (12, 14), (12, 12), (30, 1), (30, 2), (30, 3), (30, 4), (49, 20), (49, 21), (49, 22), (49, 23), (37, 4), (49, 24), (49, 26), (2, 7), (49, 27), (30, 5), (30, 6), (30, 7), (30, 8), (30, 9), (30, 10), (30, 11), (30, 12), (30, 13), (30, 15), (0, 26), (30, 16), (8, 17), (9, 12), (8, 22), (4, 10), (7, 13), (30, 17), (30, 18), (30, 19), (30, 20), (30, 21), (30, 22), (30, 23), (30, 25), (0, 27), (30, 26), (30, 27), (30, 29), (0, 28), (30, 30), (30, 31), (31, 0), (31, 2), (0, 29), (31, 3), (31, 4), (31, 6), (0, 30), (31, 7), (49, 28), (49, 29), (49, 30), (49, 31), (37, 6), (50, 0), (50, 2), (2, 8), (50, 3), (50, 4), (50, 6), (2, 9), (50, 7), (50, 8), (50, 10), (2, 10), (50, 11), (50, 12), (50, 14), (2, 11), (50, 15), (31, 8), (31, 9), (31, 10), (31, 11), (12, 18), (12, 16), (50, 16), (50, 17), (50, 18), (50, 19), (31, 12), (31, 13), (31, 14), (31, 15), (13, 23), (13, 21), (50, 20), (50, 21), (50, 22), (50, 23), (37, 8), (31, 16), (31, 17), (31, 18), (31, 19), (31, 20), (31, 21), (31, 22), (31, 23), (31, 24), (31, 25), (31, 26), (31, 28), (0, 31), (31, 29), (4, 8), (8, 21), (32, 1), (31, 30), (31, 31), (32, 0), (50, 24), (50, 25), (50, 26), (50, 27), (32, 2), (32, 3), (32, 4), (32, 5), (13, 25), (50, 28), (50, 29), (50, 30), (50, 31), (32, 6), (32, 7), (32, 8), (32, 9), (14, 16), (32, 10), (32, 11), (32, 12), (32, 13), (32, 14), (32, 16), (1, 0), (32, 17), (32, 18), (32, 20), (1, 1), (32, 21), (32, 22), (32, 24), (1, 2), (32, 25), (32, 26), (32, 28), (1, 3), (32, 29), (32, 30), (33, 0), (1, 4), (33, 1), (51, 0), (51, 1), (51, 2), (51, 3), (37, 12), (51, 4), (51, 6), (2, 12), (51, 7), (51, 8), (51, 10), (2, 13), (51, 11), (51, 12), (51, 13), (51, 14), (51, 15), (51, 17), (2, 14), (51, 18), (51, 19), (51, 21), (2, 15), (51, 22), (51, 23), (51, 25), (2, 16), (51, 26), (33, 2), (33, 3), (33, 4), (33, 5), (14, 14), (51, 27), (51, 28), (51, 29), (51, 30), (33, 6), (33, 7), (33, 8), (33, 9), (33, 10), (33, 11), (33, 12), (33, 13), (33, 14), (33, 15), (33, 16), (51, 31), (52, 0), (52, 1), (52, 2), (52, 3), (52, 4), (52, 5), (33, 17), (33, 18), (33, 19), (33, 20), (33, 21), (33, 22), (33, 23), (33, 24), (33, 25), (33, 26), (33, 27), (52, 6), (52, 7), (52, 8), (52, 9), (33, 28), (33, 29), (33, 30), (33, 31), (15, 17), (15, 13), (34, 0), (34, 1), (34, 2), (34, 3), (34, 4), (34, 5), (34, 6), (34, 7), (34, 8), (34, 9), (34, 10), (34, 11), (34, 12), (34, 13), (34, 14), (52, 10), (52, 11), (52, 12), (52, 13), (52, 14), (52, 16), (2, 17), (52, 17), (34, 15), (34, 16), (34, 17), (34, 18), (34, 19), (52, 18), (52, 19), (52, 20), (52, 21), (52, 22), (34, 20), (34, 21), (34, 22), (34, 23), (34, 30), (34, 24), (34, 25), (34, 26), (34, 27), (34, 28), (34, 29), (52, 23), (52, 24), (52, 25), (52, 26), (34, 31), (35, 0), (35, 1), (35, 2), (15, 11), (35, 3), (35, 4), (35, 5), (35, 6), (52, 27), (52, 28), (52, 29), (52, 30), (35, 8), (35, 9), (35, 10), (35, 11), (15, 15), (35, 12), (35, 13), (35, 14), (35, 15), (35, 16), (35, 17), (35, 18), (52, 31), (53, 0), (53, 1), (53, 2), (35, 19), (35, 20), (35, 21), (35, 22), (11, 7), (35, 23), (35, 24), (35, 25), (35, 26), (35, 27), (35, 28), (35, 29), (35, 30), (35, 31), (53, 3), (53, 4), (53, 5), (53, 6), (16, 9), (16, 11), (16, 13), (16, 15), (16, 17), (16, 19), (16, 21), (16, 23), (16, 25), (16, 27), (16, 29), (16, 31), (17, 1), (38, 1), (38, 3), (38, 5), (38, 7), (38, 9), (38, 11), (38, 13), (38, 15), (38, 17), (38, 19), (38, 21), (38, 23), (38, 25), (38, 27), (38, 29), (38, 31), (39, 1), (39, 3), (39, 5), (39, 7), (39, 9), (39, 11), (39, 13), (39, 15), (39, 17), (39, 19), (39, 21), (39, 23), (39, 25), (39, 27), (39, 29), (39, 31), (40, 1), (40, 3), (40, 5), (40, 7), (40, 9), (40, 11), (40, 13), (40, 15), (40, 17), (40, 19), (40, 21), (40, 23), (40, 25), (40, 27), (40, 29), (40, 31), (41, 1), (41, 3), (41, 5), (41, 7), (41, 9), (41, 11), (41, 13), (41, 15), (41, 17), (41, 19), (41, 21), (3, 22), (3, 24), (4, 12), (4, 14), (4, 16), (4, 18), (5, 13), (5, 15), (5, 17), (5, 19), (5, 21), (5, 23), (6, 9), (6, 11), (6, 13), (6, 15), (6, 17), (6, 19), (6, 21), (6, 23), (7, 20), (7, 22), (7, 24), (7, 26), (7, 28), (7, 30), (8, 0), (8, 2), (8, 4), (9, 22), (9, 24), (9, 26), (9, 28), (9, 30), (10, 0), (10, 2), (10, 4), (10, 6), (10, 8), (10, 10), (10, 12), (10, 14), (11, 11), (11, 13), (11, 15), (11, 17), (11, 19), (11, 21), (11, 23), (11, 25), (11, 27), (11, 29), (11, 31), (12, 1), (12, 25), (12, 27), (12, 29), (12, 31), (13, 1), (13, 3), (13, 5), (13, 7), (13, 9), (13, 11), (13, 28), (13, 30), (14, 0), (14, 2), (14, 4), (14, 20), (14, 22), (14, 24), (14, 26), (14, 28), (15, 18), (15, 20), (15, 22), (15, 24)] rfl
theorem inlX0 : ∀ w ∈ wsX00, w ∈ wsL_law := fun _ h => List.mem_append_left _ (List.mem_append_left _ (List.mem_append_right _ h))
theorem inX0 : ∀ w ∈ wsX00, w ∈ lw_tbl := fun w h => wsL_law_in w (inlX0 w h)
theorem inlX1 : ∀ w ∈ wsX10, w ∈ wsL_law := fun _ h => List.mem_append_left _ (List.mem_append_left _ (List.mem_append_left _ (List.mem_append_left _ (List.mem_append_left _ (List.mem_append_left _ (List.mem_append_left _ (List.mem_append_right _ h)))))))
theorem inX1 : ∀ w ∈ wsX10, w ∈ lw_tbl := fun w h => wsL_law_in w (inlX1 w h)
theorem inlX2 : ∀ w ∈ wsX20, w ∈ wsL_law := fun _ h => List.mem_append_left _ (List.mem_append_left _ (List.mem_append_left _ (List.mem_append_left _ (List.mem_append_left _ (List.mem_append_left _ (List.mem_append_left _ (List.mem_append_left _ (List.mem_append_left _ (List.mem_append_right _ h)))))))))
theorem inX2 : ∀ w ∈ wsX20, w ∈ lw_tbl := fun w h => wsL_law_in w (inlX2 w h)
theorem inlX3 : ∀ w ∈ wsX30, w ∈ wsL_law := fun _ h => List.mem_append_left _ (List.mem_append_left _ (List.mem_append_left _ (List.mem_append_left _ (List.mem_append_left _ (List.mem_append_left _ (List.mem_append_left _ (List.mem_append_left _ (List.mem_append_right _ h))))))))
theorem inX3 : ∀ w ∈ wsX30, w ∈ lw_tbl := fun w h => wsL_law_in w (inlX3 w h)
theorem inlX4 : ∀ w ∈ wsX40, w ∈ wsL_law := fun _ h => List.mem_append_left _ (List.mem_append_left _ (List.mem_append_left _ (List.mem_append_left _ (List.mem_append_left _ (List.mem_append_left _ (List.mem_append_left _ (List.mem_append_left _ (List.mem_append_left _ (List.mem_append_left _ (List.mem_append_right _ h))))))))))
theorem inX4 : ∀ w ∈ wsX40, w ∈ lw_tbl := fun w h => wsL_law_in w (inlX4 w h)
theorem inlX5 : ∀ w ∈ wsX50, w ∈ wsL_law := fun _ h => List.mem_append_left _ (List.mem_append_left _ (List.mem_append_left _ (List.mem_append_left _ (List.mem_append_right _ h))))
theorem inX5 : ∀ w ∈ wsX50, w ∈ lw_tbl := fun w h => wsL_law_in w (inlX5 w h)
theorem inlX6 : ∀ w ∈ wsX60, w ∈ wsL_law := fun _ h => List.mem_append_left _ (List.mem_append_left _ (List.mem_append_left _ (List.mem_append_left _ (List.mem_append_left _ (List.mem_append_right _ h)))))
theorem inX6 : ∀ w ∈ wsX60, w ∈ lw_tbl := fun w h => wsL_law_in w (inlX6 w h)
theorem inlX7 : ∀ w ∈ wsX70, w ∈ wsL_law := fun _ h => List.mem_append_left _ (List.mem_append_right _ h)
theorem inX7 : ∀ w ∈ wsX70, w ∈ lw_tbl := fun w h => wsL_law_in w (inlX7 w h)
theorem inlX8 : ∀ w ∈ wsX80, w ∈ wsL_law := fun _ h => List.mem_append_left _ (List.mem_append_left _ (List.mem_append_left _ (List.mem_append_left _ (List.mem_append_left _ (List.mem_append_left _ (List.mem_append_right _ h))))))
theorem inX8 : ∀ w ∈ wsX80, w ∈ lw_tbl := fun w h => wsL_law_in w (inlX8 w h)
theorem inlX9 : ∀ w ∈ wsX90, w ∈ wsL_law := fun _ h => List.mem_append_left _ (List.mem_append_left _ (List.mem_append_left _ (List.mem_append_left _ (List.mem_append_left _ (List.mem_append_left _ (List.mem_append_left _ (List.mem_append_left _ (List.mem_append_left _ (List.mem_append_left _ (List.mem_append_left _ (List.mem_append_right _ h)))))))))))
theorem inX9 : ∀ w ∈ wsX90, w ∈ lw_tbl := fun w h => wsL_law_in w (inlX9 w h)
theorem inlX10 : ∀ w ∈ wsX100, w ∈ wsL_law := fun _ h => List.mem_append_left _ (List.mem_append_left _ (List.mem_append_left _ (List.mem_append_right _ h)))
theorem inX10 : ∀ w ∈ wsX100, w ∈ lw_tbl := fun w h => wsL_law_in w (inlX10 w h)
theorem inlX11 : ∀ w ∈ wsX110, w ∈ wsL_law := fun _ h => List.mem_append_left _ (List.mem_append_left _ (List.mem_append_left _ (List.mem_append_left _ (List.mem_append_left _ (List.mem_append_left _ (List.mem_append_left _ (List.mem_append_left _ (List.mem_append_left _ (List.mem_append_left _ (List.mem_append_left _ (List.mem_append_left _ (List.mem_append_left _ (List.mem_append_right _ h)))))))))))))
theorem inX11 : ∀ w ∈ wsX110, w ∈ lw_tbl := fun w h => wsL_law_in w (inlX11 w h)
theorem inlX12 : ∀ w ∈ wsX120, w ∈ wsL_law := fun _ h => List.mem_append_left _ (List.mem_append_left _ (List.mem_append_left _ (List.mem_append_left _ (List.mem_append_left _ (List.mem_append_left _ (List.mem_append_left _ (List.mem_append_left _ (List.mem_append_left _ (List.mem_append_left _ (List.mem_append_left _ (List.mem_append_left _ (List.mem_append_right _ h))))))))))))
theorem inX12 : ∀ w ∈ wsX120, w ∈ lw_tbl := fun w h => wsL_law_in w (inlX12 w h)
set_option maxRecDepth 20000 in
theorem ggL_law_X11_init : GoodIn wsL_law wsX11_init := goodIn_sl wsL_cs wsL_cs_in _ [(0, 9, 15), (1, 0, 24), (2, 0, 24), (3, 0, 24), (4, 0, 24), (5, 0, 24), (6, 0, 24), (7, 0, 20), (56, 0, 2), (54, 0, 13), (57, 0, 4), (58, 0, 6), (59, 0, 8), (60, 0, 9), (61, 0, 13), (62, 0, 12), (63, 0, 10), (64, 0, 5), (65, 0, 5), (66, 0, 4)] rfl gw_wsX11_init
set_option maxRecDepth 20000 in
theorem gL_law_X11_init : GoodIn wsL_law (wsX11_init) := ggL_law_X11_init
set_option maxRecDepth 20000 in
theorem ggL_law_X12_init : GoodIn wsL_law wsX12_init := goodIn_sl wsL_cs wsL_cs_in _ [(7, 22, 2), (0, 11, 2), (2, 22, 1), (8, 0, 6), (3, 9, 1), (8, 6, 18), (9, 0, 9), (7, 14, 1), (9, 9, 7), (55, 0, 59)] rfl gw_wsX12_init
set_option maxRecDepth 20000 in
theorem gL_law_X12_init : GoodIn wsL_law (wsX12_init) := ggL_law_X12_init
set_option maxRecDepth 20000 in
theorem ggL_law_X11_feed : GoodIn wsL_law wsX11_feed := goodIn_sl wsL_cs wsL_cs_in _ [(9, 19, 1), (0, 16, 1), (9, 20, 4), (0, 15, 1), (10, 0, 1), (2, 16, 1), (2, 15, 1), (54, 0, 13), (56, 0, 2)] rfl gw_wsX11_feed
set_option maxRecDepth 20000 in
theorem gL_law_X11_feed : GoodIn wsL_law (wsV RL 13 RX11 yX11_feed wsX11_feed) := goodIn_app (goodIn_sl wsL_cs wsL_cs_in _ [(9, 16, 3), (0, 2, 1)] rfl rfl) ggL_law_X11_feed
set_option maxRecDepth 20000 in
theorem ggL_law_X12_feed : GoodIn wsL_law wsX12_feed := goodIn_sl wsL_cs wsL_cs_in _ [(10, 4, 2), (8, 18, 1), (10, 6, 2), (0, 5, 1), (10, 8, 1), (55, 0, 59)] rfl gw_wsX12_feed
set_option maxRecDepth 20000 in
theorem gL_law_X12_feed : GoodIn wsL_law (wsV RL 17 RX12 yX12_feed wsX12_feed) := goodIn_app (goodIn_sl wsL_cs wsL_cs_in _ [(10, 1, 3), (0, 5, 1)] rfl rfl) ggL_law_X12_feed
set_option maxRecDepth 20000 in
theorem ggL_law_X11_name : GoodIn wsL_law wsX11_name := goodIn_sl wsL_cs wsL_cs_in _ [(10, 12, 1), (0, 16, 1), (9, 20, 1), (0, 20, 1), (10, 13, 5), (0, 19, 1), (10, 18, 1), (3, 1, 1), (2, 23, 1), (2, 21, 1), (10, 19, 5), (11, 0, 6), (54, 0, 13), (56, 0, 2), (57, 0, 4)] rfl gw_wsX11_name
set_option maxRecDepth 20000 in
theorem gL_law_X11_name : GoodIn wsL_law (wsV RL 18 RX11 yX11_name wsX11_name) := goodIn_app (goodIn_sl wsL_cs wsL_cs_in _ [(10, 9, 3), (0, 2, 1)] rfl rfl) ggL_law_X11_name
set_option maxRecDepth 20000 in
theorem ggL_law_X12_name : GoodIn wsL_law wsX12_name := goodIn_sl wsL_cs wsL_cs_in _ [(11, 9, 1), (10, 5, 1), (9, 10, 1), (8, 18, 1), (11, 10, 1), (10, 6, 2), (0, 5, 1), (10, 8, 1), (11, 11, 4), (8, 0, 2), (11, 15, 4), (55, 0, 59)] rfl gw_wsX12_name
set_option maxRecDepth 20000 in
theorem gL_law_X12_name : GoodIn wsL_law (wsV RL 22 RX12 yX12_name wsX12_name) := goodIn_app (goodIn_sl wsL_cs wsL_cs_in _ [(11, 6, 3), (0, 5, 1)] rfl rfl) ggL_law_X12_name
set_option maxRecDepth 20000 in
theorem ggL_law_X11_number : GoodIn wsL_law wsX11_number := goodIn_sl wsL_cs wsL_cs_in _ [(11, 22, 1), (0, 20, 1), (11, 23, 1), (12, 0, 2), (0, 19, 1), (12, 2, 1), (3, 1, 1), (12, 3, 4), (2, 23, 1), (2, 21, 1), (12, 7, 1), (54, 0, 13), (57, 0, 4)] rfl gw_wsX11_number
set_option maxRecDepth 20000 in
theorem gL_law_X11_number : GoodIn wsL_law (wsV RL 23 RX11 yX11_number wsX11_number) := goodIn_app (goodIn_sl wsL_cs wsL_cs_in _ [(11, 19, 3), (0, 2, 1)] rfl rfl) ggL_law_X11_number
set_option maxRecDepth 20000 in
theorem ggL_law_X12_number : GoodIn wsL_law wsX12_number := goodIn_sl wsL_cs wsL_cs_in _ [(12, 11, 4), (0, 5, 1), (12, 15, 1), (11, 10, 1), (10, 6, 3), (12, 16, 4), (8, 0, 2), (12, 20, 1), (55, 0, 59)] rfl gw_wsX12_number
set_option maxRecDepth 20000 in
theorem gL_law_X12_number : GoodIn wsL_law (wsV RL 26 RX12 yX12_number wsX12_number) := goodIn_app (goodIn_sl wsL_cs wsL_cs_in _ [(12, 8, 3), (0, 5, 1)] rfl rfl) ggL_law_X12_number
set_option maxRecDepth 20000 in
theorem ggL_law_X11_keeper : GoodIn wsL_law wsX11_keeper := goodIn_sl wsL_cs wsL_cs_in _ [(13, 0, 1), (1, 0, 1), (13, 1, 3), (0, 2, 1), (13, 4, 4), (0, 23, 1), (13, 8, 1), (3, 5, 1), (3, 11, 1), (3, 6, 3), (54, 0, 13), (58, 0, 6)] rfl gw_wsX11_keeper
set_option maxRecDepth 20000 in
theorem gL_law_X11_keeper : GoodIn wsL_law (wsV RL 27 RX11 yX11_keeper wsX11_keeper) := goodIn_app (goodIn_sl wsL_cs wsL_cs_in _ [(12, 21, 3), (0, 2, 1)] rfl rfl) ggL_law_X11_keeper
set_option maxRecDepth 20000 in
theorem ggL_law_X12_keeper : GoodIn wsL_law wsX12_keeper := goodIn_sl wsL_cs wsL_cs_in _ [(13, 12, 2), (8, 2, 2), (10, 6, 2), (0, 5, 1), (10, 8, 1), (55, 0, 59)] rfl gw_wsX12_keeper
set_option maxRecDepth 20000 in
theorem gL_law_X12_keeper : GoodIn wsL_law (wsV RL 30 RX12 yX12_keeper wsX12_keeper) := goodIn_app (goodIn_sl wsL_cs wsL_cs_in _ [(13, 9, 3), (0, 5, 1)] rfl rfl) ggL_law_X12_keeper
set_option maxRecDepth 20000 in
theorem ggL_law_X11_become : GoodIn wsL_law wsX11_become := goodIn_sl wsL_cs wsL_cs_in _ [(13, 17, 1), (1, 0, 1), (13, 18, 1), (1, 18, 1), (13, 19, 3), (0, 23, 1), (13, 22, 1), (3, 11, 1), (13, 23, 1), (14, 0, 1), (0, 2, 1), (14, 1, 4), (1, 17, 1), (14, 5, 1), (5, 19, 1), (14, 6, 1), (5, 20, 1), (14, 7, 1), (5, 11, 2), (14, 8, 4), (5, 10, 1), (54, 0, 13), (58, 0, 6), (62, 0, 12), (57, 0, 4)] rfl gw_wsX11_become
set_option maxRecDepth 20000 in
theorem gL_law_X11_become : GoodIn wsL_law (wsV RL 31 RX11 yX11_become wsX11_become) := goodIn_app (goodIn_sl wsL_cs wsL_cs_in _ [(13, 14, 3), (0, 2, 1)] rfl rfl) ggL_law_X11_become
set_option maxRecDepth 20000 in
theorem ggL_law_X12_become : GoodIn wsL_law wsX12_become := goodIn_sl wsL_cs wsL_cs_in _ [(14, 15, 1), (8, 4, 1), (8, 21, 1), (8, 19, 2), (14, 16, 3), (0, 5, 1), (14, 19, 1), (13, 13, 1), (10, 6, 3), (55, 0, 59)] rfl gw_wsX12_become
set_option maxRecDepth 20000 in
theorem gL_law_X12_become : GoodIn wsL_law (wsV RL 34 RX12 yX12_become wsX12_become) := goodIn_app (goodIn_sl wsL_cs wsL_cs_in _ [(14, 12, 3), (0, 5, 1)] rfl rfl) ggL_law_X12_become
set_option maxRecDepth 20000 in
theorem ggL_law_X11_strength : GoodIn wsL_law wsX11_strength := goodIn_sl wsL_cs wsL_cs_in _ [(14, 23, 1), (1, 0, 1), (15, 0, 1), (13, 19, 3), (0, 23, 1), (13, 22, 1), (3, 11, 1), (13, 2, 2), (0, 2, 1), (13, 4, 1), (54, 0, 13), (58, 0, 6)] rfl gw_wsX11_strength
set_option maxRecDepth 20000 in
theorem gL_law_X11_strength : GoodIn wsL_law (wsV RL 35 RX11 yX11_strength wsX11_strength) := goodIn_app (goodIn_sl wsL_cs wsL_cs_in _ [(14, 20, 3), (0, 2, 1)] rfl rfl) ggL_law_X11_strength
set_option maxRecDepth 20000 in
theorem ggL_law_X12_strength : GoodIn wsL_law wsX12_strength := goodIn_sl wsL_cs wsL_cs_in _ [(15, 4, 1), (8, 3, 1), (14, 16, 3), (0, 5, 1), (14, 19, 1), (13, 13, 1), (10, 6, 3), (55, 0, 59)] rfl gw_wsX12_strength
set_option maxRecDepth 20000 in
theorem gL_law_X12_strength : GoodIn wsL_law (wsV RL 38 RX12 yX12_strength wsX12_strength) := goodIn_app (goodIn_sl wsL_cs wsL_cs_in _ [(15, 1, 3), (0, 5, 1)] rfl rfl) ggL_law_X12_strength
set_option maxRecDepth 20000 in
theorem ggL_law_X11_ofKeeper : GoodIn wsL_law wsX11_ofKeeper := goodIn_sl wsL_cs wsL_cs_in _ [(15, 8, 1), (1, 0, 1), (15, 9, 1), (13, 18, 1), (15, 10, 1), (15, 0, 1), (15, 11, 1), (1, 18, 1), (15, 12, 1), (13, 19, 3), (0, 23, 1), (13, 22, 1), (3, 11, 1), (15, 13, 4), (3, 5, 1), (3, 7, 1), (15, 17, 3), (1, 17, 1), (15, 20, 1), (5, 10, 1), (15, 21, 3), (16, 0, 4), (5, 11, 1), (54, 0, 13), (58, 0, 6), (62, 0, 12)] rfl gw_wsX11_ofKeeper
set_option maxRecDepth 20000 in
theorem gL_law_X11_ofKeeper : GoodIn wsL_law (wsV RL 39 RX11 yX11_ofKeeper wsX11_ofKeeper) := goodIn_app (goodIn_sl wsL_cs wsL_cs_in _ [(15, 5, 3), (0, 2, 1)] rfl rfl) ggL_law_X11_ofKeeper
set_option maxRecDepth 20000 in
theorem ggL_law_X12_ofKeeper : GoodIn wsL_law wsX12_ofKeeper := goodIn_sl wsL_cs wsL_cs_in _ [(16, 7, 2), (8, 4, 1), (8, 2, 2), (8, 5, 2), (14, 16, 3), (0, 5, 1), (14, 19, 1), (13, 13, 1), (10, 6, 3), (16, 9, 8), (8, 19, 2), (55, 0, 59)] rfl gw_wsX12_ofKeeper
set_option maxRecDepth 20000 in
theorem gL_law_X12_ofKeeper : GoodIn wsL_law (wsV RL 42 RX12 yX12_ofKeeper wsX12_ofKeeper) := goodIn_app (goodIn_sl wsL_cs wsL_cs_in _ [(16, 4, 3), (0, 5, 1)] rfl rfl) ggL_law_X12_ofKeeper
set_option maxRecDepth 20000 in
theorem ggL_law_X11_table : GoodIn wsL_law wsX11_table := goodIn_sl wsL_cs wsL_cs_in _ [(16, 20, 1), (1, 0, 1), (13, 1, 1), (1, 11, 1), (1, 14, 1), (0, 16, 1), (10, 13, 1), (9, 20, 1), (1, 4, 1), (1, 9, 1), (1, 12, 2), (1, 10, 1), (16, 21, 3), (17, 0, 1), (4, 15, 1), (4, 23, 1), (17, 1, 1), (15, 14, 2), (0, 23, 1), (15, 16, 1), (3, 5, 1), (3, 7, 1), (17, 2, 11), (4, 21, 1), (5, 1, 1), (17, 13, 1), (11, 3, 3), (17, 14, 3), (1, 3, 1), (17, 17, 2), (3, 15, 1), (17, 19, 1), (3, 16, 3), (17, 20, 4), (18, 0, 4), (3, 19, 1), (3, 21, 2), (18, 4, 3), (3, 20, 1), (18, 7, 17), (19, 0, 24), (20, 0, 5), (4, 12, 3), (0, 11, 2), (4, 16, 5), (4, 22, 1), (2, 22, 1), (5, 0, 1), (2, 14, 1), (5, 2, 3), (20, 5, 12), (7, 18, 1), (20, 17, 2), (0, 2, 1), (20, 19, 5), (21, 0, 7), (54, 0, 13), (58, 0, 6), (56, 0, 2), (61, 0, 13), (59, 0, 8)] rfl gw_wsX11_table
set_option maxRecDepth 20000 in
theorem gL_law_X11_table : GoodIn wsL_law (wsV RL 43 RX11 yX11_table wsX11_table) := goodIn_app (goodIn_sl wsL_cs wsL_cs_in _ [(16, 17, 3), (0, 2, 1)] rfl rfl) ggL_law_X11_table
set_option maxRecDepth 20000 in
theorem ggL_law_X12_table : GoodIn wsL_law wsX12_table := goodIn_sl wsL_cs wsL_cs_in _ [(21, 10, 1), (13, 13, 1), (21, 11, 1), (8, 7, 2), (8, 14, 2), (8, 2, 1), (8, 12, 1), (10, 5, 1), (8, 13, 1), (8, 18, 1), (16, 9, 3), (0, 5, 1), (16, 12, 1), (8, 4, 1), (8, 3, 1), (21, 12, 12), (22, 0, 8), (8, 9, 3), (22, 8, 8), (10, 6, 3), (22, 16, 8), (23, 0, 11), (8, 17, 1), (8, 16, 1), (23, 11, 5), (55, 0, 59)] rfl gw_wsX12_table
set_option maxRecDepth 20000 in
theorem gL_law_X12_table : GoodIn wsL_law (wsV RL 46 RX12 yX12_table wsX12_table) := goodIn_app (goodIn_sl wsL_cs wsL_cs_in _ [(21, 7, 3), (0, 5, 1)] rfl rfl) ggL_law_X12_table
set_option maxRecDepth 20000 in
theorem ggL_law_X11_ofTable : GoodIn wsL_law wsX11_ofTable := goodIn_sl wsL_cs wsL_cs_in _ [(23, 19, 5), (24, 0, 4), (0, 2, 1), (24, 4, 1), (1, 11, 1), (1, 10, 1), (24, 5, 3), (1, 13, 1), (24, 8, 1), (4, 15, 1), (5, 0, 1), (17, 6, 7), (24, 9, 4), (4, 22, 1), (24, 13, 1), (7, 17, 3), (24, 14, 4), (4, 19, 1), (5, 2, 1), (5, 4, 1), (24, 18, 4), (20, 14, 1), (4, 16, 1), (4, 23, 1), (20, 18, 3), (61, 0, 13), (54, 0, 13)] rfl gw_wsX11_ofTable
set_option maxRecDepth 20000 in
theorem gL_law_X11_ofTable : GoodIn wsL_law (wsV RL 47 RX11 yX11_ofTable wsX11_ofTable) := goodIn_app (goodIn_sl wsL_cs wsL_cs_in _ [(23, 16, 3), (0, 2, 1)] rfl rfl) ggL_law_X11_ofTable
set_option maxRecDepth 20000 in
theorem ggL_law_X12_ofTable : GoodIn wsL_law wsX12_ofTable := goodIn_sl wsL_cs wsL_cs_in _ [(25, 1, 1), (8, 7, 1), (8, 16, 1), (8, 9, 3), (25, 2, 3), (0, 5, 1), (25, 5, 1), (21, 11, 1), (10, 6, 3), (25, 6, 4), (13, 13, 1), (9, 13, 1), (25, 10, 4), (9, 11, 1), (25, 14, 9), (8, 8, 1), (8, 14, 1), (23, 11, 5), (21, 20, 4), (25, 23, 1), (26, 0, 3), (8, 17, 1), (55, 0, 59)] rfl gw_wsX12_ofTable
set_option maxRecDepth 20000 in
theorem gL_law_X12_ofTable : GoodIn wsL_law (wsV RL 50 RX12 yX12_ofTable wsX12_ofTable) := goodIn_app (goodIn_sl wsL_cs wsL_cs_in _ [(24, 22, 2), (25, 0, 1), (0, 5, 1)] rfl rfl) ggL_law_X12_ofTable
set_option maxRecDepth 20000 in
theorem ggL_law_X11_seat : GoodIn wsL_law wsX11_seat := goodIn_sl wsL_cs wsL_cs_in _ [(26, 6, 2), (24, 1, 3), (0, 2, 1), (24, 4, 1), (1, 11, 1), (1, 10, 1), (26, 8, 3), (61, 0, 13), (54, 0, 13)] rfl gw_wsX11_seat
set_option maxRecDepth 20000 in
theorem gL_law_X11_seat : GoodIn wsL_law (wsV RL 51 RX11 yX11_seat wsX11_seat) := goodIn_app (goodIn_sl wsL_cs wsL_cs_in _ [(26, 3, 3), (0, 2, 1)] rfl rfl) ggL_law_X11_seat
set_option maxRecDepth 20000 in
theorem ggL_law_X12_seat : GoodIn wsL_law wsX12_seat := goodIn_sl wsL_cs wsL_cs_in _ [(26, 14, 1), (8, 17, 1), (25, 2, 3), (0, 5, 1), (25, 5, 1), (21, 11, 1), (10, 6, 3), (55, 0, 59)] rfl gw_wsX12_seat
set_option maxRecDepth 20000 in
theorem gL_law_X12_seat : GoodIn wsL_law (wsV RL 54 RX12 yX12_seat wsX12_seat) := goodIn_app (goodIn_sl wsL_cs wsL_cs_in _ [(26, 11, 3), (0, 5, 1)] rfl rfl) ggL_law_X12_seat
set_option maxRecDepth 20000 in
theorem ggL_law_X11_picked : GoodIn wsL_law wsX11_picked := goodIn_sl wsL_cs wsL_cs_in _ [(26, 18, 1), (1, 8, 1), (26, 19, 2), (24, 1, 3), (0, 2, 1), (24, 4, 1), (1, 11, 1), (1, 10, 1), (26, 8, 3), (26, 21, 3), (1, 7, 1), (27, 0, 1), (4, 5, 1), (4, 9, 1), (27, 1, 6), (4, 10, 1), (4, 3, 1), (27, 7, 1), (24, 19, 2), (1, 13, 1), (24, 21, 1), (20, 14, 1), (4, 16, 1), (4, 23, 1), (20, 18, 3), (27, 8, 16), (28, 0, 3), (21, 1, 2), (28, 3, 4), (54, 0, 13), (60, 0, 9), (61, 0, 13)] rfl gw_wsX11_picked
set_option maxRecDepth 20000 in
theorem gL_law_X11_picked : GoodIn wsL_law (wsV RL 55 RX11 yX11_picked wsX11_picked) := goodIn_app (goodIn_sl wsL_cs wsL_cs_in _ [(26, 15, 3), (0, 2, 1)] rfl rfl) ggL_law_X11_picked
set_option maxRecDepth 20000 in
theorem ggL_law_X12_picked : GoodIn wsL_law wsX12_picked := goodIn_sl wsL_cs wsL_cs_in _ [(28, 10, 1), (25, 18, 1), (9, 11, 1), (25, 2, 3), (0, 5, 1), (25, 5, 1), (21, 11, 1), (10, 6, 3), (25, 14, 4), (8, 7, 1), (8, 11, 1), (25, 19, 4), (13, 13, 1), (8, 8, 1), (8, 14, 1), (23, 11, 5), (21, 20, 4), (25, 23, 1), (26, 0, 3), (8, 17, 1), (55, 0, 59)] rfl gw_wsX12_picked
set_option maxRecDepth 20000 in
theorem gL_law_X12_picked : GoodIn wsL_law (wsV RL 59 RX12 yX12_picked wsX12_picked) := goodIn_app (goodIn_sl wsL_cs wsL_cs_in _ [(28, 7, 3), (0, 5, 1)] rfl rfl) ggL_law_X12_picked
set_option maxRecDepth 20000 in
theorem ggL_law_X11_keeperOf : GoodIn wsL_law wsX11_keeperOf := goodIn_sl wsL_cs wsL_cs_in _ [(28, 14, 1), (0, 20, 1), (1, 8, 1), (28, 15, 3), (24, 1, 3), (0, 2, 1), (24, 4, 1), (1, 11, 1), (1, 10, 1), (11, 23, 1), (12, 0, 2), (0, 19, 1), (12, 2, 1), (3, 1, 1), (12, 3, 4), (2, 23, 1), (2, 21, 1), (12, 7, 1), (28, 18, 3), (1, 7, 1), (28, 21, 1), (4, 6, 3), (4, 5, 1), (28, 22, 2), (29, 0, 1), (17, 7, 3), (4, 11, 1), (29, 1, 1), (4, 3, 1), (29, 2, 1), (26, 22, 2), (27, 0, 1), (4, 9, 1), (27, 1, 6), (4, 10, 1), (27, 7, 1), (24, 19, 2), (1, 13, 1), (24, 21, 1), (20, 14, 1), (4, 16, 1), (4, 23, 1), (20, 18, 3), (27, 8, 16), (28, 0, 3), (21, 1, 2), (28, 3, 4), (29, 3, 4), (4, 4, 1), (29, 7, 4), (54, 0, 13), (61, 0, 13), (60, 0, 9), (57, 0, 4), (58, 0, 6)] rfl gw_wsX11_keeperOf
set_option maxRecDepth 20000 in
theorem gL_law_X11_keeperOf : GoodIn wsL_law (wsV RL 60 RX11 yX11_keeperOf wsX11_keeperOf) := goodIn_app (goodIn_sl wsL_cs wsL_cs_in _ [(28, 11, 3), (0, 2, 1)] rfl rfl) ggL_law_X11_keeperOf
set_option maxRecDepth 20000 in
theorem ggL_law_X12_keeperOf : GoodIn wsL_law wsX12_keeperOf := goodIn_sl wsL_cs wsL_cs_in _ [(29, 14, 2), (9, 12, 1), (25, 2, 3), (0, 5, 1), (25, 5, 1), (21, 11, 1), (10, 6, 3), (12, 12, 4), (11, 10, 1), (29, 16, 4), (8, 8, 1), (12, 16, 4), (8, 0, 2), (12, 20, 1), (29, 20, 4), (25, 18, 1), (8, 9, 1), (9, 11, 1), (8, 10, 1), (25, 14, 4), (8, 7, 1), (8, 11, 1), (25, 19, 4), (13, 13, 1), (8, 14, 1), (23, 11, 5), (21, 20, 4), (25, 23, 1), (26, 0, 3), (8, 17, 1), (30, 0, 4), (8, 15, 1), (30, 4, 4), (55, 0, 59)] rfl gw_wsX12_keeperOf
set_option maxRecDepth 20000 in
theorem gL_law_X12_keeperOf : GoodIn wsL_law (wsV RL 63 RX12 yX12_keeperOf wsX12_keeperOf) := goodIn_app (goodIn_sl wsL_cs wsL_cs_in _ [(29, 11, 3), (0, 5, 1)] rfl rfl) ggL_law_X12_keeperOf
set_option maxRecDepth 20000 in
theorem ggL_law_X11_tooFew : GoodIn wsL_law wsX11_tooFew := goodIn_sl wsL_cs wsL_cs_in _ [(30, 11, 1), (0, 20, 1), (10, 14, 1), (1, 8, 1), (28, 15, 1), (30, 12, 1), (23, 23, 1), (24, 1, 3), (0, 2, 1), (24, 4, 1), (1, 11, 1), (1, 10, 1), (12, 3, 3), (0, 19, 1), (12, 6, 1), (2, 23, 1), (2, 21, 1), (12, 7, 1), (28, 18, 3), (1, 7, 1), (28, 21, 1), (4, 6, 3), (4, 5, 1), (28, 22, 2), (29, 0, 1), (17, 7, 3), (4, 11, 1), (29, 1, 1), (4, 3, 1), (29, 2, 1), (26, 22, 2), (27, 0, 1), (4, 9, 1), (27, 1, 6), (4, 10, 1), (27, 7, 1), (24, 19, 2), (1, 13, 1), (24, 21, 1), (20, 14, 1), (4, 16, 1), (4, 23, 1), (20, 18, 3), (27, 8, 16), (28, 0, 3), (21, 1, 2), (28, 3, 4), (29, 3, 4), (4, 4, 1), (29, 7, 4), (30, 13, 1), (18, 8, 6), (54, 0, 13), (57, 0, 4), (61, 0, 13), (60, 0, 9), (58, 0, 6)] rfl gw_wsX11_tooFew
set_option maxRecDepth 20000 in
theorem gL_law_X11_tooFew : GoodIn wsL_law (wsV RL 64 RX11 yX11_tooFew wsX11_tooFew) := goodIn_app (goodIn_sl wsL_cs wsL_cs_in _ [(30, 8, 3), (0, 2, 1)] rfl rfl) ggL_law_X11_tooFew
set_option maxRecDepth 20000 in
theorem ggL_law_X12_tooFew : GoodIn wsL_law wsX12_tooFew := goodIn_sl wsL_cs wsL_cs_in _ [(30, 17, 1), (11, 10, 1), (8, 10, 1), (25, 2, 3), (0, 5, 1), (25, 5, 1), (21, 11, 1), (10, 6, 3), (29, 16, 4), (8, 8, 1), (12, 16, 4), (8, 0, 2), (12, 20, 1), (29, 20, 4), (29, 15, 1), (25, 18, 1), (8, 9, 1), (9, 11, 2), (25, 14, 4), (8, 7, 1), (8, 11, 1), (25, 19, 4), (13, 13, 1), (8, 14, 1), (23, 11, 5), (21, 20, 4), (25, 23, 1), (26, 0, 3), (8, 17, 1), (30, 0, 4), (8, 15, 1), (30, 4, 4), (55, 0, 59)] rfl gw_wsX12_tooFew
set_option maxRecDepth 20000 in
theorem gL_law_X12_tooFew : GoodIn wsL_law (wsV RL 68 RX12 yX12_tooFew wsX12_tooFew) := goodIn_app (goodIn_sl wsL_cs wsL_cs_in _ [(30, 14, 3), (0, 5, 1)] rfl rfl) ggL_law_X12_tooFew
set_option maxRecDepth 20000 in
theorem ggL_law_X11_share : GoodIn wsL_law wsX11_share := goodIn_sl wsL_cs wsL_cs_in _ [(30, 21, 1), (1, 0, 1), (30, 22, 1), (0, 20, 1), (10, 14, 1), (28, 15, 1), (24, 1, 3), (0, 2, 1), (24, 4, 1), (1, 11, 1), (1, 10, 1), (13, 19, 3), (0, 23, 1), (13, 22, 1), (3, 11, 1), (30, 23, 1), (24, 10, 2), (1, 13, 1), (24, 12, 1), (4, 22, 1), (5, 0, 1), (24, 13, 1), (7, 17, 3), (24, 14, 4), (4, 19, 1), (5, 2, 1), (5, 4, 1), (4, 15, 1), (24, 18, 4), (20, 14, 1), (4, 16, 1), (4, 23, 1), (20, 18, 3), (12, 3, 3), (0, 19, 1), (12, 6, 1), (2, 23, 1), (2, 21, 1), (12, 7, 1), (31, 0, 1), (54, 0, 13), (61, 0, 13), (57, 0, 4), (58, 0, 6)] rfl gw_wsX11_share
set_option maxRecDepth 20000 in
theorem gL_law_X11_share : GoodIn wsL_law (wsV RL 69 RX11 yX11_share wsX11_share) := goodIn_app (goodIn_sl wsL_cs wsL_cs_in _ [(30, 18, 3), (0, 2, 1)] rfl rfl) ggL_law_X11_share
set_option maxRecDepth 20000 in
theorem ggL_law_X12_share : GoodIn wsL_law wsX12_share := goodIn_sl wsL_cs wsL_cs_in _ [(31, 4, 1), (9, 13, 1), (25, 2, 3), (0, 5, 1), (25, 5, 1), (21, 11, 1), (10, 6, 3), (14, 16, 4), (13, 13, 1), (31, 5, 4), (11, 10, 1), (8, 8, 1), (9, 11, 1), (12, 16, 4), (8, 0, 2), (12, 20, 1), (25, 14, 5), (8, 7, 1), (8, 11, 1), (25, 19, 4), (8, 14, 1), (23, 11, 5), (21, 20, 4), (25, 23, 1), (26, 0, 3), (8, 17, 1), (25, 10, 4), (55, 0, 59)] rfl gw_wsX12_share
set_option maxRecDepth 20000 in
theorem gL_law_X12_share : GoodIn wsL_law (wsV RL 72 RX12 yX12_share wsX12_share) := goodIn_app (goodIn_sl wsL_cs wsL_cs_in _ [(31, 1, 3), (0, 5, 1)] rfl rfl) ggL_law_X12_share
set_option maxRecDepth 20000 in
theorem ggL_law_X11_moves : GoodIn wsL_law wsX11_moves := goodIn_sl wsL_cs wsL_cs_in _ [(31, 12, 1), (0, 20, 1), (10, 14, 1), (1, 8, 1), (28, 15, 1), (31, 13, 1), (24, 1, 3), (0, 2, 1), (24, 4, 1), (1, 11, 1), (1, 10, 1), (31, 14, 3), (1, 13, 1), (31, 17, 1), (4, 15, 1), (4, 23, 1), (12, 3, 3), (0, 19, 1), (12, 6, 1), (2, 23, 1), (2, 21, 1), (12, 7, 1), (28, 18, 3), (1, 7, 1), (28, 21, 1), (4, 6, 3), (4, 5, 1), (28, 22, 2), (29, 0, 1), (17, 7, 3), (4, 11, 1), (29, 1, 1), (4, 3, 1), (29, 2, 1), (26, 22, 2), (27, 0, 1), (4, 9, 1), (27, 1, 6), (4, 10, 1), (27, 7, 1), (24, 19, 3), (20, 14, 1), (4, 16, 1), (20, 18, 3), (27, 8, 16), (28, 0, 3), (21, 1, 2), (28, 3, 4), (29, 3, 4), (4, 4, 1), (29, 7, 4), (30, 13, 1), (18, 8, 6), (54, 0, 13), (57, 0, 4), (61, 0, 13), (60, 0, 9), (58, 0, 6)] rfl gw_wsX11_moves
set_option maxRecDepth 20000 in
theorem gL_law_X11_moves : GoodIn wsL_law (wsV RL 73 RX11 yX11_moves wsX11_moves) := goodIn_app (goodIn_sl wsL_cs wsL_cs_in _ [(31, 9, 3), (0, 2, 1)] rfl rfl) ggL_law_X11_moves
set_option maxRecDepth 20000 in
theorem ggL_law_X12_moves : GoodIn wsL_law wsX12_moves := goodIn_sl wsL_cs wsL_cs_in _ [(31, 21, 1), (13, 13, 1), (8, 14, 1), (11, 10, 1), (25, 2, 3), (0, 5, 1), (25, 5, 1), (21, 11, 1), (10, 6, 3), (21, 20, 4), (8, 7, 1), (29, 16, 4), (8, 8, 1), (12, 16, 4), (8, 0, 2), (12, 20, 1), (29, 20, 4), (29, 15, 1), (25, 18, 1), (8, 9, 1), (9, 11, 1), (8, 10, 1), (9, 12, 1), (25, 14, 4), (8, 11, 1), (25, 19, 4), (23, 11, 5), (25, 23, 1), (26, 0, 3), (8, 17, 1), (30, 0, 4), (8, 15, 1), (30, 4, 4), (31, 22, 2), (32, 0, 5), (55, 0, 59)] rfl gw_wsX12_moves
set_option maxRecDepth 20000 in
theorem gL_law_X12_moves : GoodIn wsL_law (wsV RL 76 RX12 yX12_moves wsX12_moves) := goodIn_app (goodIn_sl wsL_cs wsL_cs_in _ [(31, 18, 3), (0, 5, 1)] rfl rfl) ggL_law_X12_moves
set_option maxRecDepth 20000 in
theorem ggL_law_X11_knows : GoodIn wsL_law wsX11_knows := goodIn_sl wsL_cs wsL_cs_in _ [(32, 8, 1), (1, 0, 1), (1, 11, 1), (15, 9, 1), (15, 11, 1), (13, 19, 3), (0, 23, 1), (13, 22, 1), (3, 11, 1), (54, 0, 13), (58, 0, 6)] rfl gw_wsX11_knows
set_option maxRecDepth 20000 in
theorem gL_law_X11_knows : GoodIn wsL_law (wsV RL 77 RX11 yX11_knows wsX11_knows) := goodIn_app (goodIn_sl wsL_cs wsL_cs_in _ [(32, 5, 3), (0, 2, 1)] rfl rfl) ggL_law_X11_knows
set_option maxRecDepth 20000 in
theorem ggL_law_X12_knows : GoodIn wsL_law wsX12_knows := goodIn_sl wsL_cs wsL_cs_in _ [(32, 12, 1), (21, 11, 1), (16, 8, 1), (8, 5, 1), (14, 16, 3), (0, 5, 1), (14, 19, 1), (13, 13, 1), (10, 6, 3), (55, 0, 59)] rfl gw_wsX12_knows
set_option maxRecDepth 20000 in
theorem gL_law_X12_knows : GoodIn wsL_law (wsV RL 80 RX12 yX12_knows wsX12_knows) := goodIn_app (goodIn_sl wsL_cs wsL_cs_in _ [(32, 9, 3), (0, 5, 1)] rfl rfl) ggL_law_X12_knows
set_option maxRecDepth 20000 in
theorem ggL_law_X11_write : GoodIn wsL_law wsX11_write := goodIn_sl wsL_cs wsL_cs_in _ [(32, 16, 1), (1, 0, 1), (0, 20, 1), (15, 11, 1), (1, 18, 1), (13, 19, 3), (0, 23, 1), (13, 22, 1), (3, 11, 1), (11, 23, 1), (12, 0, 2), (0, 19, 1), (12, 2, 1), (3, 1, 1), (24, 1, 3), (0, 2, 1), (24, 4, 1), (1, 11, 1), (1, 10, 1), (32, 17, 4), (3, 10, 1), (3, 5, 1), (32, 21, 3), (1, 17, 1), (33, 0, 1), (5, 18, 1), (5, 15, 1), (5, 21, 1), (5, 20, 1), (33, 1, 4), (12, 4, 3), (2, 23, 1), (2, 21, 1), (12, 7, 1), (33, 5, 1), (28, 19, 2), (1, 7, 1), (28, 21, 1), (4, 6, 3), (4, 5, 1), (28, 22, 2), (29, 0, 1), (17, 7, 3), (4, 11, 1), (29, 1, 1), (4, 3, 1), (29, 2, 1), (26, 22, 2), (27, 0, 1), (4, 9, 1), (27, 1, 6), (4, 10, 1), (27, 7, 1), (24, 19, 2), (1, 13, 1), (24, 21, 1), (20, 14, 1), (4, 16, 1), (4, 23, 1), (20, 18, 3), (27, 8, 16), (28, 0, 3), (21, 1, 2), (28, 3, 4), (29, 3, 4), (4, 4, 1), (29, 7, 4), (33, 6, 4), (5, 19, 1), (33, 10, 8), (5, 11, 2), (33, 18, 6), (34, 0, 4), (5, 10, 1), (34, 4, 1), (15, 18, 6), (14, 8, 4), (54, 0, 13), (58, 0, 6), (57, 0, 4), (62, 0, 12), (61, 0, 13), (60, 0, 9)] rfl gw_wsX11_write
set_option maxRecDepth 20000 in
theorem gL_law_X11_write : GoodIn wsL_law (wsV RL 81 RX11 yX11_write wsX11_write) := goodIn_app (goodIn_sl wsL_cs wsL_cs_in _ [(32, 13, 3), (0, 2, 1)] rfl rfl) ggL_law_X11_write
set_option maxRecDepth 20000 in
theorem ggL_law_X12_write : GoodIn wsL_law wsX12_write := goodIn_sl wsL_cs wsL_cs_in _ [(34, 8, 1), (8, 5, 1), (9, 0, 1), (34, 9, 1), (29, 15, 1), (9, 12, 1), (8, 6, 1), (8, 4, 1), (8, 19, 1), (14, 16, 3), (0, 5, 1), (14, 19, 1), (13, 13, 1), (10, 6, 3), (12, 12, 4), (11, 10, 1), (34, 10, 4), (29, 16, 4), (8, 8, 1), (12, 16, 4), (8, 0, 2), (12, 20, 1), (29, 20, 4), (25, 18, 1), (8, 9, 1), (9, 11, 1), (8, 10, 1), (25, 14, 4), (8, 7, 1), (8, 11, 1), (25, 19, 4), (8, 14, 1), (23, 11, 5), (21, 20, 4), (25, 23, 1), (26, 0, 3), (8, 17, 1), (30, 0, 4), (8, 15, 1), (30, 4, 4), (31, 22, 2), (32, 0, 2), (34, 14, 4), (8, 21, 1), (8, 20, 1), (34, 18, 4), (16, 13, 4), (55, 0, 59)] rfl gw_wsX12_write
set_option maxRecDepth 20000 in
theorem gL_law_X12_write : GoodIn wsL_law (wsV RL 84 RX12 yX12_write wsX12_write) := goodIn_app (goodIn_sl wsL_cs wsL_cs_in _ [(34, 5, 3), (0, 5, 1)] rfl rfl) ggL_law_X12_write
set_option maxRecDepth 20000 in
theorem ggL_law_X11_read : GoodIn wsL_law wsX11_read := goodIn_sl wsL_cs wsL_cs_in _ [(35, 1, 1), (1, 0, 1), (0, 20, 1), (15, 11, 1), (1, 18, 1), (13, 19, 3), (0, 23, 1), (13, 22, 1), (3, 11, 1), (11, 23, 1), (12, 0, 2), (0, 19, 1), (12, 2, 1), (3, 1, 1), (24, 1, 3), (0, 2, 1), (24, 4, 1), (1, 11, 1), (1, 10, 1), (32, 17, 4), (3, 10, 1), (3, 5, 1), (35, 2, 3), (1, 17, 1), (35, 5, 1), (5, 21, 1), (5, 20, 1), (33, 1, 3), (5, 19, 1), (5, 10, 1), (35, 6, 1), (17, 11, 1), (17, 8, 1), (17, 12, 1), (33, 4, 1), (12, 4, 3), (2, 23, 1), (2, 21, 1), (12, 7, 1), (33, 5, 1), (28, 19, 2), (1, 7, 1), (28, 21, 1), (4, 6, 3), (4, 5, 1), (28, 22, 2), (29, 0, 1), (17, 7, 1), (17, 9, 1), (4, 11, 1), (29, 1, 1), (4, 3, 1), (29, 2, 1), (26, 22, 2), (27, 0, 1), (4, 9, 1), (27, 1, 6), (4, 10, 1), (27, 7, 1), (24, 19, 2), (1, 13, 1), (24, 21, 1), (20, 14, 1), (4, 16, 1), (4, 23, 1), (20, 18, 3), (27, 8, 16), (28, 0, 3), (21, 1, 2), (28, 3, 4), (29, 3, 4), (4, 4, 1), (29, 7, 4), (33, 19, 1), (54, 0, 13), (58, 0, 6), (57, 0, 4), (62, 0, 12), (61, 0, 13), (60, 0, 9)] rfl gw_wsX11_read
set_option maxRecDepth 20000 in
theorem gL_law_X11_read : GoodIn wsL_law (wsV RL 85 RX11 yX11_read wsX11_read) := goodIn_app (goodIn_sl wsL_cs wsL_cs_in _ [(34, 22, 2), (35, 0, 1), (0, 2, 1)] rfl rfl) ggL_law_X11_read
set_option maxRecDepth 20000 in
theorem ggL_law_X12_read : GoodIn wsL_law wsX12_read := goodIn_sl wsL_cs wsL_cs_in _ [(35, 10, 1), (8, 5, 1), (29, 15, 1), (9, 12, 1), (8, 19, 1), (14, 16, 3), (0, 5, 1), (14, 19, 1), (13, 13, 1), (10, 6, 3), (12, 12, 4), (11, 10, 1), (34, 10, 4), (8, 4, 1), (8, 6, 1), (29, 16, 4), (8, 8, 1), (12, 16, 4), (8, 0, 2), (12, 20, 1), (29, 20, 4), (25, 18, 1), (8, 9, 1), (9, 11, 1), (8, 10, 1), (25, 14, 4), (8, 7, 1), (8, 11, 1), (25, 19, 4), (8, 14, 1), (23, 11, 5), (21, 20, 4), (25, 23, 1), (26, 0, 3), (8, 17, 1), (30, 0, 4), (8, 15, 1), (30, 4, 4), (55, 0, 59)] rfl gw_wsX12_read
set_option maxRecDepth 20000 in
theorem gL_law_X12_read : GoodIn wsL_law (wsV RL 88 RX12 yX12_read wsX12_read) := goodIn_app (goodIn_sl wsL_cs wsL_cs_in _ [(35, 7, 3), (0, 5, 1)] rfl rfl) ggL_law_X12_read
set_option maxRecDepth 20000 in
theorem ggL_law_X11_onShelf : GoodIn wsL_law wsX11_onShelf := goodIn_sl wsL_cs wsL_cs_in _ [(35, 14, 1), (1, 0, 1), (0, 20, 1), (1, 18, 1), (35, 15, 4), (13, 19, 3), (0, 23, 1), (13, 22, 1), (3, 11, 1), (11, 23, 1), (12, 0, 2), (0, 19, 1), (12, 2, 1), (3, 1, 1), (54, 0, 13), (62, 0, 12), (58, 0, 6), (57, 0, 4)] rfl gw_wsX11_onShelf
set_option maxRecDepth 20000 in
theorem gL_law_X11_onShelf : GoodIn wsL_law (wsV RL 89 RX11 yX11_onShelf wsX11_onShelf) := goodIn_app (goodIn_sl wsL_cs wsL_cs_in _ [(35, 11, 3), (0, 2, 1)] rfl rfl) ggL_law_X11_onShelf
set_option maxRecDepth 20000 in
theorem ggL_law_X12_onShelf : GoodIn wsL_law wsX12_onShelf := goodIn_sl wsL_cs wsL_cs_in _ [(35, 22, 1), (8, 19, 4), (14, 16, 3), (0, 5, 1), (14, 19, 1), (13, 13, 1), (10, 6, 3), (12, 12, 4), (11, 10, 1), (55, 0, 59)] rfl gw_wsX12_onShelf
set_option maxRecDepth 20000 in
theorem gL_law_X12_onShelf : GoodIn wsL_law (wsV RL 92 RX12 yX12_onShelf wsX12_onShelf) := goodIn_app (goodIn_sl wsL_cs wsL_cs_in _ [(35, 19, 3), (0, 5, 1)] rfl rfl) ggL_law_X12_onShelf
set_option maxRecDepth 20000 in
theorem ggL_law_X11_fall : GoodIn wsL_law wsX11_fall := goodIn_sl wsL_cs wsL_cs_in _ [(36, 2, 1), (1, 0, 1), (15, 12, 1), (1, 18, 1), (13, 19, 3), (0, 23, 1), (13, 22, 1), (3, 11, 1), (36, 3, 3), (1, 17, 1), (36, 6, 1), (5, 10, 2), (36, 7, 1), (7, 17, 3), (54, 0, 13), (58, 0, 6), (62, 0, 12)] rfl gw_wsX11_fall
set_option maxRecDepth 20000 in
theorem gL_law_X11_fall : GoodIn wsL_law (wsV RL 93 RX11 yX11_fall wsX11_fall) := goodIn_app (goodIn_sl wsL_cs wsL_cs_in _ [(35, 23, 1), (36, 0, 2), (0, 2, 1)] rfl rfl) ggL_law_X11_fall
set_option maxRecDepth 20000 in
theorem ggL_law_X12_fall : GoodIn wsL_law wsX12_fall := goodIn_sl wsL_cs wsL_cs_in _ [(36, 11, 1), (8, 6, 1), (8, 19, 3), (14, 16, 3), (0, 5, 1), (14, 19, 1), (13, 13, 1), (10, 6, 3), (55, 0, 59)] rfl gw_wsX12_fall
set_option maxRecDepth 20000 in
theorem gL_law_X12_fall : GoodIn wsL_law (wsV RL 96 RX12 yX12_fall wsX12_fall) := goodIn_app (goodIn_sl wsL_cs wsL_cs_in _ [(36, 8, 3), (0, 5, 1)] rfl rfl) ggL_law_X12_fall
set_option maxRecDepth 20000 in
theorem ggL_law_X11_half : GoodIn wsL_law wsX11_half := goodIn_sl wsL_cs wsL_cs_in _ [(36, 15, 1), (0, 20, 1), (1, 0, 1), (1, 18, 1), (35, 15, 1), (11, 23, 1), (12, 0, 2), (0, 19, 1), (12, 2, 1), (3, 1, 1), (13, 19, 3), (0, 23, 1), (13, 22, 1), (3, 11, 1), (36, 16, 3), (1, 17, 1), (36, 19, 1), (5, 19, 1), (5, 13, 2), (5, 10, 1), (33, 19, 1), (32, 18, 3), (3, 10, 1), (3, 5, 1), (14, 8, 4), (54, 0, 13), (62, 0, 12), (57, 0, 4), (58, 0, 6)] rfl gw_wsX11_half
set_option maxRecDepth 20000 in
theorem gL_law_X11_half : GoodIn wsL_law (wsV RL 97 RX11 yX11_half wsX11_half) := goodIn_app (goodIn_sl wsL_cs wsL_cs_in _ [(36, 12, 3), (0, 2, 1)] rfl rfl) ggL_law_X11_half
set_option maxRecDepth 20000 in
theorem ggL_law_X12_half : GoodIn wsL_law wsX12_half := goodIn_sl wsL_cs wsL_cs_in _ [(36, 23, 1), (8, 19, 1), (8, 22, 2), (12, 12, 3), (0, 5, 1), (12, 15, 1), (11, 10, 1), (10, 6, 3), (14, 16, 4), (13, 13, 1), (34, 10, 4), (8, 4, 1), (8, 6, 1), (55, 0, 59)] rfl gw_wsX12_half
set_option maxRecDepth 20000 in
theorem gL_law_X12_half : GoodIn wsL_law (wsV RL 100 RX12 yX12_half wsX12_half) := goodIn_app (goodIn_sl wsL_cs wsL_cs_in _ [(36, 20, 3), (0, 5, 1)] rfl rfl) ggL_law_X12_half
set_option maxRecDepth 20000 in
theorem ggL_law_X11_mend : GoodIn wsL_law wsX11_mend := goodIn_sl wsL_cs wsL_cs_in _ [(37, 3, 1), (1, 18, 1), (24, 1, 3), (0, 2, 1), (24, 4, 1), (1, 11, 1), (1, 10, 1), (37, 4, 3), (1, 17, 1), (37, 7, 1), (5, 20, 1), (14, 7, 1), (5, 21, 1), (33, 1, 3), (5, 19, 1), (37, 8, 4), (14, 6, 1), (33, 10, 1), (5, 10, 1), (35, 6, 1), (17, 11, 1), (17, 8, 1), (17, 12, 1), (33, 4, 1), (12, 4, 2), (0, 19, 1), (12, 6, 1), (2, 23, 1), (2, 21, 1), (12, 7, 1), (33, 5, 1), (28, 19, 2), (1, 7, 1), (28, 21, 1), (4, 6, 3), (4, 5, 1), (28, 22, 2), (29, 0, 1), (17, 7, 1), (17, 9, 1), (4, 11, 1), (29, 1, 1), (4, 3, 1), (29, 2, 1), (26, 22, 2), (27, 0, 1), (4, 9, 1), (27, 1, 6), (4, 10, 1), (27, 7, 1), (24, 19, 2), (1, 13, 1), (24, 21, 1), (20, 14, 1), (4, 16, 1), (4, 23, 1), (20, 18, 3), (27, 8, 16), (28, 0, 3), (21, 1, 2), (28, 3, 4), (29, 3, 4), (4, 4, 1), (29, 7, 4), (33, 19, 1), (32, 18, 2), (0, 23, 1), (32, 20, 1), (3, 10, 1), (3, 5, 1), (33, 20, 4), (34, 0, 4), (33, 11, 1), (34, 4, 1), (15, 18, 6), (14, 8, 4), (54, 0, 13), (62, 0, 12), (57, 0, 4), (61, 0, 13), (60, 0, 9), (58, 0, 6)] rfl gw_wsX11_mend
set_option maxRecDepth 20000 in
theorem gL_law_X11_mend : GoodIn wsL_law (wsV RL 101 RX11 yX11_mend wsX11_mend) := goodIn_app (goodIn_sl wsL_cs wsL_cs_in _ [(37, 0, 3), (0, 2, 1)] rfl rfl) ggL_law_X11_mend
set_option maxRecDepth 20000 in
theorem ggL_law_X12_mend : GoodIn wsL_law wsX12_mend := goodIn_sl wsL_cs wsL_cs_in _ [(37, 15, 1), (11, 10, 1), (13, 13, 1), (8, 6, 1), (8, 19, 1), (29, 15, 1), (9, 12, 1), (25, 2, 3), (0, 5, 1), (25, 5, 1), (21, 11, 1), (10, 6, 3), (29, 16, 4), (8, 8, 1), (12, 16, 4), (8, 0, 2), (12, 20, 1), (29, 20, 4), (25, 18, 1), (8, 9, 1), (9, 11, 1), (8, 10, 1), (25, 14, 4), (8, 7, 1), (8, 11, 1), (25, 19, 4), (8, 14, 1), (23, 11, 5), (21, 20, 4), (25, 23, 1), (26, 0, 3), (8, 17, 1), (30, 0, 4), (8, 15, 1), (30, 4, 4), (34, 10, 4), (8, 4, 1), (34, 18, 4), (16, 13, 4), (8, 20, 1), (55, 0, 59)] rfl gw_wsX12_mend
set_option maxRecDepth 20000 in
theorem gL_law_X12_mend : GoodIn wsL_law (wsV RL 104 RX12 yX12_mend wsX12_mend) := goodIn_app (goodIn_sl wsL_cs wsL_cs_in _ [(37, 12, 3), (0, 5, 1)] rfl rfl) ggL_law_X12_mend
set_option maxRecDepth 20000 in
theorem ggL_law_X11_trees : GoodIn wsL_law wsX11_trees := goodIn_sl wsL_cs wsL_cs_in _ [(37, 19, 1), (1, 0, 1), (1, 18, 1), (13, 19, 3), (0, 23, 1), (13, 22, 1), (3, 11, 1), (37, 20, 3), (1, 17, 1), (37, 23, 1), (5, 16, 2), (38, 0, 4), (5, 20, 1), (14, 7, 1), (5, 10, 1), (36, 7, 1), (7, 17, 3), (38, 4, 8), (54, 0, 13), (58, 0, 6), (62, 0, 12), (57, 0, 4)] rfl gw_wsX11_trees
set_option maxRecDepth 20000 in
theorem gL_law_X11_trees : GoodIn wsL_law (wsV RL 105 RX11 yX11_trees wsX11_trees) := goodIn_app (goodIn_sl wsL_cs wsL_cs_in _ [(37, 16, 3), (0, 2, 1)] rfl rfl) ggL_law_X11_trees
set_option maxRecDepth 20000 in
theorem ggL_law_X12_trees : GoodIn wsL_law wsX12_trees := goodIn_sl wsL_cs wsL_cs_in _ [(38, 15, 1), (14, 16, 3), (0, 5, 1), (14, 19, 1), (13, 13, 1), (10, 6, 3), (38, 16, 8), (39, 0, 4), (11, 10, 1), (8, 19, 1), (55, 0, 59)] rfl gw_wsX12_trees
set_option maxRecDepth 20000 in
theorem gL_law_X12_trees : GoodIn wsL_law (wsV RL 108 RX12 yX12_trees wsX12_trees) := goodIn_app (goodIn_sl wsL_cs wsL_cs_in _ [(38, 12, 3), (0, 5, 1)] rfl rfl) ggL_law_X12_trees
set_option maxRecDepth 20000 in
theorem ggL_law_X11_noon : GoodIn wsL_law wsX11_noon := goodIn_sl wsL_cs wsL_cs_in _ [(39, 7, 1), (23, 20, 1), (24, 1, 3), (0, 2, 1), (24, 4, 1), (1, 11, 1), (1, 10, 1), (30, 13, 1), (18, 8, 6), (39, 8, 3), (61, 0, 13), (54, 0, 13)] rfl gw_wsX11_noon
set_option maxRecDepth 20000 in
theorem gL_law_X11_noon : GoodIn wsL_law (wsV RL 109 RX11 yX11_noon wsX11_noon) := goodIn_app (goodIn_sl wsL_cs wsL_cs_in _ [(39, 4, 3), (0, 2, 1)] rfl rfl) ggL_law_X11_noon
set_option maxRecDepth 20000 in
theorem ggL_law_X12_noon : GoodIn wsL_law wsX12_noon := goodIn_sl wsL_cs wsL_cs_in _ [(39, 14, 1), (8, 7, 1), (25, 2, 3), (0, 5, 1), (25, 5, 1), (21, 11, 1), (10, 6, 3), (32, 2, 3), (55, 0, 59)] rfl gw_wsX12_noon
set_option maxRecDepth 20000 in
theorem gL_law_X12_noon : GoodIn wsL_law (wsV RL 112 RX12 yX12_noon wsX12_noon) := goodIn_app (goodIn_sl wsL_cs wsL_cs_in _ [(39, 11, 3), (0, 5, 1)] rfl rfl) ggL_law_X12_noon
set_option maxRecDepth 20000 in
theorem ggL_law_X11_lies : GoodIn wsL_law wsX11_lies := goodIn_sl wsL_cs wsL_cs_in _ [(39, 18, 1), (1, 0, 1), (15, 0, 1), (39, 19, 1), (17, 11, 1), (17, 8, 1), (17, 12, 1), (13, 19, 3), (0, 23, 1), (13, 22, 1), (3, 11, 1), (39, 8, 2), (0, 2, 1), (39, 10, 1), (54, 0, 13), (58, 0, 6)] rfl gw_wsX11_lies
set_option maxRecDepth 20000 in
theorem gL_law_X11_lies : GoodIn wsL_law (wsV RL 113 RX11 yX11_lies wsX11_lies) := goodIn_app (goodIn_sl wsL_cs wsL_cs_in _ [(39, 15, 3), (0, 2, 1)] rfl rfl) ggL_law_X11_lies
set_option maxRecDepth 20000 in
theorem ggL_law_X12_lies : GoodIn wsL_law wsX12_lies := goodIn_sl wsL_cs wsL_cs_in _ [(39, 23, 1), (8, 3, 1), (14, 16, 3), (0, 5, 1), (14, 19, 1), (13, 13, 1), (10, 6, 3), (55, 0, 59)] rfl gw_wsX12_lies
set_option maxRecDepth 20000 in
theorem gL_law_X12_lies : GoodIn wsL_law (wsV RL 117 RX12 yX12_lies wsX12_lies) := goodIn_app (goodIn_sl wsL_cs wsL_cs_in _ [(39, 20, 3), (0, 5, 1)] rfl rfl) ggL_law_X12_lies
set_option maxRecDepth 20000 in
theorem ggL_law_X11_comes : GoodIn wsL_law wsX11_comes := goodIn_sl wsL_cs wsL_cs_in _ [(40, 3, 1), (1, 0, 1), (1, 22, 1), (40, 4, 2), (13, 19, 3), (0, 23, 1), (13, 22, 1), (3, 11, 1), (40, 6, 3), (1, 21, 1), (40, 9, 1), (6, 3, 1), (6, 2, 1), (54, 0, 13), (63, 0, 10), (58, 0, 6)] rfl gw_wsX11_comes
set_option maxRecDepth 20000 in
theorem gL_law_X11_comes : GoodIn wsL_law (wsV RL 118 RX11 yX11_comes wsX11_comes) := goodIn_app (goodIn_sl wsL_cs wsL_cs_in _ [(40, 0, 3), (0, 2, 1)] rfl rfl) ggL_law_X11_comes
set_option maxRecDepth 20000 in
theorem ggL_law_X12_comes : GoodIn wsL_law wsX12_comes := goodIn_sl wsL_cs wsL_cs_in _ [(40, 13, 2), (9, 1, 1), (14, 16, 3), (0, 5, 1), (14, 19, 1), (13, 13, 1), (10, 6, 3), (40, 15, 4), (55, 0, 59)] rfl gw_wsX12_comes
set_option maxRecDepth 20000 in
theorem gL_law_X12_comes : GoodIn wsL_law (wsV RL 121 RX12 yX12_comes wsX12_comes) := goodIn_app (goodIn_sl wsL_cs wsL_cs_in _ [(40, 10, 3), (0, 5, 1)] rfl rfl) ggL_law_X12_comes
set_option maxRecDepth 20000 in
theorem ggL_law_X11_order : GoodIn wsL_law wsX11_order := goodIn_sl wsL_cs wsL_cs_in _ [(40, 22, 1), (1, 22, 1), (40, 4, 1), (1, 14, 1), (24, 1, 3), (0, 2, 1), (24, 4, 1), (1, 11, 1), (1, 10, 1), (40, 23, 1), (41, 0, 2), (1, 21, 1), (41, 2, 1), (6, 3, 1), (6, 8, 1), (41, 3, 4), (6, 2, 1), (41, 7, 2), (6, 9, 1), (6, 12, 1), (41, 9, 1), (6, 10, 1), (41, 10, 1), (6, 11, 1), (6, 7, 1), (41, 11, 2), (20, 6, 2), (1, 13, 1), (20, 8, 1), (4, 15, 1), (4, 23, 1), (17, 13, 1), (11, 3, 3), (5, 1, 1), (4, 21, 1), (4, 17, 3), (20, 9, 1), (17, 3, 10), (41, 13, 1), (15, 14, 2), (0, 23, 1), (15, 16, 1), (3, 5, 1), (3, 7, 1), (41, 14, 1), (17, 15, 2), (1, 3, 1), (17, 17, 2), (3, 15, 1), (17, 19, 1), (3, 16, 3), (17, 20, 4), (18, 0, 4), (3, 19, 1), (3, 21, 2), (18, 4, 3), (3, 20, 1), (18, 7, 17), (19, 0, 24), (20, 0, 5), (41, 15, 1), (20, 11, 3), (4, 16, 1), (4, 20, 1), (4, 22, 1), (5, 2, 1), (20, 14, 3), (7, 18, 1), (20, 17, 7), (21, 0, 7), (5, 4, 1), (41, 16, 1), (12, 4, 2), (0, 19, 1), (12, 6, 1), (2, 23, 1), (2, 21, 1), (12, 7, 1), (41, 17, 1), (28, 19, 2), (1, 7, 1), (28, 21, 1), (4, 6, 3), (4, 5, 1), (28, 22, 2), (29, 0, 1), (4, 11, 1), (29, 1, 1), (4, 3, 1), (29, 2, 1), (26, 22, 2), (27, 0, 1), (4, 9, 1), (27, 1, 6), (4, 10, 1), (27, 7, 1), (24, 19, 3), (27, 8, 16), (28, 0, 7), (29, 3, 4), (4, 4, 1), (29, 7, 4), (41, 18, 6), (42, 0, 7), (6, 5, 1), (6, 4, 1), (42, 7, 4), (54, 0, 13), (63, 0, 10), (61, 0, 13), (57, 0, 4), (60, 0, 9), (58, 0, 6), (59, 0, 8)] rfl gw_wsX11_order
set_option maxRecDepth 20000 in
theorem gL_law_X11_order : GoodIn wsL_law (wsV RL 122 RX11 yX11_order wsX11_order) := goodIn_app (goodIn_sl wsL_cs wsL_cs_in _ [(40, 19, 3), (0, 2, 1)] rfl rfl) ggL_law_X11_order
set_option maxRecDepth 20000 in
theorem ggL_law_X12_order : GoodIn wsL_law wsX12_order := goodIn_sl wsL_cs wsL_cs_in _ [(42, 14, 1), (40, 14, 1), (8, 8, 1), (11, 10, 1), (9, 14, 2), (42, 15, 1), (9, 2, 1), (25, 2, 3), (0, 5, 1), (25, 5, 1), (21, 11, 1), (10, 6, 3), (42, 16, 4), (8, 7, 1), (9, 1, 1), (42, 20, 4), (8, 12, 2), (13, 13, 1), (8, 14, 2), (8, 2, 1), (21, 20, 4), (16, 9, 4), (8, 4, 1), (8, 3, 1), (21, 12, 8), (22, 0, 8), (8, 9, 3), (22, 8, 16), (23, 0, 11), (8, 17, 1), (8, 16, 1), (23, 11, 5), (29, 16, 4), (12, 16, 4), (8, 0, 2), (12, 20, 1), (29, 20, 4), (29, 15, 1), (25, 18, 1), (9, 11, 2), (25, 14, 4), (25, 19, 5), (26, 0, 3), (30, 0, 8), (31, 22, 2), (32, 0, 2), (43, 0, 4), (32, 2, 3), (43, 4, 4), (55, 0, 59)] rfl gw_wsX12_order
set_option maxRecDepth 20000 in
theorem gL_law_X12_order : GoodIn wsL_law (wsV RL 125 RX12 yX12_order wsX12_order) := goodIn_app (goodIn_sl wsL_cs wsL_cs_in _ [(42, 11, 3), (0, 5, 1)] rfl rfl) ggL_law_X12_order
set_option maxRecDepth 20000 in
theorem ggL_law_X11_ordered : GoodIn wsL_law wsX11_ordered := goodIn_sl wsL_cs wsL_cs_in _ [(43, 11, 1), (1, 22, 1), (43, 12, 2), (54, 0, 13), (63, 0, 10)] rfl gw_wsX11_ordered
set_option maxRecDepth 20000 in
theorem gL_law_X11_ordered : GoodIn wsL_law (wsV RL 126 RX11 yX11_ordered wsX11_ordered) := goodIn_app (goodIn_sl wsL_cs wsL_cs_in _ [(43, 8, 3), (0, 2, 1)] rfl rfl) ggL_law_X11_ordered
set_option maxRecDepth 20000 in
theorem ggL_law_X12_ordered : GoodIn wsL_law wsX12_ordered := goodIn_sl wsL_cs wsL_cs_in _ [(43, 17, 1), (42, 15, 1), (9, 2, 1), (10, 6, 2), (0, 5, 1), (10, 8, 1), (55, 0, 59)] rfl gw_wsX12_ordered
set_option maxRecDepth 20000 in
theorem gL_law_X12_ordered : GoodIn wsL_law (wsV RL 129 RX12 yX12_ordered wsX12_ordered) := goodIn_app (goodIn_sl wsL_cs wsL_cs_in _ [(43, 14, 3), (0, 5, 1)] rfl rfl) ggL_law_X12_ordered
set_option maxRecDepth 20000 in
theorem ggL_law_X11_turning : GoodIn wsL_law wsX11_turning := goodIn_sl wsL_cs wsL_cs_in _ [(43, 21, 1), (2, 2, 1), (43, 22, 2), (54, 0, 13), (64, 0, 5)] rfl gw_wsX11_turning
set_option maxRecDepth 20000 in
theorem gL_law_X11_turning : GoodIn wsL_law (wsV RL 130 RX11 yX11_turning wsX11_turning) := goodIn_app (goodIn_sl wsL_cs wsL_cs_in _ [(43, 18, 3), (0, 2, 1)] rfl rfl) ggL_law_X11_turning
set_option maxRecDepth 20000 in
theorem ggL_law_X12_turning : GoodIn wsL_law wsX12_turning := goodIn_sl wsL_cs wsL_cs_in _ [(44, 3, 2), (9, 3, 1), (55, 0, 59)] rfl gw_wsX12_turning
set_option maxRecDepth 20000 in
theorem gL_law_X12_turning : GoodIn wsL_law (wsV RL 133 RX12 yX12_turning wsX12_turning) := goodIn_app (goodIn_sl wsL_cs wsL_cs_in _ [(44, 0, 3), (0, 5, 1)] rfl rfl) ggL_law_X12_turning
set_option maxRecDepth 20000 in
theorem ggL_law_X11_harm : GoodIn wsL_law wsX11_harm := goodIn_sl wsL_cs wsL_cs_in _ [(44, 8, 1), (2, 2, 1), (43, 22, 1), (1, 14, 1), (24, 1, 3), (0, 2, 1), (24, 4, 1), (1, 11, 1), (1, 10, 1), (44, 9, 3), (2, 1, 1), (44, 12, 1), (6, 18, 1), (6, 17, 1), (6, 19, 1), (44, 13, 1), (20, 6, 2), (1, 13, 1), (20, 8, 1), (4, 15, 1), (4, 23, 1), (17, 13, 1), (11, 3, 3), (5, 1, 1), (4, 21, 1), (4, 17, 3), (20, 9, 1), (17, 3, 10), (44, 14, 1), (20, 11, 3), (4, 16, 1), (4, 20, 1), (4, 22, 1), (5, 2, 1), (20, 14, 3), (7, 18, 1), (20, 17, 7), (21, 0, 7), (5, 4, 1), (44, 15, 4), (6, 20, 2), (44, 19, 4), (7, 17, 1), (7, 19, 1), (44, 23, 1), (12, 4, 2), (0, 19, 1), (12, 6, 1), (2, 23, 1), (2, 21, 1), (12, 7, 1), (45, 0, 1), (24, 15, 7), (54, 0, 13), (64, 0, 5), (61, 0, 13), (57, 0, 4)] rfl gw_wsX11_harm
set_option maxRecDepth 20000 in
theorem gL_law_X11_harm : GoodIn wsL_law (wsV RL 134 RX11 yX11_harm wsX11_harm) := goodIn_app (goodIn_sl wsL_cs wsL_cs_in _ [(44, 5, 3), (0, 2, 1)] rfl rfl) ggL_law_X11_harm
set_option maxRecDepth 20000 in
theorem ggL_law_X12_harm : GoodIn wsL_law wsX12_harm := goodIn_sl wsL_cs wsL_cs_in _ [(45, 4, 1), (44, 4, 1), (8, 7, 1), (9, 3, 1), (13, 13, 1), (9, 4, 1), (25, 2, 3), (0, 5, 1), (25, 5, 1), (21, 11, 1), (10, 6, 3), (42, 20, 4), (8, 8, 1), (8, 12, 4), (8, 2, 1), (21, 20, 4), (16, 9, 4), (8, 4, 1), (8, 3, 1), (21, 12, 8), (22, 0, 8), (8, 9, 3), (22, 8, 16), (23, 0, 11), (8, 17, 1), (8, 16, 1), (23, 11, 5), (31, 5, 4), (11, 10, 1), (9, 11, 1), (12, 16, 4), (8, 0, 2), (12, 20, 1), (25, 14, 10), (26, 0, 3), (55, 0, 59)] rfl gw_wsX12_harm
set_option maxRecDepth 20000 in
theorem gL_law_X12_harm : GoodIn wsL_law (wsV RL 137 RX12 yX12_harm wsX12_harm) := goodIn_app (goodIn_sl wsL_cs wsL_cs_in _ [(45, 1, 3), (0, 5, 1)] rfl rfl) ggL_law_X12_harm
set_option maxRecDepth 20000 in
theorem ggL_law_X11_harmed : GoodIn wsL_law wsX11_harmed := goodIn_sl wsL_cs wsL_cs_in _ [(45, 8, 1), (2, 2, 1), (45, 9, 1), (54, 0, 13), (64, 0, 5)] rfl gw_wsX11_harmed
set_option maxRecDepth 20000 in
theorem gL_law_X11_harmed : GoodIn wsL_law (wsV RL 138 RX11 yX11_harmed wsX11_harmed) := goodIn_app (goodIn_sl wsL_cs wsL_cs_in _ [(45, 5, 3), (0, 2, 1)] rfl rfl) ggL_law_X11_harmed
set_option maxRecDepth 20000 in
theorem ggL_law_X12_harmed : GoodIn wsL_law wsX12_harmed := goodIn_sl wsL_cs wsL_cs_in _ [(45, 13, 1), (9, 4, 1), (55, 0, 59)] rfl gw_wsX12_harmed
set_option maxRecDepth 20000 in
theorem gL_law_X12_harmed : GoodIn wsL_law (wsV RL 141 RX12 yX12_harmed wsX12_harmed) := goodIn_app (goodIn_sl wsL_cs wsL_cs_in _ [(45, 10, 3), (0, 5, 1)] rfl rfl) ggL_law_X12_harmed
set_option maxRecDepth 20000 in
theorem ggL_law_X11_act : GoodIn wsL_law wsX11_act := goodIn_sl wsL_cs wsL_cs_in _ [(45, 17, 1), (2, 6, 1), (45, 18, 1), (1, 0, 1), (15, 0, 1), (13, 18, 4), (0, 23, 1), (13, 22, 1), (3, 11, 1), (45, 19, 3), (2, 5, 1), (45, 22, 1), (7, 4, 2), (7, 3, 1), (45, 23, 1), (46, 0, 7), (7, 2, 1), (7, 1, 1), (46, 7, 12), (54, 0, 13), (65, 0, 5), (58, 0, 6)] rfl gw_wsX11_act
set_option maxRecDepth 20000 in
theorem gL_law_X11_act : GoodIn wsL_law (wsV RL 142 RX11 yX11_act wsX11_act) := goodIn_app (goodIn_sl wsL_cs wsL_cs_in _ [(45, 14, 3), (0, 2, 1)] rfl rfl) ggL_law_X11_act
set_option maxRecDepth 20000 in
theorem ggL_law_X12_act : GoodIn wsL_law wsX12_act := goodIn_sl wsL_cs wsL_cs_in _ [(46, 22, 2), (8, 4, 1), (14, 16, 3), (0, 5, 1), (14, 19, 1), (13, 13, 1), (10, 6, 3), (47, 0, 4), (8, 3, 1), (47, 4, 4), (9, 5, 1), (47, 8, 15), (55, 0, 59)] rfl gw_wsX12_act
set_option maxRecDepth 20000 in
theorem gL_law_X12_act : GoodIn wsL_law (wsV RL 145 RX12 yX12_act wsX12_act) := goodIn_app (goodIn_sl wsL_cs wsL_cs_in _ [(46, 19, 3), (0, 5, 1)] rfl rfl) ggL_law_X12_act
set_option maxRecDepth 20000 in
theorem ggL_law_X11_trace : GoodIn wsL_law wsX11_trace := goodIn_sl wsL_cs wsL_cs_in _ [(48, 2, 1), (2, 6, 1), (45, 18, 1), (48, 3, 1), (54, 0, 13), (65, 0, 5)] rfl gw_wsX11_trace
set_option maxRecDepth 20000 in
theorem gL_law_X11_trace : GoodIn wsL_law (wsV RL 146 RX11 yX11_trace wsX11_trace) := goodIn_app (goodIn_sl wsL_cs wsL_cs_in _ [(47, 23, 1), (48, 0, 2), (0, 2, 1)] rfl rfl) ggL_law_X11_trace
set_option maxRecDepth 20000 in
theorem ggL_law_X12_trace : GoodIn wsL_law wsX12_trace := goodIn_sl wsL_cs wsL_cs_in _ [(48, 7, 1), (46, 23, 1), (9, 5, 1), (55, 0, 59)] rfl gw_wsX12_trace
set_option maxRecDepth 20000 in
theorem gL_law_X12_trace : GoodIn wsL_law (wsV RL 149 RX12 yX12_trace wsX12_trace) := goodIn_app (goodIn_sl wsL_cs wsL_cs_in _ [(48, 4, 3), (0, 5, 1)] rfl rfl) ggL_law_X12_trace
set_option maxRecDepth 20000 in
theorem ggL_law_X11_keep : GoodIn wsL_law wsX11_keep := goodIn_sl wsL_cs wsL_cs_in _ [(48, 11, 1), (1, 0, 1), (2, 10, 1), (48, 12, 2), (0, 2, 1), (48, 14, 1), (13, 19, 3), (0, 23, 1), (13, 22, 1), (3, 11, 1), (48, 15, 3), (2, 9, 1), (48, 18, 1), (7, 10, 3), (54, 0, 13), (58, 0, 6), (66, 0, 4)] rfl gw_wsX11_keep
set_option maxRecDepth 20000 in
theorem gL_law_X11_keep : GoodIn wsL_law (wsV RL 150 RX11 yX11_keep wsX11_keep) := goodIn_app (goodIn_sl wsL_cs wsL_cs_in _ [(48, 8, 3), (0, 2, 1)] rfl rfl) ggL_law_X11_keep
set_option maxRecDepth 20000 in
theorem ggL_law_X12_keep : GoodIn wsL_law wsX12_keep := goodIn_sl wsL_cs wsL_cs_in _ [(48, 22, 1), (9, 6, 2), (48, 23, 1), (49, 0, 1), (0, 5, 1), (49, 1, 1), (10, 6, 3), (14, 16, 4), (13, 13, 1), (55, 0, 59)] rfl gw_wsX12_keep
set_option maxRecDepth 20000 in
theorem gL_law_X12_keep : GoodIn wsL_law (wsV RL 153 RX12 yX12_keep wsX12_keep) := goodIn_app (goodIn_sl wsL_cs wsL_cs_in _ [(48, 19, 3), (0, 5, 1)] rfl rfl) ggL_law_X12_keep
set_option maxRecDepth 20000 in
theorem ggL_law_X11_row : GoodIn wsL_law wsX11_row := goodIn_sl wsL_cs wsL_cs_in _ [(49, 5, 1), (2, 10, 1), (48, 12, 2), (0, 2, 1), (48, 14, 1), (49, 6, 3), (2, 9, 1), (49, 9, 1), (7, 10, 3), (7, 15, 1), (49, 10, 2), (7, 18, 1), (49, 12, 1), (54, 0, 13), (66, 0, 4)] rfl gw_wsX11_row
set_option maxRecDepth 20000 in
theorem gL_law_X11_row : GoodIn wsL_law (wsV RL 154 RX11 yX11_row wsX11_row) := goodIn_app (goodIn_sl wsL_cs wsL_cs_in _ [(49, 2, 3), (0, 2, 1)] rfl rfl) ggL_law_X11_row
set_option maxRecDepth 20000 in
theorem ggL_law_X12_row : GoodIn wsL_law wsX12_row := goodIn_sl wsL_cs wsL_cs_in _ [(49, 16, 1), (9, 6, 4), (48, 23, 1), (49, 0, 1), (0, 5, 1), (49, 1, 1), (10, 6, 3), (55, 0, 59)] rfl gw_wsX12_row
set_option maxRecDepth 20000 in
theorem gL_law_X12_row : GoodIn wsL_law (wsV RL 157 RX12 yX12_row wsX12_row) := goodIn_app (goodIn_sl wsL_cs wsL_cs_in _ [(49, 13, 3), (0, 5, 1)] rfl rfl) ggL_law_X12_row
set_option maxRecDepth 20000 in
theorem ggL_law_X11_put : GoodIn wsL_law wsX11_put := goodIn_sl wsL_cs wsL_cs_in _ [(49, 20, 1), (2, 10, 1), (49, 21, 2), (48, 12, 2), (0, 2, 1), (48, 14, 1), (49, 23, 1), (50, 0, 2), (2, 9, 1), (50, 2, 1), (7, 12, 1), (50, 3, 4), (7, 11, 1), (7, 10, 1), (50, 7, 7), (54, 0, 13), (66, 0, 4)] rfl gw_wsX11_put
set_option maxRecDepth 20000 in
theorem gL_law_X11_put : GoodIn wsL_law (wsV RL 160 RX11 yX11_put wsX11_put) := goodIn_app (goodIn_sl wsL_cs wsL_cs_in _ [(49, 17, 3), (0, 2, 1)] rfl rfl) ggL_law_X11_put
set_option maxRecDepth 20000 in
theorem ggL_law_X12_put : GoodIn wsL_law wsX12_put := goodIn_sl wsL_cs wsL_cs_in _ [(50, 17, 1), (9, 7, 1), (9, 9, 1), (50, 18, 3), (0, 5, 1), (50, 21, 1), (9, 6, 1), (9, 8, 1), (48, 23, 1), (49, 0, 2), (10, 6, 3), (55, 0, 59)] rfl gw_wsX12_put
set_option maxRecDepth 20000 in
theorem gL_law_X12_put : GoodIn wsL_law (wsV RL 164 RX12 yX12_put wsX12_put) := goodIn_app (goodIn_sl wsL_cs wsL_cs_in _ [(50, 14, 3), (0, 5, 1)] rfl rfl) ggL_law_X12_put
set_option maxRecDepth 20000 in
theorem ggL_law_X11_element : GoodIn wsL_law wsX11_element := goodIn_sl wsL_cs wsL_cs_in _ [(51, 1, 1), (2, 10, 1), (51, 2, 1), (49, 21, 1), (48, 12, 2), (0, 2, 1), (48, 14, 1), (49, 23, 1), (50, 0, 2), (2, 9, 1), (50, 2, 1), (7, 12, 1), (50, 3, 4), (7, 11, 1), (7, 10, 1), (50, 7, 4), (54, 0, 13), (66, 0, 4)] rfl gw_wsX11_element
set_option maxRecDepth 20000 in
theorem gL_law_X11_element : GoodIn wsL_law (wsV RL 165 RX11 yX11_element wsX11_element) := goodIn_app (goodIn_sl wsL_cs wsL_cs_in _ [(50, 22, 2), (51, 0, 1), (0, 2, 1)] rfl rfl) ggL_law_X11_element
set_option maxRecDepth 20000 in
theorem ggL_law_X12_element : GoodIn wsL_law wsX12_element := goodIn_sl wsL_cs wsL_cs_in _ [(51, 6, 2), (9, 9, 1), (50, 18, 3), (0, 5, 1), (50, 21, 1), (9, 7, 1), (9, 6, 1), (9, 8, 1), (48, 23, 1), (49, 0, 2), (10, 6, 3), (55, 0, 59)] rfl gw_wsX12_element
set_option maxRecDepth 20000 in
theorem gL_law_X12_element : GoodIn wsL_law (wsV RL 169 RX12 yX12_element wsX12_element) := goodIn_app (goodIn_sl wsL_cs wsL_cs_in _ [(51, 3, 3), (0, 5, 1)] rfl rfl) ggL_law_X12_element
set_option maxRecDepth 20000 in
theorem ggL_law_X11_shift : GoodIn wsL_law wsX11_shift := goodIn_sl wsL_cs wsL_cs_in _ [(51, 11, 1), (2, 10, 1), (49, 22, 1), (49, 21, 1), (51, 12, 1), (11, 3, 3), (48, 12, 2), (0, 2, 1), (48, 14, 1), (51, 13, 1), (50, 4, 2), (2, 9, 1), (50, 6, 1), (7, 11, 1), (7, 10, 1), (51, 14, 1), (50, 8, 3), (51, 15, 4), (7, 12, 1), (54, 0, 13), (66, 0, 4)] rfl gw_wsX11_shift
set_option maxRecDepth 20000 in
theorem gL_law_X11_shift : GoodIn wsL_law (wsV RL 170 RX11 yX11_shift wsX11_shift) := goodIn_app (goodIn_sl wsL_cs wsL_cs_in _ [(51, 8, 3), (0, 2, 1)] rfl rfl) ggL_law_X11_shift
set_option maxRecDepth 20000 in
theorem ggL_law_X12_shift : GoodIn wsL_law wsX12_shift := goodIn_sl wsL_cs wsL_cs_in _ [(51, 22, 1), (9, 7, 1), (9, 6, 1), (9, 8, 2), (48, 23, 1), (49, 0, 1), (0, 5, 1), (49, 1, 1), (10, 6, 3), (55, 0, 59)] rfl gw_wsX12_shift
set_option maxRecDepth 20000 in
theorem gL_law_X12_shift : GoodIn wsL_law (wsV RL 174 RX12 yX12_shift wsX12_shift) := goodIn_app (goodIn_sl wsL_cs wsL_cs_in _ [(51, 19, 3), (0, 5, 1)] rfl rfl) ggL_law_X12_shift
set_option maxRecDepth 20000 in
theorem ggL_law_X11_taken : GoodIn wsL_law wsX11_taken := goodIn_sl wsL_cs wsL_cs_in _ [(52, 2, 1), (2, 10, 1), (52, 3, 1), (1, 0, 1), (13, 18, 1), (48, 12, 2), (0, 2, 1), (48, 14, 1), (13, 23, 1), (14, 0, 2), (51, 13, 1), (50, 4, 2), (2, 9, 1), (50, 6, 1), (7, 11, 1), (7, 10, 1), (13, 19, 3), (0, 23, 1), (13, 22, 1), (3, 11, 1), (52, 4, 4), (54, 0, 13), (66, 0, 4), (58, 0, 6)] rfl gw_wsX11_taken
set_option maxRecDepth 20000 in
theorem gL_law_X11_taken : GoodIn wsL_law (wsV RL 175 RX11 yX11_taken wsX11_taken) := goodIn_app (goodIn_sl wsL_cs wsL_cs_in _ [(51, 23, 1), (52, 0, 2), (0, 2, 1)] rfl rfl) ggL_law_X11_taken
set_option maxRecDepth 20000 in
theorem ggL_law_X12_taken : GoodIn wsL_law wsX12_taken := goodIn_sl wsL_cs wsL_cs_in _ [(52, 11, 1), (9, 7, 1), (9, 6, 1), (8, 4, 1), (48, 23, 1), (49, 0, 1), (0, 5, 1), (49, 1, 1), (10, 6, 3), (55, 0, 59)] rfl gw_wsX12_taken
set_option maxRecDepth 20000 in
theorem gL_law_X12_taken : GoodIn wsL_law (wsV RL 178 RX12 yX12_taken wsX12_taken) := goodIn_app (goodIn_sl wsL_cs wsL_cs_in _ [(52, 8, 3), (0, 5, 1)] rfl rfl) ggL_law_X12_taken
set_option maxRecDepth 20000 in
theorem ggL_law_X11_names : GoodIn wsL_law wsX11_names := goodIn_sl wsL_cs wsL_cs_in _ [(52, 15, 1), (2, 10, 1), (49, 22, 1), (0, 20, 1), (49, 21, 1), (52, 16, 1), (48, 12, 2), (0, 2, 1), (48, 14, 1), (51, 13, 1), (50, 4, 2), (2, 9, 1), (50, 6, 1), (7, 11, 1), (7, 10, 1), (51, 14, 1), (50, 8, 3), (52, 17, 3), (0, 19, 1), (52, 20, 2), (3, 0, 1), (52, 22, 1), (10, 16, 3), (3, 1, 1), (2, 23, 1), (2, 21, 1), (10, 19, 3), (52, 23, 1), (10, 23, 1), (11, 0, 6), (54, 0, 13), (66, 0, 4), (57, 0, 4)] rfl gw_wsX11_names
set_option maxRecDepth 20000 in
theorem gL_law_X11_names : GoodIn wsL_law (wsV RL 179 RX11 yX11_names wsX11_names) := goodIn_app (goodIn_sl wsL_cs wsL_cs_in _ [(52, 12, 3), (0, 2, 1)] rfl rfl) ggL_law_X11_names
set_option maxRecDepth 20000 in
theorem ggL_law_X12_names : GoodIn wsL_law wsX12_names := goodIn_sl wsL_cs wsL_cs_in _ [(53, 3, 1), (9, 6, 5), (11, 10, 1), (48, 23, 1), (49, 0, 1), (0, 5, 1), (49, 1, 1), (10, 6, 3), (11, 11, 4), (8, 0, 2), (11, 15, 4), (55, 0, 59)] rfl gw_wsX12_names
set_option maxRecDepth 20000 in
theorem gL_law_X12_names : GoodIn wsL_law (wsV RL 182 RX12 yX12_names wsX12_names) := goodIn_app (goodIn_sl wsL_cs wsL_cs_in _ [(53, 0, 3), (0, 5, 1)] rfl rfl) ggL_law_X12_names
set_option maxRecDepth 20000 in
theorem ggL_law_X11_count : GoodIn wsL_law wsX11_count := goodIn_sl wsL_cs wsL_cs_in _ [(53, 7, 1), (0, 20, 1), (10, 14, 1), (1, 0, 1), (13, 1, 1), (1, 11, 1), (0, 16, 1), (9, 20, 1), (1, 18, 1), (53, 8, 1), (2, 6, 1), (45, 18, 1), (53, 9, 3), (1, 17, 1), (53, 12, 1), (5, 19, 1), (14, 6, 1), (34, 4, 1), (15, 18, 3), (5, 10, 1), (15, 21, 3), (53, 13, 5), (16, 1, 3), (5, 11, 1), (54, 0, 13), (57, 0, 4), (58, 0, 6), (56, 0, 2), (62, 0, 12), (65, 0, 5)] rfl gw_wsX11_count
set_option maxRecDepth 20000 in
theorem gL_law_X11_count : GoodIn wsL_law (wsV RL 183 RX11 yX11_count wsX11_count) := goodIn_app (goodIn_sl wsL_cs wsL_cs_in _ [(53, 4, 3), (0, 2, 1)] rfl rfl) ggL_law_X11_count
set_option maxRecDepth 20000 in
theorem ggL_law_X12_count : GoodIn wsL_law wsX12_count := goodIn_sl wsL_cs wsL_cs_in _ [(53, 21, 1), (11, 10, 1), (13, 13, 1), (21, 11, 1), (10, 5, 1), (34, 9, 1), (46, 23, 1), (16, 13, 3), (0, 5, 1), (16, 16, 1), (8, 19, 2), (55, 0, 59)] rfl gw_wsX12_count
set_option maxRecDepth 20000 in
theorem gL_law_X12_count : GoodIn wsL_law (wsV RL 186 RX12 yX12_count wsX12_count) := goodIn_app (goodIn_sl wsL_cs wsL_cs_in _ [(53, 18, 3), (0, 5, 1)] rfl rfl) ggL_law_X12_count
noncomputable def NL_law : Nat := 367788040926271246407391682993573309294237002170971452772537449197151291490149080031901929300544094415805621895466172966236748505037360333704330025265007232358602122025001594594522183374909104496814653261953447662493207446602552554236701628713466407753054322912039396556475997235711969491041889550777705460719440428301985452391208071325515789607961767200191340661036270444387491012125794414967405740821014951298383238666959405080249118839394044716734492799711658632720765527963309576214607762399398873650898278996474965459168220566872910838807725216936184570622651750556673994553238805496205679614466990431041735342843338972060778009421931662364423076210583916386818156251798500547778515604843493502394010643610967905608316457498238807858634805458360223698018428705766167364082802789465347391646782336280552857720217042308718633428706372613246103771468510192884178318675700407948174557891020175035986868913689149338980537505917952401546693409163889301224658225672808043328195435201186834718508229357159403833268157230227034740770059333909546828891251006732913400130860679831981220121432514149609062663024910662241687093565784540589295829639324690358017092140578768544043032417927262359507200819109654384409950834264706124778227503243104683337882910791884257526773690093130409291266295630510126385951352648685926620852742460276639324538784360013728295930558533577115708374878989845368096347978802164160782766701679823097823300022468061386392066395179702448479375690278901118968818056472416174028856655558117702481815759183472620519786917092198113978852291622084838989281153069064853233852893456095883358379241098672159537118985128896511878063718151624640991310595078123886387439855207677334809463209777520167277041768236097340030187458706961772161500070634798840966669061755576031412067810211572801959130825378517822290407217285165370657048490953154008154733583731867760973187656194441719872680091488756895398363706828589348604623481907550024362676365696710133479094213763594856339050691253926028410691646726221237910075482790960601430701367663106419192999494465660415113376411314122511682133981093753701060055994638325520547689680935330531160250073004846722659625377942822258629152273958805408302482925307404710673268719002799514891649181563528599672007603618188976172807093064525763585210038567975506231862015315216056286474973213720475462136626850396365564081831462679457705724355715463771429553950741534757617495966719301271303958253724839070429051369377385099773878957088524561178306180932710313471500761179968433140573434525385645136999924525813159758830247903759804517349803588820469074266383696861748990083063395751457043580685250364650856417124654809181608975596498022776628091814799590779778980756813590496464363914273380908200632711940311844406762831648630832708004004660943044906224046746433703607475295112005110351908224408918810709235807808331217198796846582849192291157641144781443385969481087019948226830844385575384678418377224260794409519837208773249381094824129440641884758219972416212350860768288599241217712775192207314024810802227080318527227854140673137288163629949122362173502576991736660032437908709666435086480230889061689390244788511122787194105508805878746160926593382460681918732378680832955496764946205444382296549173179957604755957708081090787909130119369622367408591008252112585290580158610032335462556489998652492405052784171197412585849177359404981079379463012982211100284785171674232053168568954990480148446334104480574093837027853181239931971234576891538092436882296912880642439197573456856376980728499569967726070326175058333575826092118335866241013041986224559428896003182909532266548951309675884805934546186568361363427145699572381392608044290510477985652345612159438975535491488829707366167971663270668320889670698695694093612263673943601440755889210560098419907465027465300878923438805510057441296615929844682304632163928902238679336804560993344600083294231562157702522455506552045415583421322766555192358045412163771
theorem nL_law : CN cL_law NL_law 1643 := ⟨by decide +kernel, by decide +kernel⟩
theorem dL_law_0 : decode cL_law 0 = .ok (.new 7, 3) := di_187 nL_law (Eq.refl true) (Eq.refl true) (Eq.refl true)
theorem dL_law_3 : decode cL_law 3 = .ok (.dup, 1) := di_89 nL_law (Eq.refl true) (Eq.refl true)
theorem dL_law_4 : decode cL_law 4 = .ok (.invokespecial 9, 3) := di_183 nL_law (Eq.refl true) (Eq.refl true) (Eq.refl true)
theorem dL_law_7 : decode cL_law 7 = .ok (.astore_n 1, 1) := di_76 nL_law (Eq.refl true) (Eq.refl true)
theorem dL_law_8 : decode cL_law 8 = .ok (.new 10, 3) := di_187 nL_law (Eq.refl true) (Eq.refl true) (Eq.refl true)
theorem dL_law_11 : decode cL_law 11 = .ok (.dup, 1) := di_89 nL_law (Eq.refl true) (Eq.refl true)
theorem dL_law_12 : decode cL_law 12 = .ok (.invokespecial 12, 3) := di_183 nL_law (Eq.refl true) (Eq.refl true) (Eq.refl true)
theorem dL_law_15 : decode cL_law 15 = .ok (.astore_n 2, 1) := di_77 nL_law (Eq.refl true) (Eq.refl true)
theorem dL_law_16 : decode cL_law 16 = .ok (.iconst 0, 1) := di_3 nL_law (Eq.refl true) (Eq.refl true)
theorem dL_law_17 : decode cL_law 17 = .ok (.istore_n 3, 1) := di_62 nL_law (Eq.refl true) (Eq.refl true)
theorem dL_law_18 : decode cL_law 18 = .ok (.iload_n 3, 1) := di_29 nL_law (Eq.refl true) (Eq.refl true)
theorem dL_law_19 : decode cL_law 19 = .ok (.aload_n 0, 1) := di_42 nL_law (Eq.refl true) (Eq.refl true)
theorem dL_law_20 : decode cL_law 20 = .ok (.arraylength, 1) := di_190 nL_law (Eq.refl true) (Eq.refl true)
theorem dL_law_21 : decode cL_law 21 = .ok (.bipush 6, 2) := di_16 (x := 6) nL_law (Eq.refl true) (Eq.refl true) rfl
theorem dL_law_23 : decode cL_law 23 = .ok (.isub, 1) := di_100 nL_law (Eq.refl true) (Eq.refl true)
theorem dL_law_24 : decode cL_law 24 = .ok (.if_icmp .gt 1617, 3) := di_163 (x := 1617) nL_law (Eq.refl true) (Eq.refl true) (Eq.refl true) rfl
theorem dL_law_27 : decode cL_law 27 = .ok (.aload_n 0, 1) := di_42 nL_law (Eq.refl true) (Eq.refl true)
theorem dL_law_28 : decode cL_law 28 = .ok (.iload_n 3, 1) := di_29 nL_law (Eq.refl true) (Eq.refl true)
theorem dL_law_29 : decode cL_law 29 = .ok (.iaload, 1) := di_46 nL_law (Eq.refl true) (Eq.refl true)
theorem dL_law_30 : decode cL_law 30 = .ok (.bipush 63, 2) := di_16 (x := 63) nL_law (Eq.refl true) (Eq.refl true) rfl
theorem dL_law_32 : decode cL_law 32 = .ok (.iand, 1) := di_126 nL_law (Eq.refl true) (Eq.refl true)
theorem dL_law_33 : decode cL_law 33 = .ok (.tableswitch 1602 0 40 #[179, 212, 225, 258, 291, 324, 357, 390, 423, 456, 489, 532, 575, 598, 641, 684, 717, 750, 783, 826, 859, 902, 925, 968, 1011, 1064, 1087, 1110, 1133, 1156, 1179, 1192, 1235, 1258, 1291, 1334, 1407, 1440, 1503, 1536, 1579], 179) := by decide +kernel
theorem dL_law_212 : decode cL_law 212 = .ok (.aload_n 1, 1) := di_43 nL_law (Eq.refl true) (Eq.refl true)
theorem dL_law_213 : decode cL_law 213 = .ok (.aload_n 0, 1) := di_42 nL_law (Eq.refl true) (Eq.refl true)
theorem dL_law_214 : decode cL_law 214 = .ok (.iload_n 3, 1) := di_29 nL_law (Eq.refl true) (Eq.refl true)
theorem dL_law_215 : decode cL_law 215 = .ok (.iconst 1, 1) := di_4 nL_law (Eq.refl true) (Eq.refl true)
theorem dL_law_216 : decode cL_law 216 = .ok (.iadd, 1) := di_96 nL_law (Eq.refl true) (Eq.refl true)
theorem dL_law_217 : decode cL_law 217 = .ok (.iaload, 1) := di_46 nL_law (Eq.refl true) (Eq.refl true)
theorem dL_law_218 : decode cL_law 218 = .ok (.aload_n 0, 1) := di_42 nL_law (Eq.refl true) (Eq.refl true)
theorem dL_law_219 : decode cL_law 219 = .ok (.iload_n 3, 1) := di_29 nL_law (Eq.refl true) (Eq.refl true)
theorem dL_law_220 : decode cL_law 220 = .ok (.iconst 2, 1) := di_5 nL_law (Eq.refl true) (Eq.refl true)
theorem dL_law_221 : decode cL_law 221 = .ok (.iadd, 1) := di_96 nL_law (Eq.refl true) (Eq.refl true)
theorem dL_law_222 : decode cL_law 222 = .ok (.iaload, 1) := di_46 nL_law (Eq.refl true) (Eq.refl true)
theorem dL_law_223 : decode cL_law 223 = .ok (.invokevirtual 13, 3) := di_182 nL_law (Eq.refl true) (Eq.refl true) (Eq.refl true)
theorem dL_law_226 : decode cL_law 226 = .ok (.pop, 1) := di_87 nL_law (Eq.refl true) (Eq.refl true)
theorem dL_law_227 : decode cL_law 227 = .ok (.aload_n 2, 1) := di_44 nL_law (Eq.refl true) (Eq.refl true)
theorem dL_law_228 : decode cL_law 228 = .ok (.aload_n 0, 1) := di_42 nL_law (Eq.refl true) (Eq.refl true)
theorem dL_law_229 : decode cL_law 229 = .ok (.iload_n 3, 1) := di_29 nL_law (Eq.refl true) (Eq.refl true)
theorem dL_law_230 : decode cL_law 230 = .ok (.iconst 1, 1) := di_4 nL_law (Eq.refl true) (Eq.refl true)
theorem dL_law_231 : decode cL_law 231 = .ok (.iadd, 1) := di_96 nL_law (Eq.refl true) (Eq.refl true)
theorem dL_law_232 : decode cL_law 232 = .ok (.iaload, 1) := di_46 nL_law (Eq.refl true) (Eq.refl true)
theorem dL_law_233 : decode cL_law 233 = .ok (.aload_n 0, 1) := di_42 nL_law (Eq.refl true) (Eq.refl true)
theorem dL_law_234 : decode cL_law 234 = .ok (.iload_n 3, 1) := di_29 nL_law (Eq.refl true) (Eq.refl true)
theorem dL_law_235 : decode cL_law 235 = .ok (.iconst 2, 1) := di_5 nL_law (Eq.refl true) (Eq.refl true)
theorem dL_law_236 : decode cL_law 236 = .ok (.iadd, 1) := di_96 nL_law (Eq.refl true) (Eq.refl true)
theorem dL_law_237 : decode cL_law 237 = .ok (.iaload, 1) := di_46 nL_law (Eq.refl true) (Eq.refl true)
theorem dL_law_238 : decode cL_law 238 = .ok (.invokevirtual 17, 3) := di_182 nL_law (Eq.refl true) (Eq.refl true) (Eq.refl true)
theorem dL_law_241 : decode cL_law 241 = .ok (.pop, 1) := di_87 nL_law (Eq.refl true) (Eq.refl true)
theorem dL_law_242 : decode cL_law 242 = .ok (.goto 1393, 3) := di_167 (x := 1393) nL_law (Eq.refl true) (Eq.refl true) (Eq.refl true) rfl
theorem dL_law_245 : decode cL_law 245 = .ok (.aload_n 1, 1) := di_43 nL_law (Eq.refl true) (Eq.refl true)
theorem dL_law_246 : decode cL_law 246 = .ok (.invokevirtual 18, 3) := di_182 nL_law (Eq.refl true) (Eq.refl true) (Eq.refl true)
theorem dL_law_249 : decode cL_law 249 = .ok (.pop, 1) := di_87 nL_law (Eq.refl true) (Eq.refl true)
theorem dL_law_250 : decode cL_law 250 = .ok (.aload_n 2, 1) := di_44 nL_law (Eq.refl true) (Eq.refl true)
theorem dL_law_251 : decode cL_law 251 = .ok (.invokevirtual 22, 3) := di_182 nL_law (Eq.refl true) (Eq.refl true) (Eq.refl true)
theorem dL_law_254 : decode cL_law 254 = .ok (.pop, 1) := di_87 nL_law (Eq.refl true) (Eq.refl true)
theorem dL_law_255 : decode cL_law 255 = .ok (.goto 1380, 3) := di_167 (x := 1380) nL_law (Eq.refl true) (Eq.refl true) (Eq.refl true) rfl
theorem dL_law_258 : decode cL_law 258 = .ok (.aload_n 1, 1) := di_43 nL_law (Eq.refl true) (Eq.refl true)
theorem dL_law_259 : decode cL_law 259 = .ok (.aload_n 0, 1) := di_42 nL_law (Eq.refl true) (Eq.refl true)
theorem dL_law_260 : decode cL_law 260 = .ok (.iload_n 3, 1) := di_29 nL_law (Eq.refl true) (Eq.refl true)
theorem dL_law_261 : decode cL_law 261 = .ok (.iconst 1, 1) := di_4 nL_law (Eq.refl true) (Eq.refl true)
theorem dL_law_262 : decode cL_law 262 = .ok (.iadd, 1) := di_96 nL_law (Eq.refl true) (Eq.refl true)
theorem dL_law_263 : decode cL_law 263 = .ok (.iaload, 1) := di_46 nL_law (Eq.refl true) (Eq.refl true)
theorem dL_law_264 : decode cL_law 264 = .ok (.aload_n 0, 1) := di_42 nL_law (Eq.refl true) (Eq.refl true)
theorem dL_law_265 : decode cL_law 265 = .ok (.iload_n 3, 1) := di_29 nL_law (Eq.refl true) (Eq.refl true)
theorem dL_law_266 : decode cL_law 266 = .ok (.iconst 2, 1) := di_5 nL_law (Eq.refl true) (Eq.refl true)
theorem dL_law_267 : decode cL_law 267 = .ok (.iadd, 1) := di_96 nL_law (Eq.refl true) (Eq.refl true)
theorem dL_law_268 : decode cL_law 268 = .ok (.iaload, 1) := di_46 nL_law (Eq.refl true) (Eq.refl true)
theorem dL_law_269 : decode cL_law 269 = .ok (.invokevirtual 23, 3) := di_182 nL_law (Eq.refl true) (Eq.refl true) (Eq.refl true)
theorem dL_law_272 : decode cL_law 272 = .ok (.pop, 1) := di_87 nL_law (Eq.refl true) (Eq.refl true)
theorem dL_law_273 : decode cL_law 273 = .ok (.aload_n 2, 1) := di_44 nL_law (Eq.refl true) (Eq.refl true)
theorem dL_law_274 : decode cL_law 274 = .ok (.aload_n 0, 1) := di_42 nL_law (Eq.refl true) (Eq.refl true)
theorem dL_law_275 : decode cL_law 275 = .ok (.iload_n 3, 1) := di_29 nL_law (Eq.refl true) (Eq.refl true)
theorem dL_law_276 : decode cL_law 276 = .ok (.iconst 1, 1) := di_4 nL_law (Eq.refl true) (Eq.refl true)
theorem dL_law_277 : decode cL_law 277 = .ok (.iadd, 1) := di_96 nL_law (Eq.refl true) (Eq.refl true)
theorem dL_law_278 : decode cL_law 278 = .ok (.iaload, 1) := di_46 nL_law (Eq.refl true) (Eq.refl true)
theorem dL_law_279 : decode cL_law 279 = .ok (.aload_n 0, 1) := di_42 nL_law (Eq.refl true) (Eq.refl true)
theorem dL_law_280 : decode cL_law 280 = .ok (.iload_n 3, 1) := di_29 nL_law (Eq.refl true) (Eq.refl true)
theorem dL_law_281 : decode cL_law 281 = .ok (.iconst 2, 1) := di_5 nL_law (Eq.refl true) (Eq.refl true)
theorem dL_law_282 : decode cL_law 282 = .ok (.iadd, 1) := di_96 nL_law (Eq.refl true) (Eq.refl true)
theorem dL_law_283 : decode cL_law 283 = .ok (.iaload, 1) := di_46 nL_law (Eq.refl true) (Eq.refl true)
theorem dL_law_284 : decode cL_law 284 = .ok (.invokevirtual 26, 3) := di_182 nL_law (Eq.refl true) (Eq.refl true) (Eq.refl true)
theorem dL_law_287 : decode cL_law 287 = .ok (.pop, 1) := di_87 nL_law (Eq.refl true) (Eq.refl true)
theorem dL_law_288 : decode cL_law 288 = .ok (.goto 1347, 3) := di_167 (x := 1347) nL_law (Eq.refl true) (Eq.refl true) (Eq.refl true) rfl
theorem dL_law_291 : decode cL_law 291 = .ok (.aload_n 1, 1) := di_43 nL_law (Eq.refl true) (Eq.refl true)
theorem dL_law_292 : decode cL_law 292 = .ok (.aload_n 0, 1) := di_42 nL_law (Eq.refl true) (Eq.refl true)
theorem dL_law_293 : decode cL_law 293 = .ok (.iload_n 3, 1) := di_29 nL_law (Eq.refl true) (Eq.refl true)
theorem dL_law_294 : decode cL_law 294 = .ok (.iconst 1, 1) := di_4 nL_law (Eq.refl true) (Eq.refl true)
theorem dL_law_295 : decode cL_law 295 = .ok (.iadd, 1) := di_96 nL_law (Eq.refl true) (Eq.refl true)
theorem dL_law_296 : decode cL_law 296 = .ok (.iaload, 1) := di_46 nL_law (Eq.refl true) (Eq.refl true)
theorem dL_law_297 : decode cL_law 297 = .ok (.aload_n 0, 1) := di_42 nL_law (Eq.refl true) (Eq.refl true)
theorem dL_law_298 : decode cL_law 298 = .ok (.iload_n 3, 1) := di_29 nL_law (Eq.refl true) (Eq.refl true)
theorem dL_law_299 : decode cL_law 299 = .ok (.iconst 2, 1) := di_5 nL_law (Eq.refl true) (Eq.refl true)
theorem dL_law_300 : decode cL_law 300 = .ok (.iadd, 1) := di_96 nL_law (Eq.refl true) (Eq.refl true)
theorem dL_law_301 : decode cL_law 301 = .ok (.iaload, 1) := di_46 nL_law (Eq.refl true) (Eq.refl true)
theorem dL_law_302 : decode cL_law 302 = .ok (.invokevirtual 27, 3) := di_182 nL_law (Eq.refl true) (Eq.refl true) (Eq.refl true)
theorem dL_law_305 : decode cL_law 305 = .ok (.pop, 1) := di_87 nL_law (Eq.refl true) (Eq.refl true)
theorem dL_law_306 : decode cL_law 306 = .ok (.aload_n 2, 1) := di_44 nL_law (Eq.refl true) (Eq.refl true)
theorem dL_law_307 : decode cL_law 307 = .ok (.aload_n 0, 1) := di_42 nL_law (Eq.refl true) (Eq.refl true)
theorem dL_law_308 : decode cL_law 308 = .ok (.iload_n 3, 1) := di_29 nL_law (Eq.refl true) (Eq.refl true)
theorem dL_law_309 : decode cL_law 309 = .ok (.iconst 1, 1) := di_4 nL_law (Eq.refl true) (Eq.refl true)
theorem dL_law_310 : decode cL_law 310 = .ok (.iadd, 1) := di_96 nL_law (Eq.refl true) (Eq.refl true)
theorem dL_law_311 : decode cL_law 311 = .ok (.iaload, 1) := di_46 nL_law (Eq.refl true) (Eq.refl true)
theorem dL_law_312 : decode cL_law 312 = .ok (.aload_n 0, 1) := di_42 nL_law (Eq.refl true) (Eq.refl true)
theorem dL_law_313 : decode cL_law 313 = .ok (.iload_n 3, 1) := di_29 nL_law (Eq.refl true) (Eq.refl true)
theorem dL_law_314 : decode cL_law 314 = .ok (.iconst 2, 1) := di_5 nL_law (Eq.refl true) (Eq.refl true)
theorem dL_law_315 : decode cL_law 315 = .ok (.iadd, 1) := di_96 nL_law (Eq.refl true) (Eq.refl true)
theorem dL_law_316 : decode cL_law 316 = .ok (.iaload, 1) := di_46 nL_law (Eq.refl true) (Eq.refl true)
theorem dL_law_317 : decode cL_law 317 = .ok (.invokevirtual 30, 3) := di_182 nL_law (Eq.refl true) (Eq.refl true) (Eq.refl true)
theorem dL_law_320 : decode cL_law 320 = .ok (.pop, 1) := di_87 nL_law (Eq.refl true) (Eq.refl true)
theorem dL_law_321 : decode cL_law 321 = .ok (.goto 1314, 3) := di_167 (x := 1314) nL_law (Eq.refl true) (Eq.refl true) (Eq.refl true) rfl
theorem dL_law_324 : decode cL_law 324 = .ok (.aload_n 1, 1) := di_43 nL_law (Eq.refl true) (Eq.refl true)
theorem dL_law_325 : decode cL_law 325 = .ok (.aload_n 0, 1) := di_42 nL_law (Eq.refl true) (Eq.refl true)
theorem dL_law_326 : decode cL_law 326 = .ok (.iload_n 3, 1) := di_29 nL_law (Eq.refl true) (Eq.refl true)
theorem dL_law_327 : decode cL_law 327 = .ok (.iconst 1, 1) := di_4 nL_law (Eq.refl true) (Eq.refl true)
theorem dL_law_328 : decode cL_law 328 = .ok (.iadd, 1) := di_96 nL_law (Eq.refl true) (Eq.refl true)
theorem dL_law_329 : decode cL_law 329 = .ok (.iaload, 1) := di_46 nL_law (Eq.refl true) (Eq.refl true)
theorem dL_law_330 : decode cL_law 330 = .ok (.aload_n 0, 1) := di_42 nL_law (Eq.refl true) (Eq.refl true)
theorem dL_law_331 : decode cL_law 331 = .ok (.iload_n 3, 1) := di_29 nL_law (Eq.refl true) (Eq.refl true)
theorem dL_law_332 : decode cL_law 332 = .ok (.iconst 2, 1) := di_5 nL_law (Eq.refl true) (Eq.refl true)
theorem dL_law_333 : decode cL_law 333 = .ok (.iadd, 1) := di_96 nL_law (Eq.refl true) (Eq.refl true)
theorem dL_law_334 : decode cL_law 334 = .ok (.iaload, 1) := di_46 nL_law (Eq.refl true) (Eq.refl true)
theorem dL_law_335 : decode cL_law 335 = .ok (.invokevirtual 31, 3) := di_182 nL_law (Eq.refl true) (Eq.refl true) (Eq.refl true)
theorem dL_law_338 : decode cL_law 338 = .ok (.pop, 1) := di_87 nL_law (Eq.refl true) (Eq.refl true)
theorem dL_law_339 : decode cL_law 339 = .ok (.aload_n 2, 1) := di_44 nL_law (Eq.refl true) (Eq.refl true)
theorem dL_law_340 : decode cL_law 340 = .ok (.aload_n 0, 1) := di_42 nL_law (Eq.refl true) (Eq.refl true)
theorem dL_law_341 : decode cL_law 341 = .ok (.iload_n 3, 1) := di_29 nL_law (Eq.refl true) (Eq.refl true)
theorem dL_law_342 : decode cL_law 342 = .ok (.iconst 1, 1) := di_4 nL_law (Eq.refl true) (Eq.refl true)
theorem dL_law_343 : decode cL_law 343 = .ok (.iadd, 1) := di_96 nL_law (Eq.refl true) (Eq.refl true)
theorem dL_law_344 : decode cL_law 344 = .ok (.iaload, 1) := di_46 nL_law (Eq.refl true) (Eq.refl true)
theorem dL_law_345 : decode cL_law 345 = .ok (.aload_n 0, 1) := di_42 nL_law (Eq.refl true) (Eq.refl true)
theorem dL_law_346 : decode cL_law 346 = .ok (.iload_n 3, 1) := di_29 nL_law (Eq.refl true) (Eq.refl true)
theorem dL_law_347 : decode cL_law 347 = .ok (.iconst 2, 1) := di_5 nL_law (Eq.refl true) (Eq.refl true)
theorem dL_law_348 : decode cL_law 348 = .ok (.iadd, 1) := di_96 nL_law (Eq.refl true) (Eq.refl true)
theorem dL_law_349 : decode cL_law 349 = .ok (.iaload, 1) := di_46 nL_law (Eq.refl true) (Eq.refl true)
theorem dL_law_350 : decode cL_law 350 = .ok (.invokevirtual 34, 3) := di_182 nL_law (Eq.refl true) (Eq.refl true) (Eq.refl true)
theorem dL_law_353 : decode cL_law 353 = .ok (.pop, 1) := di_87 nL_law (Eq.refl true) (Eq.refl true)
theorem dL_law_354 : decode cL_law 354 = .ok (.goto 1281, 3) := di_167 (x := 1281) nL_law (Eq.refl true) (Eq.refl true) (Eq.refl true) rfl
theorem dL_law_357 : decode cL_law 357 = .ok (.aload_n 1, 1) := di_43 nL_law (Eq.refl true) (Eq.refl true)
theorem dL_law_358 : decode cL_law 358 = .ok (.aload_n 0, 1) := di_42 nL_law (Eq.refl true) (Eq.refl true)
theorem dL_law_359 : decode cL_law 359 = .ok (.iload_n 3, 1) := di_29 nL_law (Eq.refl true) (Eq.refl true)
theorem dL_law_360 : decode cL_law 360 = .ok (.iconst 1, 1) := di_4 nL_law (Eq.refl true) (Eq.refl true)
theorem dL_law_361 : decode cL_law 361 = .ok (.iadd, 1) := di_96 nL_law (Eq.refl true) (Eq.refl true)
theorem dL_law_362 : decode cL_law 362 = .ok (.iaload, 1) := di_46 nL_law (Eq.refl true) (Eq.refl true)
theorem dL_law_363 : decode cL_law 363 = .ok (.aload_n 0, 1) := di_42 nL_law (Eq.refl true) (Eq.refl true)
theorem dL_law_364 : decode cL_law 364 = .ok (.iload_n 3, 1) := di_29 nL_law (Eq.refl true) (Eq.refl true)
theorem dL_law_365 : decode cL_law 365 = .ok (.iconst 2, 1) := di_5 nL_law (Eq.refl true) (Eq.refl true)
theorem dL_law_366 : decode cL_law 366 = .ok (.iadd, 1) := di_96 nL_law (Eq.refl true) (Eq.refl true)
theorem dL_law_367 : decode cL_law 367 = .ok (.iaload, 1) := di_46 nL_law (Eq.refl true) (Eq.refl true)
theorem dL_law_368 : decode cL_law 368 = .ok (.invokevirtual 35, 3) := di_182 nL_law (Eq.refl true) (Eq.refl true) (Eq.refl true)
theorem dL_law_371 : decode cL_law 371 = .ok (.aload_n 2, 1) := di_44 nL_law (Eq.refl true) (Eq.refl true)
theorem dL_law_372 : decode cL_law 372 = .ok (.aload_n 0, 1) := di_42 nL_law (Eq.refl true) (Eq.refl true)
theorem dL_law_373 : decode cL_law 373 = .ok (.iload_n 3, 1) := di_29 nL_law (Eq.refl true) (Eq.refl true)
theorem dL_law_374 : decode cL_law 374 = .ok (.iconst 1, 1) := di_4 nL_law (Eq.refl true) (Eq.refl true)
theorem dL_law_375 : decode cL_law 375 = .ok (.iadd, 1) := di_96 nL_law (Eq.refl true) (Eq.refl true)
theorem dL_law_376 : decode cL_law 376 = .ok (.iaload, 1) := di_46 nL_law (Eq.refl true) (Eq.refl true)
theorem dL_law_377 : decode cL_law 377 = .ok (.aload_n 0, 1) := di_42 nL_law (Eq.refl true) (Eq.refl true)
theorem dL_law_378 : decode cL_law 378 = .ok (.iload_n 3, 1) := di_29 nL_law (Eq.refl true) (Eq.refl true)
theorem dL_law_379 : decode cL_law 379 = .ok (.iconst 2, 1) := di_5 nL_law (Eq.refl true) (Eq.refl true)
theorem dL_law_380 : decode cL_law 380 = .ok (.iadd, 1) := di_96 nL_law (Eq.refl true) (Eq.refl true)
theorem dL_law_381 : decode cL_law 381 = .ok (.iaload, 1) := di_46 nL_law (Eq.refl true) (Eq.refl true)
theorem dL_law_382 : decode cL_law 382 = .ok (.invokevirtual 38, 3) := di_182 nL_law (Eq.refl true) (Eq.refl true) (Eq.refl true)
theorem dL_law_385 : decode cL_law 385 = .ok (.if_icmp .eq 1250, 3) := di_159 (x := 1250) nL_law (Eq.refl true) (Eq.refl true) (Eq.refl true) rfl
theorem dL_law_390 : decode cL_law 390 = .ok (.aload_n 1, 1) := di_43 nL_law (Eq.refl true) (Eq.refl true)
theorem dL_law_391 : decode cL_law 391 = .ok (.aload_n 0, 1) := di_42 nL_law (Eq.refl true) (Eq.refl true)
theorem dL_law_392 : decode cL_law 392 = .ok (.iload_n 3, 1) := di_29 nL_law (Eq.refl true) (Eq.refl true)
theorem dL_law_393 : decode cL_law 393 = .ok (.iconst 1, 1) := di_4 nL_law (Eq.refl true) (Eq.refl true)
theorem dL_law_394 : decode cL_law 394 = .ok (.iadd, 1) := di_96 nL_law (Eq.refl true) (Eq.refl true)
theorem dL_law_395 : decode cL_law 395 = .ok (.iaload, 1) := di_46 nL_law (Eq.refl true) (Eq.refl true)
theorem dL_law_396 : decode cL_law 396 = .ok (.aload_n 0, 1) := di_42 nL_law (Eq.refl true) (Eq.refl true)
theorem dL_law_397 : decode cL_law 397 = .ok (.iload_n 3, 1) := di_29 nL_law (Eq.refl true) (Eq.refl true)
theorem dL_law_398 : decode cL_law 398 = .ok (.iconst 2, 1) := di_5 nL_law (Eq.refl true) (Eq.refl true)
theorem dL_law_399 : decode cL_law 399 = .ok (.iadd, 1) := di_96 nL_law (Eq.refl true) (Eq.refl true)
theorem dL_law_400 : decode cL_law 400 = .ok (.iaload, 1) := di_46 nL_law (Eq.refl true) (Eq.refl true)
theorem dL_law_401 : decode cL_law 401 = .ok (.invokevirtual 39, 3) := di_182 nL_law (Eq.refl true) (Eq.refl true) (Eq.refl true)
theorem dL_law_404 : decode cL_law 404 = .ok (.pop, 1) := di_87 nL_law (Eq.refl true) (Eq.refl true)
theorem dL_law_405 : decode cL_law 405 = .ok (.aload_n 2, 1) := di_44 nL_law (Eq.refl true) (Eq.refl true)
theorem dL_law_406 : decode cL_law 406 = .ok (.aload_n 0, 1) := di_42 nL_law (Eq.refl true) (Eq.refl true)
theorem dL_law_407 : decode cL_law 407 = .ok (.iload_n 3, 1) := di_29 nL_law (Eq.refl true) (Eq.refl true)
theorem dL_law_408 : decode cL_law 408 = .ok (.iconst 1, 1) := di_4 nL_law (Eq.refl true) (Eq.refl true)
theorem dL_law_409 : decode cL_law 409 = .ok (.iadd, 1) := di_96 nL_law (Eq.refl true) (Eq.refl true)
theorem dL_law_410 : decode cL_law 410 = .ok (.iaload, 1) := di_46 nL_law (Eq.refl true) (Eq.refl true)
theorem dL_law_411 : decode cL_law 411 = .ok (.aload_n 0, 1) := di_42 nL_law (Eq.refl true) (Eq.refl true)
theorem dL_law_412 : decode cL_law 412 = .ok (.iload_n 3, 1) := di_29 nL_law (Eq.refl true) (Eq.refl true)
theorem dL_law_413 : decode cL_law 413 = .ok (.iconst 2, 1) := di_5 nL_law (Eq.refl true) (Eq.refl true)
theorem dL_law_414 : decode cL_law 414 = .ok (.iadd, 1) := di_96 nL_law (Eq.refl true) (Eq.refl true)
theorem dL_law_415 : decode cL_law 415 = .ok (.iaload, 1) := di_46 nL_law (Eq.refl true) (Eq.refl true)
theorem dL_law_416 : decode cL_law 416 = .ok (.invokevirtual 42, 3) := di_182 nL_law (Eq.refl true) (Eq.refl true) (Eq.refl true)
theorem dL_law_419 : decode cL_law 419 = .ok (.pop, 1) := di_87 nL_law (Eq.refl true) (Eq.refl true)
theorem dL_law_420 : decode cL_law 420 = .ok (.goto 1215, 3) := di_167 (x := 1215) nL_law (Eq.refl true) (Eq.refl true) (Eq.refl true) rfl
theorem dL_law_423 : decode cL_law 423 = .ok (.aload_n 1, 1) := di_43 nL_law (Eq.refl true) (Eq.refl true)
theorem dL_law_424 : decode cL_law 424 = .ok (.aload_n 0, 1) := di_42 nL_law (Eq.refl true) (Eq.refl true)
theorem dL_law_425 : decode cL_law 425 = .ok (.iload_n 3, 1) := di_29 nL_law (Eq.refl true) (Eq.refl true)
theorem dL_law_426 : decode cL_law 426 = .ok (.iconst 1, 1) := di_4 nL_law (Eq.refl true) (Eq.refl true)
theorem dL_law_427 : decode cL_law 427 = .ok (.iadd, 1) := di_96 nL_law (Eq.refl true) (Eq.refl true)
theorem dL_law_428 : decode cL_law 428 = .ok (.iaload, 1) := di_46 nL_law (Eq.refl true) (Eq.refl true)
theorem dL_law_429 : decode cL_law 429 = .ok (.aload_n 0, 1) := di_42 nL_law (Eq.refl true) (Eq.refl true)
theorem dL_law_430 : decode cL_law 430 = .ok (.iload_n 3, 1) := di_29 nL_law (Eq.refl true) (Eq.refl true)
theorem dL_law_431 : decode cL_law 431 = .ok (.iconst 2, 1) := di_5 nL_law (Eq.refl true) (Eq.refl true)
theorem dL_law_432 : decode cL_law 432 = .ok (.iadd, 1) := di_96 nL_law (Eq.refl true) (Eq.refl true)
theorem dL_law_433 : decode cL_law 433 = .ok (.iaload, 1) := di_46 nL_law (Eq.refl true) (Eq.refl true)
theorem dL_law_434 : decode cL_law 434 = .ok (.invokevirtual 43, 3) := di_182 nL_law (Eq.refl true) (Eq.refl true) (Eq.refl true)
theorem dL_law_437 : decode cL_law 437 = .ok (.pop, 1) := di_87 nL_law (Eq.refl true) (Eq.refl true)
theorem dL_law_438 : decode cL_law 438 = .ok (.aload_n 2, 1) := di_44 nL_law (Eq.refl true) (Eq.refl true)
theorem dL_law_439 : decode cL_law 439 = .ok (.aload_n 0, 1) := di_42 nL_law (Eq.refl true) (Eq.refl true)
theorem dL_law_440 : decode cL_law 440 = .ok (.iload_n 3, 1) := di_29 nL_law (Eq.refl true) (Eq.refl true)
theorem dL_law_441 : decode cL_law 441 = .ok (.iconst 1, 1) := di_4 nL_law (Eq.refl true) (Eq.refl true)
theorem dL_law_442 : decode cL_law 442 = .ok (.iadd, 1) := di_96 nL_law (Eq.refl true) (Eq.refl true)
theorem dL_law_443 : decode cL_law 443 = .ok (.iaload, 1) := di_46 nL_law (Eq.refl true) (Eq.refl true)
theorem dL_law_444 : decode cL_law 444 = .ok (.aload_n 0, 1) := di_42 nL_law (Eq.refl true) (Eq.refl true)
theorem dL_law_445 : decode cL_law 445 = .ok (.iload_n 3, 1) := di_29 nL_law (Eq.refl true) (Eq.refl true)
theorem dL_law_446 : decode cL_law 446 = .ok (.iconst 2, 1) := di_5 nL_law (Eq.refl true) (Eq.refl true)
theorem dL_law_447 : decode cL_law 447 = .ok (.iadd, 1) := di_96 nL_law (Eq.refl true) (Eq.refl true)
theorem dL_law_448 : decode cL_law 448 = .ok (.iaload, 1) := di_46 nL_law (Eq.refl true) (Eq.refl true)
theorem dL_law_449 : decode cL_law 449 = .ok (.invokevirtual 46, 3) := di_182 nL_law (Eq.refl true) (Eq.refl true) (Eq.refl true)
theorem dL_law_452 : decode cL_law 452 = .ok (.pop, 1) := di_87 nL_law (Eq.refl true) (Eq.refl true)
theorem dL_law_453 : decode cL_law 453 = .ok (.goto 1182, 3) := di_167 (x := 1182) nL_law (Eq.refl true) (Eq.refl true) (Eq.refl true) rfl
theorem dL_law_456 : decode cL_law 456 = .ok (.aload_n 1, 1) := di_43 nL_law (Eq.refl true) (Eq.refl true)
theorem dL_law_457 : decode cL_law 457 = .ok (.aload_n 0, 1) := di_42 nL_law (Eq.refl true) (Eq.refl true)
theorem dL_law_458 : decode cL_law 458 = .ok (.iload_n 3, 1) := di_29 nL_law (Eq.refl true) (Eq.refl true)
theorem dL_law_459 : decode cL_law 459 = .ok (.iconst 1, 1) := di_4 nL_law (Eq.refl true) (Eq.refl true)
theorem dL_law_460 : decode cL_law 460 = .ok (.iadd, 1) := di_96 nL_law (Eq.refl true) (Eq.refl true)
theorem dL_law_461 : decode cL_law 461 = .ok (.iaload, 1) := di_46 nL_law (Eq.refl true) (Eq.refl true)
theorem dL_law_462 : decode cL_law 462 = .ok (.aload_n 0, 1) := di_42 nL_law (Eq.refl true) (Eq.refl true)
theorem dL_law_463 : decode cL_law 463 = .ok (.iload_n 3, 1) := di_29 nL_law (Eq.refl true) (Eq.refl true)
theorem dL_law_464 : decode cL_law 464 = .ok (.iconst 2, 1) := di_5 nL_law (Eq.refl true) (Eq.refl true)
theorem dL_law_465 : decode cL_law 465 = .ok (.iadd, 1) := di_96 nL_law (Eq.refl true) (Eq.refl true)
theorem dL_law_466 : decode cL_law 466 = .ok (.iaload, 1) := di_46 nL_law (Eq.refl true) (Eq.refl true)
theorem dL_law_467 : decode cL_law 467 = .ok (.invokevirtual 47, 3) := di_182 nL_law (Eq.refl true) (Eq.refl true) (Eq.refl true)
theorem dL_law_470 : decode cL_law 470 = .ok (.pop, 1) := di_87 nL_law (Eq.refl true) (Eq.refl true)
theorem dL_law_471 : decode cL_law 471 = .ok (.aload_n 2, 1) := di_44 nL_law (Eq.refl true) (Eq.refl true)
theorem dL_law_472 : decode cL_law 472 = .ok (.aload_n 0, 1) := di_42 nL_law (Eq.refl true) (Eq.refl true)
theorem dL_law_473 : decode cL_law 473 = .ok (.iload_n 3, 1) := di_29 nL_law (Eq.refl true) (Eq.refl true)
theorem dL_law_474 : decode cL_law 474 = .ok (.iconst 1, 1) := di_4 nL_law (Eq.refl true) (Eq.refl true)
theorem dL_law_475 : decode cL_law 475 = .ok (.iadd, 1) := di_96 nL_law (Eq.refl true) (Eq.refl true)
theorem dL_law_476 : decode cL_law 476 = .ok (.iaload, 1) := di_46 nL_law (Eq.refl true) (Eq.refl true)
theorem dL_law_477 : decode cL_law 477 = .ok (.aload_n 0, 1) := di_42 nL_law (Eq.refl true) (Eq.refl true)
theorem dL_law_478 : decode cL_law 478 = .ok (.iload_n 3, 1) := di_29 nL_law (Eq.refl true) (Eq.refl true)
theorem dL_law_479 : decode cL_law 479 = .ok (.iconst 2, 1) := di_5 nL_law (Eq.refl true) (Eq.refl true)
theorem dL_law_480 : decode cL_law 480 = .ok (.iadd, 1) := di_96 nL_law (Eq.refl true) (Eq.refl true)
theorem dL_law_481 : decode cL_law 481 = .ok (.iaload, 1) := di_46 nL_law (Eq.refl true) (Eq.refl true)
theorem dL_law_482 : decode cL_law 482 = .ok (.invokevirtual 50, 3) := di_182 nL_law (Eq.refl true) (Eq.refl true) (Eq.refl true)
theorem dL_law_485 : decode cL_law 485 = .ok (.pop, 1) := di_87 nL_law (Eq.refl true) (Eq.refl true)
theorem dL_law_486 : decode cL_law 486 = .ok (.goto 1149, 3) := di_167 (x := 1149) nL_law (Eq.refl true) (Eq.refl true) (Eq.refl true) rfl
theorem dL_law_489 : decode cL_law 489 = .ok (.aload_n 1, 1) := di_43 nL_law (Eq.refl true) (Eq.refl true)
theorem dL_law_490 : decode cL_law 490 = .ok (.aload_n 0, 1) := di_42 nL_law (Eq.refl true) (Eq.refl true)
theorem dL_law_491 : decode cL_law 491 = .ok (.iload_n 3, 1) := di_29 nL_law (Eq.refl true) (Eq.refl true)
theorem dL_law_492 : decode cL_law 492 = .ok (.iconst 1, 1) := di_4 nL_law (Eq.refl true) (Eq.refl true)
theorem dL_law_493 : decode cL_law 493 = .ok (.iadd, 1) := di_96 nL_law (Eq.refl true) (Eq.refl true)
theorem dL_law_494 : decode cL_law 494 = .ok (.iaload, 1) := di_46 nL_law (Eq.refl true) (Eq.refl true)
theorem dL_law_495 : decode cL_law 495 = .ok (.aload_n 0, 1) := di_42 nL_law (Eq.refl true) (Eq.refl true)
theorem dL_law_496 : decode cL_law 496 = .ok (.iload_n 3, 1) := di_29 nL_law (Eq.refl true) (Eq.refl true)
theorem dL_law_497 : decode cL_law 497 = .ok (.iconst 2, 1) := di_5 nL_law (Eq.refl true) (Eq.refl true)
theorem dL_law_498 : decode cL_law 498 = .ok (.iadd, 1) := di_96 nL_law (Eq.refl true) (Eq.refl true)
theorem dL_law_499 : decode cL_law 499 = .ok (.iaload, 1) := di_46 nL_law (Eq.refl true) (Eq.refl true)
theorem dL_law_500 : decode cL_law 500 = .ok (.invokevirtual 51, 3) := di_182 nL_law (Eq.refl true) (Eq.refl true) (Eq.refl true)
theorem dL_law_503 : decode cL_law 503 = .ok (.pop, 1) := di_87 nL_law (Eq.refl true) (Eq.refl true)
theorem dL_law_504 : decode cL_law 504 = .ok (.aload_n 2, 1) := di_44 nL_law (Eq.refl true) (Eq.refl true)
theorem dL_law_505 : decode cL_law 505 = .ok (.aload_n 0, 1) := di_42 nL_law (Eq.refl true) (Eq.refl true)
theorem dL_law_506 : decode cL_law 506 = .ok (.iload_n 3, 1) := di_29 nL_law (Eq.refl true) (Eq.refl true)
theorem dL_law_507 : decode cL_law 507 = .ok (.iconst 1, 1) := di_4 nL_law (Eq.refl true) (Eq.refl true)
theorem dL_law_508 : decode cL_law 508 = .ok (.iadd, 1) := di_96 nL_law (Eq.refl true) (Eq.refl true)
theorem dL_law_509 : decode cL_law 509 = .ok (.iaload, 1) := di_46 nL_law (Eq.refl true) (Eq.refl true)
theorem dL_law_510 : decode cL_law 510 = .ok (.aload_n 0, 1) := di_42 nL_law (Eq.refl true) (Eq.refl true)
theorem dL_law_511 : decode cL_law 511 = .ok (.iload_n 3, 1) := di_29 nL_law (Eq.refl true) (Eq.refl true)
theorem dL_law_512 : decode cL_law 512 = .ok (.iconst 2, 1) := di_5 nL_law (Eq.refl true) (Eq.refl true)
theorem dL_law_513 : decode cL_law 513 = .ok (.iadd, 1) := di_96 nL_law (Eq.refl true) (Eq.refl true)
theorem dL_law_514 : decode cL_law 514 = .ok (.iaload, 1) := di_46 nL_law (Eq.refl true) (Eq.refl true)
theorem dL_law_515 : decode cL_law 515 = .ok (.invokevirtual 54, 3) := di_182 nL_law (Eq.refl true) (Eq.refl true) (Eq.refl true)
theorem dL_law_518 : decode cL_law 518 = .ok (.pop, 1) := di_87 nL_law (Eq.refl true) (Eq.refl true)
theorem dL_law_519 : decode cL_law 519 = .ok (.goto 1116, 3) := di_167 (x := 1116) nL_law (Eq.refl true) (Eq.refl true) (Eq.refl true) rfl
theorem dL_law_522 : decode cL_law 522 = .ok (.aload_n 1, 1) := di_43 nL_law (Eq.refl true) (Eq.refl true)
theorem dL_law_523 : decode cL_law 523 = .ok (.aload_n 0, 1) := di_42 nL_law (Eq.refl true) (Eq.refl true)
theorem dL_law_524 : decode cL_law 524 = .ok (.iload_n 3, 1) := di_29 nL_law (Eq.refl true) (Eq.refl true)
theorem dL_law_525 : decode cL_law 525 = .ok (.iconst 1, 1) := di_4 nL_law (Eq.refl true) (Eq.refl true)
theorem dL_law_526 : decode cL_law 526 = .ok (.iadd, 1) := di_96 nL_law (Eq.refl true) (Eq.refl true)
theorem dL_law_527 : decode cL_law 527 = .ok (.iaload, 1) := di_46 nL_law (Eq.refl true) (Eq.refl true)
theorem dL_law_528 : decode cL_law 528 = .ok (.aload_n 0, 1) := di_42 nL_law (Eq.refl true) (Eq.refl true)
theorem dL_law_529 : decode cL_law 529 = .ok (.iload_n 3, 1) := di_29 nL_law (Eq.refl true) (Eq.refl true)
theorem dL_law_530 : decode cL_law 530 = .ok (.iconst 2, 1) := di_5 nL_law (Eq.refl true) (Eq.refl true)
theorem dL_law_531 : decode cL_law 531 = .ok (.iadd, 1) := di_96 nL_law (Eq.refl true) (Eq.refl true)
theorem dL_law_532 : decode cL_law 532 = .ok (.iaload, 1) := di_46 nL_law (Eq.refl true) (Eq.refl true)
theorem dL_law_533 : decode cL_law 533 = .ok (.aload_n 0, 1) := di_42 nL_law (Eq.refl true) (Eq.refl true)
theorem dL_law_534 : decode cL_law 534 = .ok (.iload_n 3, 1) := di_29 nL_law (Eq.refl true) (Eq.refl true)
theorem dL_law_535 : decode cL_law 535 = .ok (.iconst 3, 1) := di_6 nL_law (Eq.refl true) (Eq.refl true)
theorem dL_law_536 : decode cL_law 536 = .ok (.iadd, 1) := di_96 nL_law (Eq.refl true) (Eq.refl true)
theorem dL_law_537 : decode cL_law 537 = .ok (.iaload, 1) := di_46 nL_law (Eq.refl true) (Eq.refl true)
theorem dL_law_538 : decode cL_law 538 = .ok (.invokevirtual 55, 3) := di_182 nL_law (Eq.refl true) (Eq.refl true) (Eq.refl true)
theorem dL_law_541 : decode cL_law 541 = .ok (.pop, 1) := di_87 nL_law (Eq.refl true) (Eq.refl true)
theorem dL_law_542 : decode cL_law 542 = .ok (.aload_n 2, 1) := di_44 nL_law (Eq.refl true) (Eq.refl true)
theorem dL_law_543 : decode cL_law 543 = .ok (.aload_n 0, 1) := di_42 nL_law (Eq.refl true) (Eq.refl true)
theorem dL_law_544 : decode cL_law 544 = .ok (.iload_n 3, 1) := di_29 nL_law (Eq.refl true) (Eq.refl true)
theorem dL_law_545 : decode cL_law 545 = .ok (.iconst 1, 1) := di_4 nL_law (Eq.refl true) (Eq.refl true)
theorem dL_law_546 : decode cL_law 546 = .ok (.iadd, 1) := di_96 nL_law (Eq.refl true) (Eq.refl true)
theorem dL_law_547 : decode cL_law 547 = .ok (.iaload, 1) := di_46 nL_law (Eq.refl true) (Eq.refl true)
theorem dL_law_548 : decode cL_law 548 = .ok (.aload_n 0, 1) := di_42 nL_law (Eq.refl true) (Eq.refl true)
theorem dL_law_549 : decode cL_law 549 = .ok (.iload_n 3, 1) := di_29 nL_law (Eq.refl true) (Eq.refl true)
theorem dL_law_550 : decode cL_law 550 = .ok (.iconst 2, 1) := di_5 nL_law (Eq.refl true) (Eq.refl true)
theorem dL_law_551 : decode cL_law 551 = .ok (.iadd, 1) := di_96 nL_law (Eq.refl true) (Eq.refl true)
theorem dL_law_552 : decode cL_law 552 = .ok (.iaload, 1) := di_46 nL_law (Eq.refl true) (Eq.refl true)
theorem dL_law_553 : decode cL_law 553 = .ok (.aload_n 0, 1) := di_42 nL_law (Eq.refl true) (Eq.refl true)
theorem dL_law_554 : decode cL_law 554 = .ok (.iload_n 3, 1) := di_29 nL_law (Eq.refl true) (Eq.refl true)
theorem dL_law_555 : decode cL_law 555 = .ok (.iconst 3, 1) := di_6 nL_law (Eq.refl true) (Eq.refl true)
theorem dL_law_556 : decode cL_law 556 = .ok (.iadd, 1) := di_96 nL_law (Eq.refl true) (Eq.refl true)
theorem dL_law_557 : decode cL_law 557 = .ok (.iaload, 1) := di_46 nL_law (Eq.refl true) (Eq.refl true)
theorem dL_law_558 : decode cL_law 558 = .ok (.invokevirtual 59, 3) := di_182 nL_law (Eq.refl true) (Eq.refl true) (Eq.refl true)
theorem dL_law_561 : decode cL_law 561 = .ok (.pop, 1) := di_87 nL_law (Eq.refl true) (Eq.refl true)
theorem dL_law_562 : decode cL_law 562 = .ok (.goto 1073, 3) := di_167 (x := 1073) nL_law (Eq.refl true) (Eq.refl true) (Eq.refl true) rfl
theorem dL_law_565 : decode cL_law 565 = .ok (.aload_n 1, 1) := di_43 nL_law (Eq.refl true) (Eq.refl true)
theorem dL_law_566 : decode cL_law 566 = .ok (.aload_n 0, 1) := di_42 nL_law (Eq.refl true) (Eq.refl true)
theorem dL_law_567 : decode cL_law 567 = .ok (.iload_n 3, 1) := di_29 nL_law (Eq.refl true) (Eq.refl true)
theorem dL_law_568 : decode cL_law 568 = .ok (.iconst 1, 1) := di_4 nL_law (Eq.refl true) (Eq.refl true)
theorem dL_law_569 : decode cL_law 569 = .ok (.iadd, 1) := di_96 nL_law (Eq.refl true) (Eq.refl true)
theorem dL_law_570 : decode cL_law 570 = .ok (.iaload, 1) := di_46 nL_law (Eq.refl true) (Eq.refl true)
theorem dL_law_571 : decode cL_law 571 = .ok (.aload_n 0, 1) := di_42 nL_law (Eq.refl true) (Eq.refl true)
theorem dL_law_572 : decode cL_law 572 = .ok (.iload_n 3, 1) := di_29 nL_law (Eq.refl true) (Eq.refl true)
theorem dL_law_573 : decode cL_law 573 = .ok (.iconst 2, 1) := di_5 nL_law (Eq.refl true) (Eq.refl true)
theorem dL_law_574 : decode cL_law 574 = .ok (.iadd, 1) := di_96 nL_law (Eq.refl true) (Eq.refl true)
theorem dL_law_575 : decode cL_law 575 = .ok (.iaload, 1) := di_46 nL_law (Eq.refl true) (Eq.refl true)
theorem dL_law_576 : decode cL_law 576 = .ok (.aload_n 0, 1) := di_42 nL_law (Eq.refl true) (Eq.refl true)
theorem dL_law_577 : decode cL_law 577 = .ok (.iload_n 3, 1) := di_29 nL_law (Eq.refl true) (Eq.refl true)
theorem dL_law_578 : decode cL_law 578 = .ok (.iconst 3, 1) := di_6 nL_law (Eq.refl true) (Eq.refl true)
theorem dL_law_579 : decode cL_law 579 = .ok (.iadd, 1) := di_96 nL_law (Eq.refl true) (Eq.refl true)
theorem dL_law_580 : decode cL_law 580 = .ok (.iaload, 1) := di_46 nL_law (Eq.refl true) (Eq.refl true)
theorem dL_law_581 : decode cL_law 581 = .ok (.invokevirtual 60, 3) := di_182 nL_law (Eq.refl true) (Eq.refl true) (Eq.refl true)
theorem dL_law_584 : decode cL_law 584 = .ok (.pop, 1) := di_87 nL_law (Eq.refl true) (Eq.refl true)
theorem dL_law_585 : decode cL_law 585 = .ok (.aload_n 2, 1) := di_44 nL_law (Eq.refl true) (Eq.refl true)
theorem dL_law_586 : decode cL_law 586 = .ok (.aload_n 0, 1) := di_42 nL_law (Eq.refl true) (Eq.refl true)
theorem dL_law_587 : decode cL_law 587 = .ok (.iload_n 3, 1) := di_29 nL_law (Eq.refl true) (Eq.refl true)
theorem dL_law_588 : decode cL_law 588 = .ok (.iconst 1, 1) := di_4 nL_law (Eq.refl true) (Eq.refl true)
theorem dL_law_589 : decode cL_law 589 = .ok (.iadd, 1) := di_96 nL_law (Eq.refl true) (Eq.refl true)
theorem dL_law_590 : decode cL_law 590 = .ok (.iaload, 1) := di_46 nL_law (Eq.refl true) (Eq.refl true)
theorem dL_law_591 : decode cL_law 591 = .ok (.aload_n 0, 1) := di_42 nL_law (Eq.refl true) (Eq.refl true)
theorem dL_law_592 : decode cL_law 592 = .ok (.iload_n 3, 1) := di_29 nL_law (Eq.refl true) (Eq.refl true)
theorem dL_law_593 : decode cL_law 593 = .ok (.iconst 2, 1) := di_5 nL_law (Eq.refl true) (Eq.refl true)
theorem dL_law_594 : decode cL_law 594 = .ok (.iadd, 1) := di_96 nL_law (Eq.refl true) (Eq.refl true)
theorem dL_law_595 : decode cL_law 595 = .ok (.iaload, 1) := di_46 nL_law (Eq.refl true) (Eq.refl true)
theorem dL_law_596 : decode cL_law 596 = .ok (.aload_n 0, 1) := di_42 nL_law (Eq.refl true) (Eq.refl true)
theorem dL_law_597 : decode cL_law 597 = .ok (.iload_n 3, 1) := di_29 nL_law (Eq.refl true) (Eq.refl true)
theorem dL_law_598 : decode cL_law 598 = .ok (.iconst 3, 1) := di_6 nL_law (Eq.refl true) (Eq.refl true)
theorem dL_law_599 : decode cL_law 599 = .ok (.iadd, 1) := di_96 nL_law (Eq.refl true) (Eq.refl true)
theorem dL_law_600 : decode cL_law 600 = .ok (.iaload, 1) := di_46 nL_law (Eq.refl true) (Eq.refl true)
theorem dL_law_601 : decode cL_law 601 = .ok (.invokevirtual 63, 3) := di_182 nL_law (Eq.refl true) (Eq.refl true) (Eq.refl true)
theorem dL_law_604 : decode cL_law 604 = .ok (.pop, 1) := di_87 nL_law (Eq.refl true) (Eq.refl true)
theorem dL_law_605 : decode cL_law 605 = .ok (.goto 1030, 3) := di_167 (x := 1030) nL_law (Eq.refl true) (Eq.refl true) (Eq.refl true) rfl
theorem dL_law_608 : decode cL_law 608 = .ok (.aload_n 1, 1) := di_43 nL_law (Eq.refl true) (Eq.refl true)
theorem dL_law_609 : decode cL_law 609 = .ok (.aload_n 0, 1) := di_42 nL_law (Eq.refl true) (Eq.refl true)
theorem dL_law_610 : decode cL_law 610 = .ok (.iload_n 3, 1) := di_29 nL_law (Eq.refl true) (Eq.refl true)
theorem dL_law_611 : decode cL_law 611 = .ok (.iconst 1, 1) := di_4 nL_law (Eq.refl true) (Eq.refl true)
theorem dL_law_612 : decode cL_law 612 = .ok (.iadd, 1) := di_96 nL_law (Eq.refl true) (Eq.refl true)
theorem dL_law_613 : decode cL_law 613 = .ok (.iaload, 1) := di_46 nL_law (Eq.refl true) (Eq.refl true)
theorem dL_law_614 : decode cL_law 614 = .ok (.invokevirtual 64, 3) := di_182 nL_law (Eq.refl true) (Eq.refl true) (Eq.refl true)
theorem dL_law_617 : decode cL_law 617 = .ok (.pop, 1) := di_87 nL_law (Eq.refl true) (Eq.refl true)
theorem dL_law_618 : decode cL_law 618 = .ok (.aload_n 2, 1) := di_44 nL_law (Eq.refl true) (Eq.refl true)
theorem dL_law_619 : decode cL_law 619 = .ok (.aload_n 0, 1) := di_42 nL_law (Eq.refl true) (Eq.refl true)
theorem dL_law_620 : decode cL_law 620 = .ok (.iload_n 3, 1) := di_29 nL_law (Eq.refl true) (Eq.refl true)
theorem dL_law_621 : decode cL_law 621 = .ok (.iconst 1, 1) := di_4 nL_law (Eq.refl true) (Eq.refl true)
theorem dL_law_622 : decode cL_law 622 = .ok (.iadd, 1) := di_96 nL_law (Eq.refl true) (Eq.refl true)
theorem dL_law_623 : decode cL_law 623 = .ok (.iaload, 1) := di_46 nL_law (Eq.refl true) (Eq.refl true)
theorem dL_law_624 : decode cL_law 624 = .ok (.invokevirtual 68, 3) := di_182 nL_law (Eq.refl true) (Eq.refl true) (Eq.refl true)
theorem dL_law_627 : decode cL_law 627 = .ok (.pop, 1) := di_87 nL_law (Eq.refl true) (Eq.refl true)
theorem dL_law_628 : decode cL_law 628 = .ok (.goto 1007, 3) := di_167 (x := 1007) nL_law (Eq.refl true) (Eq.refl true) (Eq.refl true) rfl
theorem dL_law_631 : decode cL_law 631 = .ok (.aload_n 1, 1) := di_43 nL_law (Eq.refl true) (Eq.refl true)
theorem dL_law_632 : decode cL_law 632 = .ok (.aload_n 0, 1) := di_42 nL_law (Eq.refl true) (Eq.refl true)
theorem dL_law_633 : decode cL_law 633 = .ok (.iload_n 3, 1) := di_29 nL_law (Eq.refl true) (Eq.refl true)
theorem dL_law_634 : decode cL_law 634 = .ok (.iconst 1, 1) := di_4 nL_law (Eq.refl true) (Eq.refl true)
theorem dL_law_635 : decode cL_law 635 = .ok (.iadd, 1) := di_96 nL_law (Eq.refl true) (Eq.refl true)
theorem dL_law_636 : decode cL_law 636 = .ok (.iaload, 1) := di_46 nL_law (Eq.refl true) (Eq.refl true)
theorem dL_law_637 : decode cL_law 637 = .ok (.aload_n 0, 1) := di_42 nL_law (Eq.refl true) (Eq.refl true)
theorem dL_law_638 : decode cL_law 638 = .ok (.iload_n 3, 1) := di_29 nL_law (Eq.refl true) (Eq.refl true)
theorem dL_law_639 : decode cL_law 639 = .ok (.iconst 2, 1) := di_5 nL_law (Eq.refl true) (Eq.refl true)
theorem dL_law_640 : decode cL_law 640 = .ok (.iadd, 1) := di_96 nL_law (Eq.refl true) (Eq.refl true)
theorem dL_law_641 : decode cL_law 641 = .ok (.iaload, 1) := di_46 nL_law (Eq.refl true) (Eq.refl true)
theorem dL_law_642 : decode cL_law 642 = .ok (.aload_n 0, 1) := di_42 nL_law (Eq.refl true) (Eq.refl true)
theorem dL_law_643 : decode cL_law 643 = .ok (.iload_n 3, 1) := di_29 nL_law (Eq.refl true) (Eq.refl true)
theorem dL_law_644 : decode cL_law 644 = .ok (.iconst 3, 1) := di_6 nL_law (Eq.refl true) (Eq.refl true)
theorem dL_law_645 : decode cL_law 645 = .ok (.iadd, 1) := di_96 nL_law (Eq.refl true) (Eq.refl true)
theorem dL_law_646 : decode cL_law 646 = .ok (.iaload, 1) := di_46 nL_law (Eq.refl true) (Eq.refl true)
theorem dL_law_647 : decode cL_law 647 = .ok (.invokevirtual 69, 3) := di_182 nL_law (Eq.refl true) (Eq.refl true) (Eq.refl true)
theorem dL_law_650 : decode cL_law 650 = .ok (.pop, 1) := di_87 nL_law (Eq.refl true) (Eq.refl true)
theorem dL_law_651 : decode cL_law 651 = .ok (.aload_n 2, 1) := di_44 nL_law (Eq.refl true) (Eq.refl true)
theorem dL_law_652 : decode cL_law 652 = .ok (.aload_n 0, 1) := di_42 nL_law (Eq.refl true) (Eq.refl true)
theorem dL_law_653 : decode cL_law 653 = .ok (.iload_n 3, 1) := di_29 nL_law (Eq.refl true) (Eq.refl true)
theorem dL_law_654 : decode cL_law 654 = .ok (.iconst 1, 1) := di_4 nL_law (Eq.refl true) (Eq.refl true)
theorem dL_law_655 : decode cL_law 655 = .ok (.iadd, 1) := di_96 nL_law (Eq.refl true) (Eq.refl true)
theorem dL_law_656 : decode cL_law 656 = .ok (.iaload, 1) := di_46 nL_law (Eq.refl true) (Eq.refl true)
theorem dL_law_657 : decode cL_law 657 = .ok (.aload_n 0, 1) := di_42 nL_law (Eq.refl true) (Eq.refl true)
theorem dL_law_658 : decode cL_law 658 = .ok (.iload_n 3, 1) := di_29 nL_law (Eq.refl true) (Eq.refl true)
theorem dL_law_659 : decode cL_law 659 = .ok (.iconst 2, 1) := di_5 nL_law (Eq.refl true) (Eq.refl true)
theorem dL_law_660 : decode cL_law 660 = .ok (.iadd, 1) := di_96 nL_law (Eq.refl true) (Eq.refl true)
theorem dL_law_661 : decode cL_law 661 = .ok (.iaload, 1) := di_46 nL_law (Eq.refl true) (Eq.refl true)
theorem dL_law_662 : decode cL_law 662 = .ok (.aload_n 0, 1) := di_42 nL_law (Eq.refl true) (Eq.refl true)
theorem dL_law_663 : decode cL_law 663 = .ok (.iload_n 3, 1) := di_29 nL_law (Eq.refl true) (Eq.refl true)
theorem dL_law_664 : decode cL_law 664 = .ok (.iconst 3, 1) := di_6 nL_law (Eq.refl true) (Eq.refl true)
theorem dL_law_665 : decode cL_law 665 = .ok (.iadd, 1) := di_96 nL_law (Eq.refl true) (Eq.refl true)
theorem dL_law_666 : decode cL_law 666 = .ok (.iaload, 1) := di_46 nL_law (Eq.refl true) (Eq.refl true)
theorem dL_law_667 : decode cL_law 667 = .ok (.invokevirtual 72, 3) := di_182 nL_law (Eq.refl true) (Eq.refl true) (Eq.refl true)
theorem dL_law_670 : decode cL_law 670 = .ok (.pop, 1) := di_87 nL_law (Eq.refl true) (Eq.refl true)
theorem dL_law_671 : decode cL_law 671 = .ok (.goto 964, 3) := di_167 (x := 964) nL_law (Eq.refl true) (Eq.refl true) (Eq.refl true) rfl
theorem dL_law_674 : decode cL_law 674 = .ok (.aload_n 1, 1) := di_43 nL_law (Eq.refl true) (Eq.refl true)
theorem dL_law_675 : decode cL_law 675 = .ok (.aload_n 0, 1) := di_42 nL_law (Eq.refl true) (Eq.refl true)
theorem dL_law_676 : decode cL_law 676 = .ok (.iload_n 3, 1) := di_29 nL_law (Eq.refl true) (Eq.refl true)
theorem dL_law_677 : decode cL_law 677 = .ok (.iconst 1, 1) := di_4 nL_law (Eq.refl true) (Eq.refl true)
theorem dL_law_678 : decode cL_law 678 = .ok (.iadd, 1) := di_96 nL_law (Eq.refl true) (Eq.refl true)
theorem dL_law_679 : decode cL_law 679 = .ok (.iaload, 1) := di_46 nL_law (Eq.refl true) (Eq.refl true)
theorem dL_law_680 : decode cL_law 680 = .ok (.aload_n 0, 1) := di_42 nL_law (Eq.refl true) (Eq.refl true)
theorem dL_law_681 : decode cL_law 681 = .ok (.iload_n 3, 1) := di_29 nL_law (Eq.refl true) (Eq.refl true)
theorem dL_law_682 : decode cL_law 682 = .ok (.iconst 2, 1) := di_5 nL_law (Eq.refl true) (Eq.refl true)
theorem dL_law_683 : decode cL_law 683 = .ok (.iadd, 1) := di_96 nL_law (Eq.refl true) (Eq.refl true)
theorem dL_law_684 : decode cL_law 684 = .ok (.iaload, 1) := di_46 nL_law (Eq.refl true) (Eq.refl true)
theorem dL_law_685 : decode cL_law 685 = .ok (.aload_n 0, 1) := di_42 nL_law (Eq.refl true) (Eq.refl true)
theorem dL_law_686 : decode cL_law 686 = .ok (.iload_n 3, 1) := di_29 nL_law (Eq.refl true) (Eq.refl true)
theorem dL_law_687 : decode cL_law 687 = .ok (.iconst 3, 1) := di_6 nL_law (Eq.refl true) (Eq.refl true)
theorem dL_law_688 : decode cL_law 688 = .ok (.iadd, 1) := di_96 nL_law (Eq.refl true) (Eq.refl true)
theorem dL_law_689 : decode cL_law 689 = .ok (.iaload, 1) := di_46 nL_law (Eq.refl true) (Eq.refl true)
theorem dL_law_690 : decode cL_law 690 = .ok (.invokevirtual 73, 3) := di_182 nL_law (Eq.refl true) (Eq.refl true) (Eq.refl true)
theorem dL_law_693 : decode cL_law 693 = .ok (.pop, 1) := di_87 nL_law (Eq.refl true) (Eq.refl true)
theorem dL_law_694 : decode cL_law 694 = .ok (.aload_n 2, 1) := di_44 nL_law (Eq.refl true) (Eq.refl true)
theorem dL_law_695 : decode cL_law 695 = .ok (.aload_n 0, 1) := di_42 nL_law (Eq.refl true) (Eq.refl true)
theorem dL_law_696 : decode cL_law 696 = .ok (.iload_n 3, 1) := di_29 nL_law (Eq.refl true) (Eq.refl true)
theorem dL_law_697 : decode cL_law 697 = .ok (.iconst 1, 1) := di_4 nL_law (Eq.refl true) (Eq.refl true)
theorem dL_law_698 : decode cL_law 698 = .ok (.iadd, 1) := di_96 nL_law (Eq.refl true) (Eq.refl true)
theorem dL_law_699 : decode cL_law 699 = .ok (.iaload, 1) := di_46 nL_law (Eq.refl true) (Eq.refl true)
theorem dL_law_700 : decode cL_law 700 = .ok (.aload_n 0, 1) := di_42 nL_law (Eq.refl true) (Eq.refl true)
theorem dL_law_701 : decode cL_law 701 = .ok (.iload_n 3, 1) := di_29 nL_law (Eq.refl true) (Eq.refl true)
theorem dL_law_702 : decode cL_law 702 = .ok (.iconst 2, 1) := di_5 nL_law (Eq.refl true) (Eq.refl true)
theorem dL_law_703 : decode cL_law 703 = .ok (.iadd, 1) := di_96 nL_law (Eq.refl true) (Eq.refl true)
theorem dL_law_704 : decode cL_law 704 = .ok (.iaload, 1) := di_46 nL_law (Eq.refl true) (Eq.refl true)
theorem dL_law_705 : decode cL_law 705 = .ok (.aload_n 0, 1) := di_42 nL_law (Eq.refl true) (Eq.refl true)
theorem dL_law_706 : decode cL_law 706 = .ok (.iload_n 3, 1) := di_29 nL_law (Eq.refl true) (Eq.refl true)
theorem dL_law_707 : decode cL_law 707 = .ok (.iconst 3, 1) := di_6 nL_law (Eq.refl true) (Eq.refl true)
theorem dL_law_708 : decode cL_law 708 = .ok (.iadd, 1) := di_96 nL_law (Eq.refl true) (Eq.refl true)
theorem dL_law_709 : decode cL_law 709 = .ok (.iaload, 1) := di_46 nL_law (Eq.refl true) (Eq.refl true)
theorem dL_law_710 : decode cL_law 710 = .ok (.invokevirtual 76, 3) := di_182 nL_law (Eq.refl true) (Eq.refl true) (Eq.refl true)
theorem dL_law_713 : decode cL_law 713 = .ok (.pop, 1) := di_87 nL_law (Eq.refl true) (Eq.refl true)
theorem dL_law_714 : decode cL_law 714 = .ok (.goto 921, 3) := di_167 (x := 921) nL_law (Eq.refl true) (Eq.refl true) (Eq.refl true) rfl
theorem dL_law_717 : decode cL_law 717 = .ok (.aload_n 1, 1) := di_43 nL_law (Eq.refl true) (Eq.refl true)
theorem dL_law_718 : decode cL_law 718 = .ok (.aload_n 0, 1) := di_42 nL_law (Eq.refl true) (Eq.refl true)
theorem dL_law_719 : decode cL_law 719 = .ok (.iload_n 3, 1) := di_29 nL_law (Eq.refl true) (Eq.refl true)
theorem dL_law_720 : decode cL_law 720 = .ok (.iconst 1, 1) := di_4 nL_law (Eq.refl true) (Eq.refl true)
theorem dL_law_721 : decode cL_law 721 = .ok (.iadd, 1) := di_96 nL_law (Eq.refl true) (Eq.refl true)
theorem dL_law_722 : decode cL_law 722 = .ok (.iaload, 1) := di_46 nL_law (Eq.refl true) (Eq.refl true)
theorem dL_law_723 : decode cL_law 723 = .ok (.aload_n 0, 1) := di_42 nL_law (Eq.refl true) (Eq.refl true)
theorem dL_law_724 : decode cL_law 724 = .ok (.iload_n 3, 1) := di_29 nL_law (Eq.refl true) (Eq.refl true)
theorem dL_law_725 : decode cL_law 725 = .ok (.iconst 2, 1) := di_5 nL_law (Eq.refl true) (Eq.refl true)
theorem dL_law_726 : decode cL_law 726 = .ok (.iadd, 1) := di_96 nL_law (Eq.refl true) (Eq.refl true)
theorem dL_law_727 : decode cL_law 727 = .ok (.iaload, 1) := di_46 nL_law (Eq.refl true) (Eq.refl true)
theorem dL_law_728 : decode cL_law 728 = .ok (.invokevirtual 77, 3) := di_182 nL_law (Eq.refl true) (Eq.refl true) (Eq.refl true)
theorem dL_law_731 : decode cL_law 731 = .ok (.pop, 1) := di_87 nL_law (Eq.refl true) (Eq.refl true)
theorem dL_law_732 : decode cL_law 732 = .ok (.aload_n 2, 1) := di_44 nL_law (Eq.refl true) (Eq.refl true)
theorem dL_law_733 : decode cL_law 733 = .ok (.aload_n 0, 1) := di_42 nL_law (Eq.refl true) (Eq.refl true)
theorem dL_law_734 : decode cL_law 734 = .ok (.iload_n 3, 1) := di_29 nL_law (Eq.refl true) (Eq.refl true)
theorem dL_law_735 : decode cL_law 735 = .ok (.iconst 1, 1) := di_4 nL_law (Eq.refl true) (Eq.refl true)
theorem dL_law_736 : decode cL_law 736 = .ok (.iadd, 1) := di_96 nL_law (Eq.refl true) (Eq.refl true)
theorem dL_law_737 : decode cL_law 737 = .ok (.iaload, 1) := di_46 nL_law (Eq.refl true) (Eq.refl true)
theorem dL_law_738 : decode cL_law 738 = .ok (.aload_n 0, 1) := di_42 nL_law (Eq.refl true) (Eq.refl true)
theorem dL_law_739 : decode cL_law 739 = .ok (.iload_n 3, 1) := di_29 nL_law (Eq.refl true) (Eq.refl true)
theorem dL_law_740 : decode cL_law 740 = .ok (.iconst 2, 1) := di_5 nL_law (Eq.refl true) (Eq.refl true)
theorem dL_law_741 : decode cL_law 741 = .ok (.iadd, 1) := di_96 nL_law (Eq.refl true) (Eq.refl true)
theorem dL_law_742 : decode cL_law 742 = .ok (.iaload, 1) := di_46 nL_law (Eq.refl true) (Eq.refl true)
theorem dL_law_743 : decode cL_law 743 = .ok (.invokevirtual 80, 3) := di_182 nL_law (Eq.refl true) (Eq.refl true) (Eq.refl true)
theorem dL_law_746 : decode cL_law 746 = .ok (.pop, 1) := di_87 nL_law (Eq.refl true) (Eq.refl true)
theorem dL_law_747 : decode cL_law 747 = .ok (.goto 888, 3) := di_167 (x := 888) nL_law (Eq.refl true) (Eq.refl true) (Eq.refl true) rfl
theorem dL_law_750 : decode cL_law 750 = .ok (.aload_n 1, 1) := di_43 nL_law (Eq.refl true) (Eq.refl true)
theorem dL_law_751 : decode cL_law 751 = .ok (.aload_n 0, 1) := di_42 nL_law (Eq.refl true) (Eq.refl true)
theorem dL_law_752 : decode cL_law 752 = .ok (.iload_n 3, 1) := di_29 nL_law (Eq.refl true) (Eq.refl true)
theorem dL_law_753 : decode cL_law 753 = .ok (.iconst 1, 1) := di_4 nL_law (Eq.refl true) (Eq.refl true)
theorem dL_law_754 : decode cL_law 754 = .ok (.iadd, 1) := di_96 nL_law (Eq.refl true) (Eq.refl true)
theorem dL_law_755 : decode cL_law 755 = .ok (.iaload, 1) := di_46 nL_law (Eq.refl true) (Eq.refl true)
theorem dL_law_756 : decode cL_law 756 = .ok (.aload_n 0, 1) := di_42 nL_law (Eq.refl true) (Eq.refl true)
theorem dL_law_757 : decode cL_law 757 = .ok (.iload_n 3, 1) := di_29 nL_law (Eq.refl true) (Eq.refl true)
theorem dL_law_758 : decode cL_law 758 = .ok (.iconst 2, 1) := di_5 nL_law (Eq.refl true) (Eq.refl true)
theorem dL_law_759 : decode cL_law 759 = .ok (.iadd, 1) := di_96 nL_law (Eq.refl true) (Eq.refl true)
theorem dL_law_760 : decode cL_law 760 = .ok (.iaload, 1) := di_46 nL_law (Eq.refl true) (Eq.refl true)
theorem dL_law_761 : decode cL_law 761 = .ok (.invokevirtual 81, 3) := di_182 nL_law (Eq.refl true) (Eq.refl true) (Eq.refl true)
theorem dL_law_764 : decode cL_law 764 = .ok (.pop, 1) := di_87 nL_law (Eq.refl true) (Eq.refl true)
theorem dL_law_765 : decode cL_law 765 = .ok (.aload_n 2, 1) := di_44 nL_law (Eq.refl true) (Eq.refl true)
theorem dL_law_766 : decode cL_law 766 = .ok (.aload_n 0, 1) := di_42 nL_law (Eq.refl true) (Eq.refl true)
theorem dL_law_767 : decode cL_law 767 = .ok (.iload_n 3, 1) := di_29 nL_law (Eq.refl true) (Eq.refl true)
theorem dL_law_768 : decode cL_law 768 = .ok (.iconst 1, 1) := di_4 nL_law (Eq.refl true) (Eq.refl true)
theorem dL_law_769 : decode cL_law 769 = .ok (.iadd, 1) := di_96 nL_law (Eq.refl true) (Eq.refl true)
theorem dL_law_770 : decode cL_law 770 = .ok (.iaload, 1) := di_46 nL_law (Eq.refl true) (Eq.refl true)
theorem dL_law_771 : decode cL_law 771 = .ok (.aload_n 0, 1) := di_42 nL_law (Eq.refl true) (Eq.refl true)
theorem dL_law_772 : decode cL_law 772 = .ok (.iload_n 3, 1) := di_29 nL_law (Eq.refl true) (Eq.refl true)
theorem dL_law_773 : decode cL_law 773 = .ok (.iconst 2, 1) := di_5 nL_law (Eq.refl true) (Eq.refl true)
theorem dL_law_774 : decode cL_law 774 = .ok (.iadd, 1) := di_96 nL_law (Eq.refl true) (Eq.refl true)
theorem dL_law_775 : decode cL_law 775 = .ok (.iaload, 1) := di_46 nL_law (Eq.refl true) (Eq.refl true)
theorem dL_law_776 : decode cL_law 776 = .ok (.invokevirtual 84, 3) := di_182 nL_law (Eq.refl true) (Eq.refl true) (Eq.refl true)
theorem dL_law_779 : decode cL_law 779 = .ok (.pop, 1) := di_87 nL_law (Eq.refl true) (Eq.refl true)
theorem dL_law_780 : decode cL_law 780 = .ok (.goto 855, 3) := di_167 (x := 855) nL_law (Eq.refl true) (Eq.refl true) (Eq.refl true) rfl
theorem dL_law_783 : decode cL_law 783 = .ok (.aload_n 1, 1) := di_43 nL_law (Eq.refl true) (Eq.refl true)
theorem dL_law_784 : decode cL_law 784 = .ok (.aload_n 0, 1) := di_42 nL_law (Eq.refl true) (Eq.refl true)
theorem dL_law_785 : decode cL_law 785 = .ok (.iload_n 3, 1) := di_29 nL_law (Eq.refl true) (Eq.refl true)
theorem dL_law_786 : decode cL_law 786 = .ok (.iconst 1, 1) := di_4 nL_law (Eq.refl true) (Eq.refl true)
theorem dL_law_787 : decode cL_law 787 = .ok (.iadd, 1) := di_96 nL_law (Eq.refl true) (Eq.refl true)
theorem dL_law_788 : decode cL_law 788 = .ok (.iaload, 1) := di_46 nL_law (Eq.refl true) (Eq.refl true)
theorem dL_law_789 : decode cL_law 789 = .ok (.aload_n 0, 1) := di_42 nL_law (Eq.refl true) (Eq.refl true)
theorem dL_law_790 : decode cL_law 790 = .ok (.iload_n 3, 1) := di_29 nL_law (Eq.refl true) (Eq.refl true)
theorem dL_law_791 : decode cL_law 791 = .ok (.iconst 2, 1) := di_5 nL_law (Eq.refl true) (Eq.refl true)
theorem dL_law_792 : decode cL_law 792 = .ok (.iadd, 1) := di_96 nL_law (Eq.refl true) (Eq.refl true)
theorem dL_law_793 : decode cL_law 793 = .ok (.iaload, 1) := di_46 nL_law (Eq.refl true) (Eq.refl true)
theorem dL_law_794 : decode cL_law 794 = .ok (.invokevirtual 85, 3) := di_182 nL_law (Eq.refl true) (Eq.refl true) (Eq.refl true)
theorem dL_law_797 : decode cL_law 797 = .ok (.pop, 1) := di_87 nL_law (Eq.refl true) (Eq.refl true)
theorem dL_law_798 : decode cL_law 798 = .ok (.aload_n 2, 1) := di_44 nL_law (Eq.refl true) (Eq.refl true)
theorem dL_law_799 : decode cL_law 799 = .ok (.aload_n 0, 1) := di_42 nL_law (Eq.refl true) (Eq.refl true)
theorem dL_law_800 : decode cL_law 800 = .ok (.iload_n 3, 1) := di_29 nL_law (Eq.refl true) (Eq.refl true)
theorem dL_law_801 : decode cL_law 801 = .ok (.iconst 1, 1) := di_4 nL_law (Eq.refl true) (Eq.refl true)
theorem dL_law_802 : decode cL_law 802 = .ok (.iadd, 1) := di_96 nL_law (Eq.refl true) (Eq.refl true)
theorem dL_law_803 : decode cL_law 803 = .ok (.iaload, 1) := di_46 nL_law (Eq.refl true) (Eq.refl true)
theorem dL_law_804 : decode cL_law 804 = .ok (.aload_n 0, 1) := di_42 nL_law (Eq.refl true) (Eq.refl true)
theorem dL_law_805 : decode cL_law 805 = .ok (.iload_n 3, 1) := di_29 nL_law (Eq.refl true) (Eq.refl true)
theorem dL_law_806 : decode cL_law 806 = .ok (.iconst 2, 1) := di_5 nL_law (Eq.refl true) (Eq.refl true)
theorem dL_law_807 : decode cL_law 807 = .ok (.iadd, 1) := di_96 nL_law (Eq.refl true) (Eq.refl true)
theorem dL_law_808 : decode cL_law 808 = .ok (.iaload, 1) := di_46 nL_law (Eq.refl true) (Eq.refl true)
theorem dL_law_809 : decode cL_law 809 = .ok (.invokevirtual 88, 3) := di_182 nL_law (Eq.refl true) (Eq.refl true) (Eq.refl true)
theorem dL_law_812 : decode cL_law 812 = .ok (.pop, 1) := di_87 nL_law (Eq.refl true) (Eq.refl true)
theorem dL_law_813 : decode cL_law 813 = .ok (.goto 822, 3) := di_167 (x := 822) nL_law (Eq.refl true) (Eq.refl true) (Eq.refl true) rfl
theorem dL_law_816 : decode cL_law 816 = .ok (.aload_n 1, 1) := di_43 nL_law (Eq.refl true) (Eq.refl true)
theorem dL_law_817 : decode cL_law 817 = .ok (.aload_n 0, 1) := di_42 nL_law (Eq.refl true) (Eq.refl true)
theorem dL_law_818 : decode cL_law 818 = .ok (.iload_n 3, 1) := di_29 nL_law (Eq.refl true) (Eq.refl true)
theorem dL_law_819 : decode cL_law 819 = .ok (.iconst 1, 1) := di_4 nL_law (Eq.refl true) (Eq.refl true)
theorem dL_law_820 : decode cL_law 820 = .ok (.iadd, 1) := di_96 nL_law (Eq.refl true) (Eq.refl true)
theorem dL_law_821 : decode cL_law 821 = .ok (.iaload, 1) := di_46 nL_law (Eq.refl true) (Eq.refl true)
theorem dL_law_822 : decode cL_law 822 = .ok (.aload_n 0, 1) := di_42 nL_law (Eq.refl true) (Eq.refl true)
theorem dL_law_823 : decode cL_law 823 = .ok (.iload_n 3, 1) := di_29 nL_law (Eq.refl true) (Eq.refl true)
theorem dL_law_824 : decode cL_law 824 = .ok (.iconst 2, 1) := di_5 nL_law (Eq.refl true) (Eq.refl true)
theorem dL_law_825 : decode cL_law 825 = .ok (.iadd, 1) := di_96 nL_law (Eq.refl true) (Eq.refl true)
theorem dL_law_826 : decode cL_law 826 = .ok (.iaload, 1) := di_46 nL_law (Eq.refl true) (Eq.refl true)
theorem dL_law_827 : decode cL_law 827 = .ok (.aload_n 0, 1) := di_42 nL_law (Eq.refl true) (Eq.refl true)
theorem dL_law_828 : decode cL_law 828 = .ok (.iload_n 3, 1) := di_29 nL_law (Eq.refl true) (Eq.refl true)
theorem dL_law_829 : decode cL_law 829 = .ok (.iconst 3, 1) := di_6 nL_law (Eq.refl true) (Eq.refl true)
theorem dL_law_830 : decode cL_law 830 = .ok (.iadd, 1) := di_96 nL_law (Eq.refl true) (Eq.refl true)
theorem dL_law_831 : decode cL_law 831 = .ok (.iaload, 1) := di_46 nL_law (Eq.refl true) (Eq.refl true)
theorem dL_law_832 : decode cL_law 832 = .ok (.invokevirtual 89, 3) := di_182 nL_law (Eq.refl true) (Eq.refl true) (Eq.refl true)
theorem dL_law_835 : decode cL_law 835 = .ok (.pop, 1) := di_87 nL_law (Eq.refl true) (Eq.refl true)
theorem dL_law_836 : decode cL_law 836 = .ok (.aload_n 2, 1) := di_44 nL_law (Eq.refl true) (Eq.refl true)
theorem dL_law_837 : decode cL_law 837 = .ok (.aload_n 0, 1) := di_42 nL_law (Eq.refl true) (Eq.refl true)
theorem dL_law_838 : decode cL_law 838 = .ok (.iload_n 3, 1) := di_29 nL_law (Eq.refl true) (Eq.refl true)
theorem dL_law_839 : decode cL_law 839 = .ok (.iconst 1, 1) := di_4 nL_law (Eq.refl true) (Eq.refl true)
theorem dL_law_840 : decode cL_law 840 = .ok (.iadd, 1) := di_96 nL_law (Eq.refl true) (Eq.refl true)
theorem dL_law_841 : decode cL_law 841 = .ok (.iaload, 1) := di_46 nL_law (Eq.refl true) (Eq.refl true)
theorem dL_law_842 : decode cL_law 842 = .ok (.aload_n 0, 1) := di_42 nL_law (Eq.refl true) (Eq.refl true)
theorem dL_law_843 : decode cL_law 843 = .ok (.iload_n 3, 1) := di_29 nL_law (Eq.refl true) (Eq.refl true)
theorem dL_law_844 : decode cL_law 844 = .ok (.iconst 2, 1) := di_5 nL_law (Eq.refl true) (Eq.refl true)
theorem dL_law_845 : decode cL_law 845 = .ok (.iadd, 1) := di_96 nL_law (Eq.refl true) (Eq.refl true)
theorem dL_law_846 : decode cL_law 846 = .ok (.iaload, 1) := di_46 nL_law (Eq.refl true) (Eq.refl true)
theorem dL_law_847 : decode cL_law 847 = .ok (.aload_n 0, 1) := di_42 nL_law (Eq.refl true) (Eq.refl true)
theorem dL_law_848 : decode cL_law 848 = .ok (.iload_n 3, 1) := di_29 nL_law (Eq.refl true) (Eq.refl true)
theorem dL_law_849 : decode cL_law 849 = .ok (.iconst 3, 1) := di_6 nL_law (Eq.refl true) (Eq.refl true)
theorem dL_law_850 : decode cL_law 850 = .ok (.iadd, 1) := di_96 nL_law (Eq.refl true) (Eq.refl true)
theorem dL_law_851 : decode cL_law 851 = .ok (.iaload, 1) := di_46 nL_law (Eq.refl true) (Eq.refl true)
theorem dL_law_852 : decode cL_law 852 = .ok (.invokevirtual 92, 3) := di_182 nL_law (Eq.refl true) (Eq.refl true) (Eq.refl true)
theorem dL_law_855 : decode cL_law 855 = .ok (.pop, 1) := di_87 nL_law (Eq.refl true) (Eq.refl true)
theorem dL_law_856 : decode cL_law 856 = .ok (.goto 779, 3) := di_167 (x := 779) nL_law (Eq.refl true) (Eq.refl true) (Eq.refl true) rfl
theorem dL_law_859 : decode cL_law 859 = .ok (.aload_n 1, 1) := di_43 nL_law (Eq.refl true) (Eq.refl true)
theorem dL_law_860 : decode cL_law 860 = .ok (.aload_n 0, 1) := di_42 nL_law (Eq.refl true) (Eq.refl true)
theorem dL_law_861 : decode cL_law 861 = .ok (.iload_n 3, 1) := di_29 nL_law (Eq.refl true) (Eq.refl true)
theorem dL_law_862 : decode cL_law 862 = .ok (.iconst 1, 1) := di_4 nL_law (Eq.refl true) (Eq.refl true)
theorem dL_law_863 : decode cL_law 863 = .ok (.iadd, 1) := di_96 nL_law (Eq.refl true) (Eq.refl true)
theorem dL_law_864 : decode cL_law 864 = .ok (.iaload, 1) := di_46 nL_law (Eq.refl true) (Eq.refl true)
theorem dL_law_865 : decode cL_law 865 = .ok (.aload_n 0, 1) := di_42 nL_law (Eq.refl true) (Eq.refl true)
theorem dL_law_866 : decode cL_law 866 = .ok (.iload_n 3, 1) := di_29 nL_law (Eq.refl true) (Eq.refl true)
theorem dL_law_867 : decode cL_law 867 = .ok (.iconst 2, 1) := di_5 nL_law (Eq.refl true) (Eq.refl true)
theorem dL_law_868 : decode cL_law 868 = .ok (.iadd, 1) := di_96 nL_law (Eq.refl true) (Eq.refl true)
theorem dL_law_869 : decode cL_law 869 = .ok (.iaload, 1) := di_46 nL_law (Eq.refl true) (Eq.refl true)
theorem dL_law_870 : decode cL_law 870 = .ok (.invokevirtual 93, 3) := di_182 nL_law (Eq.refl true) (Eq.refl true) (Eq.refl true)
theorem dL_law_873 : decode cL_law 873 = .ok (.pop, 1) := di_87 nL_law (Eq.refl true) (Eq.refl true)
theorem dL_law_874 : decode cL_law 874 = .ok (.aload_n 2, 1) := di_44 nL_law (Eq.refl true) (Eq.refl true)
theorem dL_law_875 : decode cL_law 875 = .ok (.aload_n 0, 1) := di_42 nL_law (Eq.refl true) (Eq.refl true)
theorem dL_law_876 : decode cL_law 876 = .ok (.iload_n 3, 1) := di_29 nL_law (Eq.refl true) (Eq.refl true)
theorem dL_law_877 : decode cL_law 877 = .ok (.iconst 1, 1) := di_4 nL_law (Eq.refl true) (Eq.refl true)
theorem dL_law_878 : decode cL_law 878 = .ok (.iadd, 1) := di_96 nL_law (Eq.refl true) (Eq.refl true)
theorem dL_law_879 : decode cL_law 879 = .ok (.iaload, 1) := di_46 nL_law (Eq.refl true) (Eq.refl true)
theorem dL_law_880 : decode cL_law 880 = .ok (.aload_n 0, 1) := di_42 nL_law (Eq.refl true) (Eq.refl true)
theorem dL_law_881 : decode cL_law 881 = .ok (.iload_n 3, 1) := di_29 nL_law (Eq.refl true) (Eq.refl true)
theorem dL_law_882 : decode cL_law 882 = .ok (.iconst 2, 1) := di_5 nL_law (Eq.refl true) (Eq.refl true)
theorem dL_law_883 : decode cL_law 883 = .ok (.iadd, 1) := di_96 nL_law (Eq.refl true) (Eq.refl true)
theorem dL_law_884 : decode cL_law 884 = .ok (.iaload, 1) := di_46 nL_law (Eq.refl true) (Eq.refl true)
theorem dL_law_885 : decode cL_law 885 = .ok (.invokevirtual 96, 3) := di_182 nL_law (Eq.refl true) (Eq.refl true) (Eq.refl true)
theorem dL_law_888 : decode cL_law 888 = .ok (.pop, 1) := di_87 nL_law (Eq.refl true) (Eq.refl true)
theorem dL_law_889 : decode cL_law 889 = .ok (.goto 746, 3) := di_167 (x := 746) nL_law (Eq.refl true) (Eq.refl true) (Eq.refl true) rfl
theorem dL_law_892 : decode cL_law 892 = .ok (.aload_n 1, 1) := di_43 nL_law (Eq.refl true) (Eq.refl true)
theorem dL_law_893 : decode cL_law 893 = .ok (.aload_n 0, 1) := di_42 nL_law (Eq.refl true) (Eq.refl true)
theorem dL_law_894 : decode cL_law 894 = .ok (.iload_n 3, 1) := di_29 nL_law (Eq.refl true) (Eq.refl true)
theorem dL_law_895 : decode cL_law 895 = .ok (.iconst 1, 1) := di_4 nL_law (Eq.refl true) (Eq.refl true)
theorem dL_law_896 : decode cL_law 896 = .ok (.iadd, 1) := di_96 nL_law (Eq.refl true) (Eq.refl true)
theorem dL_law_897 : decode cL_law 897 = .ok (.iaload, 1) := di_46 nL_law (Eq.refl true) (Eq.refl true)
theorem dL_law_898 : decode cL_law 898 = .ok (.aload_n 0, 1) := di_42 nL_law (Eq.refl true) (Eq.refl true)
theorem dL_law_899 : decode cL_law 899 = .ok (.iload_n 3, 1) := di_29 nL_law (Eq.refl true) (Eq.refl true)
theorem dL_law_900 : decode cL_law 900 = .ok (.iconst 2, 1) := di_5 nL_law (Eq.refl true) (Eq.refl true)
theorem dL_law_901 : decode cL_law 901 = .ok (.iadd, 1) := di_96 nL_law (Eq.refl true) (Eq.refl true)
theorem dL_law_902 : decode cL_law 902 = .ok (.iaload, 1) := di_46 nL_law (Eq.refl true) (Eq.refl true)
theorem dL_law_903 : decode cL_law 903 = .ok (.aload_n 0, 1) := di_42 nL_law (Eq.refl true) (Eq.refl true)
theorem dL_law_904 : decode cL_law 904 = .ok (.iload_n 3, 1) := di_29 nL_law (Eq.refl true) (Eq.refl true)
theorem dL_law_905 : decode cL_law 905 = .ok (.iconst 3, 1) := di_6 nL_law (Eq.refl true) (Eq.refl true)
theorem dL_law_906 : decode cL_law 906 = .ok (.iadd, 1) := di_96 nL_law (Eq.refl true) (Eq.refl true)
theorem dL_law_907 : decode cL_law 907 = .ok (.iaload, 1) := di_46 nL_law (Eq.refl true) (Eq.refl true)
theorem dL_law_908 : decode cL_law 908 = .ok (.invokevirtual 97, 3) := di_182 nL_law (Eq.refl true) (Eq.refl true) (Eq.refl true)
theorem dL_law_911 : decode cL_law 911 = .ok (.pop, 1) := di_87 nL_law (Eq.refl true) (Eq.refl true)
theorem dL_law_912 : decode cL_law 912 = .ok (.aload_n 2, 1) := di_44 nL_law (Eq.refl true) (Eq.refl true)
theorem dL_law_913 : decode cL_law 913 = .ok (.aload_n 0, 1) := di_42 nL_law (Eq.refl true) (Eq.refl true)
theorem dL_law_914 : decode cL_law 914 = .ok (.iload_n 3, 1) := di_29 nL_law (Eq.refl true) (Eq.refl true)
theorem dL_law_915 : decode cL_law 915 = .ok (.iconst 1, 1) := di_4 nL_law (Eq.refl true) (Eq.refl true)
theorem dL_law_916 : decode cL_law 916 = .ok (.iadd, 1) := di_96 nL_law (Eq.refl true) (Eq.refl true)
theorem dL_law_917 : decode cL_law 917 = .ok (.iaload, 1) := di_46 nL_law (Eq.refl true) (Eq.refl true)
theorem dL_law_918 : decode cL_law 918 = .ok (.aload_n 0, 1) := di_42 nL_law (Eq.refl true) (Eq.refl true)
theorem dL_law_919 : decode cL_law 919 = .ok (.iload_n 3, 1) := di_29 nL_law (Eq.refl true) (Eq.refl true)
theorem dL_law_920 : decode cL_law 920 = .ok (.iconst 2, 1) := di_5 nL_law (Eq.refl true) (Eq.refl true)
theorem dL_law_921 : decode cL_law 921 = .ok (.iadd, 1) := di_96 nL_law (Eq.refl true) (Eq.refl true)
theorem dL_law_922 : decode cL_law 922 = .ok (.iaload, 1) := di_46 nL_law (Eq.refl true) (Eq.refl true)
theorem dL_law_923 : decode cL_law 923 = .ok (.aload_n 0, 1) := di_42 nL_law (Eq.refl true) (Eq.refl true)
theorem dL_law_924 : decode cL_law 924 = .ok (.iload_n 3, 1) := di_29 nL_law (Eq.refl true) (Eq.refl true)
theorem dL_law_925 : decode cL_law 925 = .ok (.iconst 3, 1) := di_6 nL_law (Eq.refl true) (Eq.refl true)
theorem dL_law_926 : decode cL_law 926 = .ok (.iadd, 1) := di_96 nL_law (Eq.refl true) (Eq.refl true)
theorem dL_law_927 : decode cL_law 927 = .ok (.iaload, 1) := di_46 nL_law (Eq.refl true) (Eq.refl true)
theorem dL_law_928 : decode cL_law 928 = .ok (.invokevirtual 100, 3) := di_182 nL_law (Eq.refl true) (Eq.refl true) (Eq.refl true)
theorem dL_law_931 : decode cL_law 931 = .ok (.pop, 1) := di_87 nL_law (Eq.refl true) (Eq.refl true)
theorem dL_law_932 : decode cL_law 932 = .ok (.goto 703, 3) := di_167 (x := 703) nL_law (Eq.refl true) (Eq.refl true) (Eq.refl true) rfl
theorem dL_law_935 : decode cL_law 935 = .ok (.aload_n 1, 1) := di_43 nL_law (Eq.refl true) (Eq.refl true)
theorem dL_law_936 : decode cL_law 936 = .ok (.aload_n 0, 1) := di_42 nL_law (Eq.refl true) (Eq.refl true)
theorem dL_law_937 : decode cL_law 937 = .ok (.iload_n 3, 1) := di_29 nL_law (Eq.refl true) (Eq.refl true)
theorem dL_law_938 : decode cL_law 938 = .ok (.iconst 1, 1) := di_4 nL_law (Eq.refl true) (Eq.refl true)
theorem dL_law_939 : decode cL_law 939 = .ok (.iadd, 1) := di_96 nL_law (Eq.refl true) (Eq.refl true)
theorem dL_law_940 : decode cL_law 940 = .ok (.iaload, 1) := di_46 nL_law (Eq.refl true) (Eq.refl true)
theorem dL_law_941 : decode cL_law 941 = .ok (.invokevirtual 101, 3) := di_182 nL_law (Eq.refl true) (Eq.refl true) (Eq.refl true)
theorem dL_law_944 : decode cL_law 944 = .ok (.pop, 1) := di_87 nL_law (Eq.refl true) (Eq.refl true)
theorem dL_law_945 : decode cL_law 945 = .ok (.aload_n 2, 1) := di_44 nL_law (Eq.refl true) (Eq.refl true)
theorem dL_law_946 : decode cL_law 946 = .ok (.aload_n 0, 1) := di_42 nL_law (Eq.refl true) (Eq.refl true)
theorem dL_law_947 : decode cL_law 947 = .ok (.iload_n 3, 1) := di_29 nL_law (Eq.refl true) (Eq.refl true)
theorem dL_law_948 : decode cL_law 948 = .ok (.iconst 1, 1) := di_4 nL_law (Eq.refl true) (Eq.refl true)
theorem dL_law_949 : decode cL_law 949 = .ok (.iadd, 1) := di_96 nL_law (Eq.refl true) (Eq.refl true)
theorem dL_law_950 : decode cL_law 950 = .ok (.iaload, 1) := di_46 nL_law (Eq.refl true) (Eq.refl true)
theorem dL_law_951 : decode cL_law 951 = .ok (.invokevirtual 104, 3) := di_182 nL_law (Eq.refl true) (Eq.refl true) (Eq.refl true)
theorem dL_law_954 : decode cL_law 954 = .ok (.pop, 1) := di_87 nL_law (Eq.refl true) (Eq.refl true)
theorem dL_law_955 : decode cL_law 955 = .ok (.goto 680, 3) := di_167 (x := 680) nL_law (Eq.refl true) (Eq.refl true) (Eq.refl true) rfl
theorem dL_law_958 : decode cL_law 958 = .ok (.aload_n 1, 1) := di_43 nL_law (Eq.refl true) (Eq.refl true)
theorem dL_law_959 : decode cL_law 959 = .ok (.aload_n 0, 1) := di_42 nL_law (Eq.refl true) (Eq.refl true)
theorem dL_law_960 : decode cL_law 960 = .ok (.iload_n 3, 1) := di_29 nL_law (Eq.refl true) (Eq.refl true)
theorem dL_law_961 : decode cL_law 961 = .ok (.iconst 1, 1) := di_4 nL_law (Eq.refl true) (Eq.refl true)
theorem dL_law_962 : decode cL_law 962 = .ok (.iadd, 1) := di_96 nL_law (Eq.refl true) (Eq.refl true)
theorem dL_law_963 : decode cL_law 963 = .ok (.iaload, 1) := di_46 nL_law (Eq.refl true) (Eq.refl true)
theorem dL_law_964 : decode cL_law 964 = .ok (.aload_n 0, 1) := di_42 nL_law (Eq.refl true) (Eq.refl true)
theorem dL_law_965 : decode cL_law 965 = .ok (.iload_n 3, 1) := di_29 nL_law (Eq.refl true) (Eq.refl true)
theorem dL_law_966 : decode cL_law 966 = .ok (.iconst 2, 1) := di_5 nL_law (Eq.refl true) (Eq.refl true)
theorem dL_law_967 : decode cL_law 967 = .ok (.iadd, 1) := di_96 nL_law (Eq.refl true) (Eq.refl true)
theorem dL_law_968 : decode cL_law 968 = .ok (.iaload, 1) := di_46 nL_law (Eq.refl true) (Eq.refl true)
theorem dL_law_969 : decode cL_law 969 = .ok (.aload_n 0, 1) := di_42 nL_law (Eq.refl true) (Eq.refl true)
theorem dL_law_970 : decode cL_law 970 = .ok (.iload_n 3, 1) := di_29 nL_law (Eq.refl true) (Eq.refl true)
theorem dL_law_971 : decode cL_law 971 = .ok (.iconst 3, 1) := di_6 nL_law (Eq.refl true) (Eq.refl true)
theorem dL_law_972 : decode cL_law 972 = .ok (.iadd, 1) := di_96 nL_law (Eq.refl true) (Eq.refl true)
theorem dL_law_973 : decode cL_law 973 = .ok (.iaload, 1) := di_46 nL_law (Eq.refl true) (Eq.refl true)
theorem dL_law_974 : decode cL_law 974 = .ok (.invokevirtual 105, 3) := di_182 nL_law (Eq.refl true) (Eq.refl true) (Eq.refl true)
theorem dL_law_977 : decode cL_law 977 = .ok (.pop, 1) := di_87 nL_law (Eq.refl true) (Eq.refl true)
theorem dL_law_978 : decode cL_law 978 = .ok (.aload_n 2, 1) := di_44 nL_law (Eq.refl true) (Eq.refl true)
theorem dL_law_979 : decode cL_law 979 = .ok (.aload_n 0, 1) := di_42 nL_law (Eq.refl true) (Eq.refl true)
theorem dL_law_980 : decode cL_law 980 = .ok (.iload_n 3, 1) := di_29 nL_law (Eq.refl true) (Eq.refl true)
theorem dL_law_981 : decode cL_law 981 = .ok (.iconst 1, 1) := di_4 nL_law (Eq.refl true) (Eq.refl true)
theorem dL_law_982 : decode cL_law 982 = .ok (.iadd, 1) := di_96 nL_law (Eq.refl true) (Eq.refl true)
theorem dL_law_983 : decode cL_law 983 = .ok (.iaload, 1) := di_46 nL_law (Eq.refl true) (Eq.refl true)
theorem dL_law_984 : decode cL_law 984 = .ok (.aload_n 0, 1) := di_42 nL_law (Eq.refl true) (Eq.refl true)
theorem dL_law_985 : decode cL_law 985 = .ok (.iload_n 3, 1) := di_29 nL_law (Eq.refl true) (Eq.refl true)
theorem dL_law_986 : decode cL_law 986 = .ok (.iconst 2, 1) := di_5 nL_law (Eq.refl true) (Eq.refl true)
theorem dL_law_987 : decode cL_law 987 = .ok (.iadd, 1) := di_96 nL_law (Eq.refl true) (Eq.refl true)
theorem dL_law_988 : decode cL_law 988 = .ok (.iaload, 1) := di_46 nL_law (Eq.refl true) (Eq.refl true)
theorem dL_law_989 : decode cL_law 989 = .ok (.aload_n 0, 1) := di_42 nL_law (Eq.refl true) (Eq.refl true)
theorem dL_law_990 : decode cL_law 990 = .ok (.iload_n 3, 1) := di_29 nL_law (Eq.refl true) (Eq.refl true)
theorem dL_law_991 : decode cL_law 991 = .ok (.iconst 3, 1) := di_6 nL_law (Eq.refl true) (Eq.refl true)
theorem dL_law_992 : decode cL_law 992 = .ok (.iadd, 1) := di_96 nL_law (Eq.refl true) (Eq.refl true)
theorem dL_law_993 : decode cL_law 993 = .ok (.iaload, 1) := di_46 nL_law (Eq.refl true) (Eq.refl true)
theorem dL_law_994 : decode cL_law 994 = .ok (.invokevirtual 108, 3) := di_182 nL_law (Eq.refl true) (Eq.refl true) (Eq.refl true)
theorem dL_law_997 : decode cL_law 997 = .ok (.pop, 1) := di_87 nL_law (Eq.refl true) (Eq.refl true)
theorem dL_law_998 : decode cL_law 998 = .ok (.goto 637, 3) := di_167 (x := 637) nL_law (Eq.refl true) (Eq.refl true) (Eq.refl true) rfl
theorem dL_law_1001 : decode cL_law 1001 = .ok (.aload_n 1, 1) := di_43 nL_law (Eq.refl true) (Eq.refl true)
theorem dL_law_1002 : decode cL_law 1002 = .ok (.aload_n 0, 1) := di_42 nL_law (Eq.refl true) (Eq.refl true)
theorem dL_law_1003 : decode cL_law 1003 = .ok (.iload_n 3, 1) := di_29 nL_law (Eq.refl true) (Eq.refl true)
theorem dL_law_1004 : decode cL_law 1004 = .ok (.iconst 1, 1) := di_4 nL_law (Eq.refl true) (Eq.refl true)
theorem dL_law_1005 : decode cL_law 1005 = .ok (.iadd, 1) := di_96 nL_law (Eq.refl true) (Eq.refl true)
theorem dL_law_1006 : decode cL_law 1006 = .ok (.iaload, 1) := di_46 nL_law (Eq.refl true) (Eq.refl true)
theorem dL_law_1007 : decode cL_law 1007 = .ok (.aload_n 0, 1) := di_42 nL_law (Eq.refl true) (Eq.refl true)
theorem dL_law_1008 : decode cL_law 1008 = .ok (.iload_n 3, 1) := di_29 nL_law (Eq.refl true) (Eq.refl true)
theorem dL_law_1009 : decode cL_law 1009 = .ok (.iconst 2, 1) := di_5 nL_law (Eq.refl true) (Eq.refl true)
theorem dL_law_1010 : decode cL_law 1010 = .ok (.iadd, 1) := di_96 nL_law (Eq.refl true) (Eq.refl true)
theorem dL_law_1011 : decode cL_law 1011 = .ok (.iaload, 1) := di_46 nL_law (Eq.refl true) (Eq.refl true)
theorem dL_law_1012 : decode cL_law 1012 = .ok (.aload_n 0, 1) := di_42 nL_law (Eq.refl true) (Eq.refl true)
theorem dL_law_1013 : decode cL_law 1013 = .ok (.iload_n 3, 1) := di_29 nL_law (Eq.refl true) (Eq.refl true)
theorem dL_law_1014 : decode cL_law 1014 = .ok (.iconst 3, 1) := di_6 nL_law (Eq.refl true) (Eq.refl true)
theorem dL_law_1015 : decode cL_law 1015 = .ok (.iadd, 1) := di_96 nL_law (Eq.refl true) (Eq.refl true)
theorem dL_law_1016 : decode cL_law 1016 = .ok (.iaload, 1) := di_46 nL_law (Eq.refl true) (Eq.refl true)
theorem dL_law_1017 : decode cL_law 1017 = .ok (.invokevirtual 109, 3) := di_182 nL_law (Eq.refl true) (Eq.refl true) (Eq.refl true)
theorem dL_law_1020 : decode cL_law 1020 = .ok (.pop, 1) := di_87 nL_law (Eq.refl true) (Eq.refl true)
theorem dL_law_1021 : decode cL_law 1021 = .ok (.aload_n 2, 1) := di_44 nL_law (Eq.refl true) (Eq.refl true)
theorem dL_law_1022 : decode cL_law 1022 = .ok (.aload_n 0, 1) := di_42 nL_law (Eq.refl true) (Eq.refl true)
theorem dL_law_1023 : decode cL_law 1023 = .ok (.iload_n 3, 1) := di_29 nL_law (Eq.refl true) (Eq.refl true)
theorem dL_law_1024 : decode cL_law 1024 = .ok (.iconst 1, 1) := di_4 nL_law (Eq.refl true) (Eq.refl true)
theorem dL_law_1025 : decode cL_law 1025 = .ok (.iadd, 1) := di_96 nL_law (Eq.refl true) (Eq.refl true)
theorem dL_law_1026 : decode cL_law 1026 = .ok (.iaload, 1) := di_46 nL_law (Eq.refl true) (Eq.refl true)
theorem dL_law_1027 : decode cL_law 1027 = .ok (.aload_n 0, 1) := di_42 nL_law (Eq.refl true) (Eq.refl true)
theorem dL_law_1028 : decode cL_law 1028 = .ok (.iload_n 3, 1) := di_29 nL_law (Eq.refl true) (Eq.refl true)
theorem dL_law_1029 : decode cL_law 1029 = .ok (.iconst 2, 1) := di_5 nL_law (Eq.refl true) (Eq.refl true)
theorem dL_law_1030 : decode cL_law 1030 = .ok (.iadd, 1) := di_96 nL_law (Eq.refl true) (Eq.refl true)
theorem dL_law_1031 : decode cL_law 1031 = .ok (.iaload, 1) := di_46 nL_law (Eq.refl true) (Eq.refl true)
theorem dL_law_1032 : decode cL_law 1032 = .ok (.aload_n 0, 1) := di_42 nL_law (Eq.refl true) (Eq.refl true)
theorem dL_law_1033 : decode cL_law 1033 = .ok (.iload_n 3, 1) := di_29 nL_law (Eq.refl true) (Eq.refl true)
theorem dL_law_1034 : decode cL_law 1034 = .ok (.iconst 3, 1) := di_6 nL_law (Eq.refl true) (Eq.refl true)
theorem dL_law_1035 : decode cL_law 1035 = .ok (.iadd, 1) := di_96 nL_law (Eq.refl true) (Eq.refl true)
theorem dL_law_1036 : decode cL_law 1036 = .ok (.iaload, 1) := di_46 nL_law (Eq.refl true) (Eq.refl true)
theorem dL_law_1037 : decode cL_law 1037 = .ok (.invokevirtual 112, 3) := di_182 nL_law (Eq.refl true) (Eq.refl true) (Eq.refl true)
theorem dL_law_1040 : decode cL_law 1040 = .ok (.pop, 1) := di_87 nL_law (Eq.refl true) (Eq.refl true)
theorem dL_law_1041 : decode cL_law 1041 = .ok (.goto 594, 3) := di_167 (x := 594) nL_law (Eq.refl true) (Eq.refl true) (Eq.refl true) rfl
theorem dL_law_1044 : decode cL_law 1044 = .ok (.aload_n 1, 1) := di_43 nL_law (Eq.refl true) (Eq.refl true)
theorem dL_law_1045 : decode cL_law 1045 = .ok (.aload_n 0, 1) := di_42 nL_law (Eq.refl true) (Eq.refl true)
theorem dL_law_1046 : decode cL_law 1046 = .ok (.iload_n 3, 1) := di_29 nL_law (Eq.refl true) (Eq.refl true)
theorem dL_law_1047 : decode cL_law 1047 = .ok (.iconst 1, 1) := di_4 nL_law (Eq.refl true) (Eq.refl true)
theorem dL_law_1048 : decode cL_law 1048 = .ok (.iadd, 1) := di_96 nL_law (Eq.refl true) (Eq.refl true)
theorem dL_law_1049 : decode cL_law 1049 = .ok (.iaload, 1) := di_46 nL_law (Eq.refl true) (Eq.refl true)
theorem dL_law_1050 : decode cL_law 1050 = .ok (.aload_n 0, 1) := di_42 nL_law (Eq.refl true) (Eq.refl true)
theorem dL_law_1051 : decode cL_law 1051 = .ok (.iload_n 3, 1) := di_29 nL_law (Eq.refl true) (Eq.refl true)
theorem dL_law_1052 : decode cL_law 1052 = .ok (.iconst 2, 1) := di_5 nL_law (Eq.refl true) (Eq.refl true)
theorem dL_law_1053 : decode cL_law 1053 = .ok (.iadd, 1) := di_96 nL_law (Eq.refl true) (Eq.refl true)
theorem dL_law_1054 : decode cL_law 1054 = .ok (.iaload, 1) := di_46 nL_law (Eq.refl true) (Eq.refl true)
theorem dL_law_1055 : decode cL_law 1055 = .ok (.aload_n 0, 1) := di_42 nL_law (Eq.refl true) (Eq.refl true)
theorem dL_law_1056 : decode cL_law 1056 = .ok (.iload_n 3, 1) := di_29 nL_law (Eq.refl true) (Eq.refl true)
theorem dL_law_1057 : decode cL_law 1057 = .ok (.iconst 3, 1) := di_6 nL_law (Eq.refl true) (Eq.refl true)
theorem dL_law_1058 : decode cL_law 1058 = .ok (.iadd, 1) := di_96 nL_law (Eq.refl true) (Eq.refl true)
theorem dL_law_1059 : decode cL_law 1059 = .ok (.iaload, 1) := di_46 nL_law (Eq.refl true) (Eq.refl true)
theorem dL_law_1060 : decode cL_law 1060 = .ok (.aload_n 0, 1) := di_42 nL_law (Eq.refl true) (Eq.refl true)
theorem dL_law_1061 : decode cL_law 1061 = .ok (.iload_n 3, 1) := di_29 nL_law (Eq.refl true) (Eq.refl true)
theorem dL_law_1062 : decode cL_law 1062 = .ok (.iconst 4, 1) := di_7 nL_law (Eq.refl true) (Eq.refl true)
theorem dL_law_1063 : decode cL_law 1063 = .ok (.iadd, 1) := di_96 nL_law (Eq.refl true) (Eq.refl true)
theorem dL_law_1064 : decode cL_law 1064 = .ok (.iaload, 1) := di_46 nL_law (Eq.refl true) (Eq.refl true)
theorem dL_law_1065 : decode cL_law 1065 = .ok (.invokevirtual 113, 3) := di_182 nL_law (Eq.refl true) (Eq.refl true) (Eq.refl true)
theorem dL_law_1068 : decode cL_law 1068 = .ok (.pop, 1) := di_87 nL_law (Eq.refl true) (Eq.refl true)
theorem dL_law_1069 : decode cL_law 1069 = .ok (.aload_n 2, 1) := di_44 nL_law (Eq.refl true) (Eq.refl true)
theorem dL_law_1070 : decode cL_law 1070 = .ok (.aload_n 0, 1) := di_42 nL_law (Eq.refl true) (Eq.refl true)
theorem dL_law_1071 : decode cL_law 1071 = .ok (.iload_n 3, 1) := di_29 nL_law (Eq.refl true) (Eq.refl true)
theorem dL_law_1072 : decode cL_law 1072 = .ok (.iconst 1, 1) := di_4 nL_law (Eq.refl true) (Eq.refl true)
theorem dL_law_1073 : decode cL_law 1073 = .ok (.iadd, 1) := di_96 nL_law (Eq.refl true) (Eq.refl true)
theorem dL_law_1074 : decode cL_law 1074 = .ok (.iaload, 1) := di_46 nL_law (Eq.refl true) (Eq.refl true)
theorem dL_law_1075 : decode cL_law 1075 = .ok (.aload_n 0, 1) := di_42 nL_law (Eq.refl true) (Eq.refl true)
theorem dL_law_1076 : decode cL_law 1076 = .ok (.iload_n 3, 1) := di_29 nL_law (Eq.refl true) (Eq.refl true)
theorem dL_law_1077 : decode cL_law 1077 = .ok (.iconst 2, 1) := di_5 nL_law (Eq.refl true) (Eq.refl true)
theorem dL_law_1078 : decode cL_law 1078 = .ok (.iadd, 1) := di_96 nL_law (Eq.refl true) (Eq.refl true)
theorem dL_law_1079 : decode cL_law 1079 = .ok (.iaload, 1) := di_46 nL_law (Eq.refl true) (Eq.refl true)
theorem dL_law_1080 : decode cL_law 1080 = .ok (.aload_n 0, 1) := di_42 nL_law (Eq.refl true) (Eq.refl true)
theorem dL_law_1081 : decode cL_law 1081 = .ok (.iload_n 3, 1) := di_29 nL_law (Eq.refl true) (Eq.refl true)
theorem dL_law_1082 : decode cL_law 1082 = .ok (.iconst 3, 1) := di_6 nL_law (Eq.refl true) (Eq.refl true)
theorem dL_law_1083 : decode cL_law 1083 = .ok (.iadd, 1) := di_96 nL_law (Eq.refl true) (Eq.refl true)
theorem dL_law_1084 : decode cL_law 1084 = .ok (.iaload, 1) := di_46 nL_law (Eq.refl true) (Eq.refl true)
theorem dL_law_1085 : decode cL_law 1085 = .ok (.aload_n 0, 1) := di_42 nL_law (Eq.refl true) (Eq.refl true)
theorem dL_law_1086 : decode cL_law 1086 = .ok (.iload_n 3, 1) := di_29 nL_law (Eq.refl true) (Eq.refl true)
theorem dL_law_1087 : decode cL_law 1087 = .ok (.iconst 4, 1) := di_7 nL_law (Eq.refl true) (Eq.refl true)
theorem dL_law_1088 : decode cL_law 1088 = .ok (.iadd, 1) := di_96 nL_law (Eq.refl true) (Eq.refl true)
theorem dL_law_1089 : decode cL_law 1089 = .ok (.iaload, 1) := di_46 nL_law (Eq.refl true) (Eq.refl true)
theorem dL_law_1090 : decode cL_law 1090 = .ok (.invokevirtual 117, 3) := di_182 nL_law (Eq.refl true) (Eq.refl true) (Eq.refl true)
theorem dL_law_1093 : decode cL_law 1093 = .ok (.pop, 1) := di_87 nL_law (Eq.refl true) (Eq.refl true)
theorem dL_law_1094 : decode cL_law 1094 = .ok (.goto 541, 3) := di_167 (x := 541) nL_law (Eq.refl true) (Eq.refl true) (Eq.refl true) rfl
theorem dL_law_1097 : decode cL_law 1097 = .ok (.aload_n 1, 1) := di_43 nL_law (Eq.refl true) (Eq.refl true)
theorem dL_law_1098 : decode cL_law 1098 = .ok (.aload_n 0, 1) := di_42 nL_law (Eq.refl true) (Eq.refl true)
theorem dL_law_1099 : decode cL_law 1099 = .ok (.iload_n 3, 1) := di_29 nL_law (Eq.refl true) (Eq.refl true)
theorem dL_law_1100 : decode cL_law 1100 = .ok (.iconst 1, 1) := di_4 nL_law (Eq.refl true) (Eq.refl true)
theorem dL_law_1101 : decode cL_law 1101 = .ok (.iadd, 1) := di_96 nL_law (Eq.refl true) (Eq.refl true)
theorem dL_law_1102 : decode cL_law 1102 = .ok (.iaload, 1) := di_46 nL_law (Eq.refl true) (Eq.refl true)
theorem dL_law_1103 : decode cL_law 1103 = .ok (.invokevirtual 118, 3) := di_182 nL_law (Eq.refl true) (Eq.refl true) (Eq.refl true)
theorem dL_law_1106 : decode cL_law 1106 = .ok (.pop, 1) := di_87 nL_law (Eq.refl true) (Eq.refl true)
theorem dL_law_1107 : decode cL_law 1107 = .ok (.aload_n 2, 1) := di_44 nL_law (Eq.refl true) (Eq.refl true)
theorem dL_law_1108 : decode cL_law 1108 = .ok (.aload_n 0, 1) := di_42 nL_law (Eq.refl true) (Eq.refl true)
theorem dL_law_1109 : decode cL_law 1109 = .ok (.iload_n 3, 1) := di_29 nL_law (Eq.refl true) (Eq.refl true)
theorem dL_law_1110 : decode cL_law 1110 = .ok (.iconst 1, 1) := di_4 nL_law (Eq.refl true) (Eq.refl true)
theorem dL_law_1111 : decode cL_law 1111 = .ok (.iadd, 1) := di_96 nL_law (Eq.refl true) (Eq.refl true)
theorem dL_law_1112 : decode cL_law 1112 = .ok (.iaload, 1) := di_46 nL_law (Eq.refl true) (Eq.refl true)
theorem dL_law_1113 : decode cL_law 1113 = .ok (.invokevirtual 121, 3) := di_182 nL_law (Eq.refl true) (Eq.refl true) (Eq.refl true)
theorem dL_law_1116 : decode cL_law 1116 = .ok (.pop, 1) := di_87 nL_law (Eq.refl true) (Eq.refl true)
theorem dL_law_1117 : decode cL_law 1117 = .ok (.goto 518, 3) := di_167 (x := 518) nL_law (Eq.refl true) (Eq.refl true) (Eq.refl true) rfl
theorem dL_law_1120 : decode cL_law 1120 = .ok (.aload_n 1, 1) := di_43 nL_law (Eq.refl true) (Eq.refl true)
theorem dL_law_1121 : decode cL_law 1121 = .ok (.aload_n 0, 1) := di_42 nL_law (Eq.refl true) (Eq.refl true)
theorem dL_law_1122 : decode cL_law 1122 = .ok (.iload_n 3, 1) := di_29 nL_law (Eq.refl true) (Eq.refl true)
theorem dL_law_1123 : decode cL_law 1123 = .ok (.iconst 1, 1) := di_4 nL_law (Eq.refl true) (Eq.refl true)
theorem dL_law_1124 : decode cL_law 1124 = .ok (.iadd, 1) := di_96 nL_law (Eq.refl true) (Eq.refl true)
theorem dL_law_1125 : decode cL_law 1125 = .ok (.iaload, 1) := di_46 nL_law (Eq.refl true) (Eq.refl true)
theorem dL_law_1126 : decode cL_law 1126 = .ok (.invokevirtual 122, 3) := di_182 nL_law (Eq.refl true) (Eq.refl true) (Eq.refl true)
theorem dL_law_1129 : decode cL_law 1129 = .ok (.pop, 1) := di_87 nL_law (Eq.refl true) (Eq.refl true)
theorem dL_law_1130 : decode cL_law 1130 = .ok (.aload_n 2, 1) := di_44 nL_law (Eq.refl true) (Eq.refl true)
theorem dL_law_1131 : decode cL_law 1131 = .ok (.aload_n 0, 1) := di_42 nL_law (Eq.refl true) (Eq.refl true)
theorem dL_law_1132 : decode cL_law 1132 = .ok (.iload_n 3, 1) := di_29 nL_law (Eq.refl true) (Eq.refl true)
theorem dL_law_1133 : decode cL_law 1133 = .ok (.iconst 1, 1) := di_4 nL_law (Eq.refl true) (Eq.refl true)
theorem dL_law_1134 : decode cL_law 1134 = .ok (.iadd, 1) := di_96 nL_law (Eq.refl true) (Eq.refl true)
theorem dL_law_1135 : decode cL_law 1135 = .ok (.iaload, 1) := di_46 nL_law (Eq.refl true) (Eq.refl true)
theorem dL_law_1136 : decode cL_law 1136 = .ok (.invokevirtual 125, 3) := di_182 nL_law (Eq.refl true) (Eq.refl true) (Eq.refl true)
theorem dL_law_1139 : decode cL_law 1139 = .ok (.pop, 1) := di_87 nL_law (Eq.refl true) (Eq.refl true)
theorem dL_law_1140 : decode cL_law 1140 = .ok (.goto 495, 3) := di_167 (x := 495) nL_law (Eq.refl true) (Eq.refl true) (Eq.refl true) rfl
theorem dL_law_1143 : decode cL_law 1143 = .ok (.aload_n 1, 1) := di_43 nL_law (Eq.refl true) (Eq.refl true)
theorem dL_law_1144 : decode cL_law 1144 = .ok (.aload_n 0, 1) := di_42 nL_law (Eq.refl true) (Eq.refl true)
theorem dL_law_1145 : decode cL_law 1145 = .ok (.iload_n 3, 1) := di_29 nL_law (Eq.refl true) (Eq.refl true)
theorem dL_law_1146 : decode cL_law 1146 = .ok (.iconst 1, 1) := di_4 nL_law (Eq.refl true) (Eq.refl true)
theorem dL_law_1147 : decode cL_law 1147 = .ok (.iadd, 1) := di_96 nL_law (Eq.refl true) (Eq.refl true)
theorem dL_law_1148 : decode cL_law 1148 = .ok (.iaload, 1) := di_46 nL_law (Eq.refl true) (Eq.refl true)
theorem dL_law_1149 : decode cL_law 1149 = .ok (.invokevirtual 126, 3) := di_182 nL_law (Eq.refl true) (Eq.refl true) (Eq.refl true)
theorem dL_law_1152 : decode cL_law 1152 = .ok (.pop, 1) := di_87 nL_law (Eq.refl true) (Eq.refl true)
theorem dL_law_1153 : decode cL_law 1153 = .ok (.aload_n 2, 1) := di_44 nL_law (Eq.refl true) (Eq.refl true)
theorem dL_law_1154 : decode cL_law 1154 = .ok (.aload_n 0, 1) := di_42 nL_law (Eq.refl true) (Eq.refl true)
theorem dL_law_1155 : decode cL_law 1155 = .ok (.iload_n 3, 1) := di_29 nL_law (Eq.refl true) (Eq.refl true)
theorem dL_law_1156 : decode cL_law 1156 = .ok (.iconst 1, 1) := di_4 nL_law (Eq.refl true) (Eq.refl true)
theorem dL_law_1157 : decode cL_law 1157 = .ok (.iadd, 1) := di_96 nL_law (Eq.refl true) (Eq.refl true)
theorem dL_law_1158 : decode cL_law 1158 = .ok (.iaload, 1) := di_46 nL_law (Eq.refl true) (Eq.refl true)
theorem dL_law_1159 : decode cL_law 1159 = .ok (.invokevirtual 129, 3) := di_182 nL_law (Eq.refl true) (Eq.refl true) (Eq.refl true)
theorem dL_law_1162 : decode cL_law 1162 = .ok (.pop, 1) := di_87 nL_law (Eq.refl true) (Eq.refl true)
theorem dL_law_1163 : decode cL_law 1163 = .ok (.goto 472, 3) := di_167 (x := 472) nL_law (Eq.refl true) (Eq.refl true) (Eq.refl true) rfl
theorem dL_law_1166 : decode cL_law 1166 = .ok (.aload_n 1, 1) := di_43 nL_law (Eq.refl true) (Eq.refl true)
theorem dL_law_1167 : decode cL_law 1167 = .ok (.aload_n 0, 1) := di_42 nL_law (Eq.refl true) (Eq.refl true)
theorem dL_law_1168 : decode cL_law 1168 = .ok (.iload_n 3, 1) := di_29 nL_law (Eq.refl true) (Eq.refl true)
theorem dL_law_1169 : decode cL_law 1169 = .ok (.iconst 1, 1) := di_4 nL_law (Eq.refl true) (Eq.refl true)
theorem dL_law_1170 : decode cL_law 1170 = .ok (.iadd, 1) := di_96 nL_law (Eq.refl true) (Eq.refl true)
theorem dL_law_1171 : decode cL_law 1171 = .ok (.iaload, 1) := di_46 nL_law (Eq.refl true) (Eq.refl true)
theorem dL_law_1172 : decode cL_law 1172 = .ok (.invokevirtual 130, 3) := di_182 nL_law (Eq.refl true) (Eq.refl true) (Eq.refl true)
theorem dL_law_1175 : decode cL_law 1175 = .ok (.pop, 1) := di_87 nL_law (Eq.refl true) (Eq.refl true)
theorem dL_law_1176 : decode cL_law 1176 = .ok (.aload_n 2, 1) := di_44 nL_law (Eq.refl true) (Eq.refl true)
theorem dL_law_1177 : decode cL_law 1177 = .ok (.aload_n 0, 1) := di_42 nL_law (Eq.refl true) (Eq.refl true)
theorem dL_law_1178 : decode cL_law 1178 = .ok (.iload_n 3, 1) := di_29 nL_law (Eq.refl true) (Eq.refl true)
theorem dL_law_1179 : decode cL_law 1179 = .ok (.iconst 1, 1) := di_4 nL_law (Eq.refl true) (Eq.refl true)
theorem dL_law_1180 : decode cL_law 1180 = .ok (.iadd, 1) := di_96 nL_law (Eq.refl true) (Eq.refl true)
theorem dL_law_1181 : decode cL_law 1181 = .ok (.iaload, 1) := di_46 nL_law (Eq.refl true) (Eq.refl true)
theorem dL_law_1182 : decode cL_law 1182 = .ok (.invokevirtual 133, 3) := di_182 nL_law (Eq.refl true) (Eq.refl true) (Eq.refl true)
theorem dL_law_1185 : decode cL_law 1185 = .ok (.pop, 1) := di_87 nL_law (Eq.refl true) (Eq.refl true)
theorem dL_law_1186 : decode cL_law 1186 = .ok (.goto 449, 3) := di_167 (x := 449) nL_law (Eq.refl true) (Eq.refl true) (Eq.refl true) rfl
theorem dL_law_1189 : decode cL_law 1189 = .ok (.aload_n 1, 1) := di_43 nL_law (Eq.refl true) (Eq.refl true)
theorem dL_law_1190 : decode cL_law 1190 = .ok (.aload_n 0, 1) := di_42 nL_law (Eq.refl true) (Eq.refl true)
theorem dL_law_1191 : decode cL_law 1191 = .ok (.iload_n 3, 1) := di_29 nL_law (Eq.refl true) (Eq.refl true)
theorem dL_law_1192 : decode cL_law 1192 = .ok (.iconst 1, 1) := di_4 nL_law (Eq.refl true) (Eq.refl true)
theorem dL_law_1193 : decode cL_law 1193 = .ok (.iadd, 1) := di_96 nL_law (Eq.refl true) (Eq.refl true)
theorem dL_law_1194 : decode cL_law 1194 = .ok (.iaload, 1) := di_46 nL_law (Eq.refl true) (Eq.refl true)
theorem dL_law_1195 : decode cL_law 1195 = .ok (.invokevirtual 134, 3) := di_182 nL_law (Eq.refl true) (Eq.refl true) (Eq.refl true)
theorem dL_law_1198 : decode cL_law 1198 = .ok (.pop, 1) := di_87 nL_law (Eq.refl true) (Eq.refl true)
theorem dL_law_1199 : decode cL_law 1199 = .ok (.aload_n 2, 1) := di_44 nL_law (Eq.refl true) (Eq.refl true)
theorem dL_law_1200 : decode cL_law 1200 = .ok (.aload_n 0, 1) := di_42 nL_law (Eq.refl true) (Eq.refl true)
theorem dL_law_1201 : decode cL_law 1201 = .ok (.iload_n 3, 1) := di_29 nL_law (Eq.refl true) (Eq.refl true)
theorem dL_law_1202 : decode cL_law 1202 = .ok (.iconst 1, 1) := di_4 nL_law (Eq.refl true) (Eq.refl true)
theorem dL_law_1203 : decode cL_law 1203 = .ok (.iadd, 1) := di_96 nL_law (Eq.refl true) (Eq.refl true)
theorem dL_law_1204 : decode cL_law 1204 = .ok (.iaload, 1) := di_46 nL_law (Eq.refl true) (Eq.refl true)
theorem dL_law_1205 : decode cL_law 1205 = .ok (.invokevirtual 137, 3) := di_182 nL_law (Eq.refl true) (Eq.refl true) (Eq.refl true)
theorem dL_law_1208 : decode cL_law 1208 = .ok (.pop, 1) := di_87 nL_law (Eq.refl true) (Eq.refl true)
theorem dL_law_1209 : decode cL_law 1209 = .ok (.goto 426, 3) := di_167 (x := 426) nL_law (Eq.refl true) (Eq.refl true) (Eq.refl true) rfl
theorem dL_law_1212 : decode cL_law 1212 = .ok (.aload_n 1, 1) := di_43 nL_law (Eq.refl true) (Eq.refl true)
theorem dL_law_1213 : decode cL_law 1213 = .ok (.invokevirtual 138, 3) := di_182 nL_law (Eq.refl true) (Eq.refl true) (Eq.refl true)
theorem dL_law_1216 : decode cL_law 1216 = .ok (.pop, 1) := di_87 nL_law (Eq.refl true) (Eq.refl true)
theorem dL_law_1217 : decode cL_law 1217 = .ok (.aload_n 2, 1) := di_44 nL_law (Eq.refl true) (Eq.refl true)
theorem dL_law_1218 : decode cL_law 1218 = .ok (.invokevirtual 141, 3) := di_182 nL_law (Eq.refl true) (Eq.refl true) (Eq.refl true)
theorem dL_law_1221 : decode cL_law 1221 = .ok (.pop, 1) := di_87 nL_law (Eq.refl true) (Eq.refl true)
theorem dL_law_1222 : decode cL_law 1222 = .ok (.goto 413, 3) := di_167 (x := 413) nL_law (Eq.refl true) (Eq.refl true) (Eq.refl true) rfl
theorem dL_law_1225 : decode cL_law 1225 = .ok (.aload_n 1, 1) := di_43 nL_law (Eq.refl true) (Eq.refl true)
theorem dL_law_1226 : decode cL_law 1226 = .ok (.aload_n 0, 1) := di_42 nL_law (Eq.refl true) (Eq.refl true)
theorem dL_law_1227 : decode cL_law 1227 = .ok (.iload_n 3, 1) := di_29 nL_law (Eq.refl true) (Eq.refl true)
theorem dL_law_1228 : decode cL_law 1228 = .ok (.iconst 1, 1) := di_4 nL_law (Eq.refl true) (Eq.refl true)
theorem dL_law_1229 : decode cL_law 1229 = .ok (.iadd, 1) := di_96 nL_law (Eq.refl true) (Eq.refl true)
theorem dL_law_1230 : decode cL_law 1230 = .ok (.iaload, 1) := di_46 nL_law (Eq.refl true) (Eq.refl true)
theorem dL_law_1231 : decode cL_law 1231 = .ok (.aload_n 0, 1) := di_42 nL_law (Eq.refl true) (Eq.refl true)
theorem dL_law_1232 : decode cL_law 1232 = .ok (.iload_n 3, 1) := di_29 nL_law (Eq.refl true) (Eq.refl true)
theorem dL_law_1233 : decode cL_law 1233 = .ok (.iconst 2, 1) := di_5 nL_law (Eq.refl true) (Eq.refl true)
theorem dL_law_1234 : decode cL_law 1234 = .ok (.iadd, 1) := di_96 nL_law (Eq.refl true) (Eq.refl true)
theorem dL_law_1235 : decode cL_law 1235 = .ok (.iaload, 1) := di_46 nL_law (Eq.refl true) (Eq.refl true)
theorem dL_law_1236 : decode cL_law 1236 = .ok (.aload_n 0, 1) := di_42 nL_law (Eq.refl true) (Eq.refl true)
theorem dL_law_1237 : decode cL_law 1237 = .ok (.iload_n 3, 1) := di_29 nL_law (Eq.refl true) (Eq.refl true)
theorem dL_law_1238 : decode cL_law 1238 = .ok (.iconst 3, 1) := di_6 nL_law (Eq.refl true) (Eq.refl true)
theorem dL_law_1239 : decode cL_law 1239 = .ok (.iadd, 1) := di_96 nL_law (Eq.refl true) (Eq.refl true)
theorem dL_law_1240 : decode cL_law 1240 = .ok (.iaload, 1) := di_46 nL_law (Eq.refl true) (Eq.refl true)
theorem dL_law_1241 : decode cL_law 1241 = .ok (.invokevirtual 142, 3) := di_182 nL_law (Eq.refl true) (Eq.refl true) (Eq.refl true)
theorem dL_law_1244 : decode cL_law 1244 = .ok (.pop, 1) := di_87 nL_law (Eq.refl true) (Eq.refl true)
theorem dL_law_1245 : decode cL_law 1245 = .ok (.aload_n 2, 1) := di_44 nL_law (Eq.refl true) (Eq.refl true)
theorem dL_law_1246 : decode cL_law 1246 = .ok (.aload_n 0, 1) := di_42 nL_law (Eq.refl true) (Eq.refl true)
theorem dL_law_1247 : decode cL_law 1247 = .ok (.iload_n 3, 1) := di_29 nL_law (Eq.refl true) (Eq.refl true)
theorem dL_law_1248 : decode cL_law 1248 = .ok (.iconst 1, 1) := di_4 nL_law (Eq.refl true) (Eq.refl true)
theorem dL_law_1249 : decode cL_law 1249 = .ok (.iadd, 1) := di_96 nL_law (Eq.refl true) (Eq.refl true)
theorem dL_law_1250 : decode cL_law 1250 = .ok (.iaload, 1) := di_46 nL_law (Eq.refl true) (Eq.refl true)
theorem dL_law_1251 : decode cL_law 1251 = .ok (.aload_n 0, 1) := di_42 nL_law (Eq.refl true) (Eq.refl true)
theorem dL_law_1252 : decode cL_law 1252 = .ok (.iload_n 3, 1) := di_29 nL_law (Eq.refl true) (Eq.refl true)
theorem dL_law_1253 : decode cL_law 1253 = .ok (.iconst 2, 1) := di_5 nL_law (Eq.refl true) (Eq.refl true)
theorem dL_law_1254 : decode cL_law 1254 = .ok (.iadd, 1) := di_96 nL_law (Eq.refl true) (Eq.refl true)
theorem dL_law_1255 : decode cL_law 1255 = .ok (.iaload, 1) := di_46 nL_law (Eq.refl true) (Eq.refl true)
theorem dL_law_1256 : decode cL_law 1256 = .ok (.aload_n 0, 1) := di_42 nL_law (Eq.refl true) (Eq.refl true)
theorem dL_law_1257 : decode cL_law 1257 = .ok (.iload_n 3, 1) := di_29 nL_law (Eq.refl true) (Eq.refl true)
theorem dL_law_1258 : decode cL_law 1258 = .ok (.iconst 3, 1) := di_6 nL_law (Eq.refl true) (Eq.refl true)
theorem dL_law_1259 : decode cL_law 1259 = .ok (.iadd, 1) := di_96 nL_law (Eq.refl true) (Eq.refl true)
theorem dL_law_1260 : decode cL_law 1260 = .ok (.iaload, 1) := di_46 nL_law (Eq.refl true) (Eq.refl true)
theorem dL_law_1261 : decode cL_law 1261 = .ok (.invokevirtual 145, 3) := di_182 nL_law (Eq.refl true) (Eq.refl true) (Eq.refl true)
theorem dL_law_1264 : decode cL_law 1264 = .ok (.pop, 1) := di_87 nL_law (Eq.refl true) (Eq.refl true)
theorem dL_law_1265 : decode cL_law 1265 = .ok (.goto 370, 3) := di_167 (x := 370) nL_law (Eq.refl true) (Eq.refl true) (Eq.refl true) rfl
theorem dL_law_1268 : decode cL_law 1268 = .ok (.aload_n 1, 1) := di_43 nL_law (Eq.refl true) (Eq.refl true)
theorem dL_law_1269 : decode cL_law 1269 = .ok (.aload_n 0, 1) := di_42 nL_law (Eq.refl true) (Eq.refl true)
theorem dL_law_1270 : decode cL_law 1270 = .ok (.iload_n 3, 1) := di_29 nL_law (Eq.refl true) (Eq.refl true)
theorem dL_law_1271 : decode cL_law 1271 = .ok (.iconst 1, 1) := di_4 nL_law (Eq.refl true) (Eq.refl true)
theorem dL_law_1272 : decode cL_law 1272 = .ok (.iadd, 1) := di_96 nL_law (Eq.refl true) (Eq.refl true)
theorem dL_law_1273 : decode cL_law 1273 = .ok (.iaload, 1) := di_46 nL_law (Eq.refl true) (Eq.refl true)
theorem dL_law_1274 : decode cL_law 1274 = .ok (.invokevirtual 146, 3) := di_182 nL_law (Eq.refl true) (Eq.refl true) (Eq.refl true)
theorem dL_law_1277 : decode cL_law 1277 = .ok (.pop, 1) := di_87 nL_law (Eq.refl true) (Eq.refl true)
theorem dL_law_1278 : decode cL_law 1278 = .ok (.aload_n 2, 1) := di_44 nL_law (Eq.refl true) (Eq.refl true)
theorem dL_law_1279 : decode cL_law 1279 = .ok (.aload_n 0, 1) := di_42 nL_law (Eq.refl true) (Eq.refl true)
theorem dL_law_1280 : decode cL_law 1280 = .ok (.iload_n 3, 1) := di_29 nL_law (Eq.refl true) (Eq.refl true)
theorem dL_law_1281 : decode cL_law 1281 = .ok (.iconst 1, 1) := di_4 nL_law (Eq.refl true) (Eq.refl true)
theorem dL_law_1282 : decode cL_law 1282 = .ok (.iadd, 1) := di_96 nL_law (Eq.refl true) (Eq.refl true)
theorem dL_law_1283 : decode cL_law 1283 = .ok (.iaload, 1) := di_46 nL_law (Eq.refl true) (Eq.refl true)
theorem dL_law_1284 : decode cL_law 1284 = .ok (.invokevirtual 149, 3) := di_182 nL_law (Eq.refl true) (Eq.refl true) (Eq.refl true)
theorem dL_law_1287 : decode cL_law 1287 = .ok (.pop, 1) := di_87 nL_law (Eq.refl true) (Eq.refl true)
theorem dL_law_1288 : decode cL_law 1288 = .ok (.goto 347, 3) := di_167 (x := 347) nL_law (Eq.refl true) (Eq.refl true) (Eq.refl true) rfl
theorem dL_law_1291 : decode cL_law 1291 = .ok (.aload_n 1, 1) := di_43 nL_law (Eq.refl true) (Eq.refl true)
theorem dL_law_1292 : decode cL_law 1292 = .ok (.aload_n 0, 1) := di_42 nL_law (Eq.refl true) (Eq.refl true)
theorem dL_law_1293 : decode cL_law 1293 = .ok (.iload_n 3, 1) := di_29 nL_law (Eq.refl true) (Eq.refl true)
theorem dL_law_1294 : decode cL_law 1294 = .ok (.iconst 1, 1) := di_4 nL_law (Eq.refl true) (Eq.refl true)
theorem dL_law_1295 : decode cL_law 1295 = .ok (.iadd, 1) := di_96 nL_law (Eq.refl true) (Eq.refl true)
theorem dL_law_1296 : decode cL_law 1296 = .ok (.iaload, 1) := di_46 nL_law (Eq.refl true) (Eq.refl true)
theorem dL_law_1297 : decode cL_law 1297 = .ok (.aload_n 0, 1) := di_42 nL_law (Eq.refl true) (Eq.refl true)
theorem dL_law_1298 : decode cL_law 1298 = .ok (.iload_n 3, 1) := di_29 nL_law (Eq.refl true) (Eq.refl true)
theorem dL_law_1299 : decode cL_law 1299 = .ok (.iconst 2, 1) := di_5 nL_law (Eq.refl true) (Eq.refl true)
theorem dL_law_1300 : decode cL_law 1300 = .ok (.iadd, 1) := di_96 nL_law (Eq.refl true) (Eq.refl true)
theorem dL_law_1301 : decode cL_law 1301 = .ok (.iaload, 1) := di_46 nL_law (Eq.refl true) (Eq.refl true)
theorem dL_law_1302 : decode cL_law 1302 = .ok (.invokevirtual 150, 3) := di_182 nL_law (Eq.refl true) (Eq.refl true) (Eq.refl true)
theorem dL_law_1305 : decode cL_law 1305 = .ok (.pop, 1) := di_87 nL_law (Eq.refl true) (Eq.refl true)
theorem dL_law_1306 : decode cL_law 1306 = .ok (.aload_n 2, 1) := di_44 nL_law (Eq.refl true) (Eq.refl true)
theorem dL_law_1307 : decode cL_law 1307 = .ok (.aload_n 0, 1) := di_42 nL_law (Eq.refl true) (Eq.refl true)
theorem dL_law_1308 : decode cL_law 1308 = .ok (.iload_n 3, 1) := di_29 nL_law (Eq.refl true) (Eq.refl true)
theorem dL_law_1309 : decode cL_law 1309 = .ok (.iconst 1, 1) := di_4 nL_law (Eq.refl true) (Eq.refl true)
theorem dL_law_1310 : decode cL_law 1310 = .ok (.iadd, 1) := di_96 nL_law (Eq.refl true) (Eq.refl true)
theorem dL_law_1311 : decode cL_law 1311 = .ok (.iaload, 1) := di_46 nL_law (Eq.refl true) (Eq.refl true)
theorem dL_law_1312 : decode cL_law 1312 = .ok (.aload_n 0, 1) := di_42 nL_law (Eq.refl true) (Eq.refl true)
theorem dL_law_1313 : decode cL_law 1313 = .ok (.iload_n 3, 1) := di_29 nL_law (Eq.refl true) (Eq.refl true)
theorem dL_law_1314 : decode cL_law 1314 = .ok (.iconst 2, 1) := di_5 nL_law (Eq.refl true) (Eq.refl true)
theorem dL_law_1315 : decode cL_law 1315 = .ok (.iadd, 1) := di_96 nL_law (Eq.refl true) (Eq.refl true)
theorem dL_law_1316 : decode cL_law 1316 = .ok (.iaload, 1) := di_46 nL_law (Eq.refl true) (Eq.refl true)
theorem dL_law_1317 : decode cL_law 1317 = .ok (.invokevirtual 153, 3) := di_182 nL_law (Eq.refl true) (Eq.refl true) (Eq.refl true)
theorem dL_law_1320 : decode cL_law 1320 = .ok (.pop, 1) := di_87 nL_law (Eq.refl true) (Eq.refl true)
theorem dL_law_1321 : decode cL_law 1321 = .ok (.goto 314, 3) := di_167 (x := 314) nL_law (Eq.refl true) (Eq.refl true) (Eq.refl true) rfl
theorem dL_law_1324 : decode cL_law 1324 = .ok (.aload_n 1, 1) := di_43 nL_law (Eq.refl true) (Eq.refl true)
theorem dL_law_1325 : decode cL_law 1325 = .ok (.aload_n 0, 1) := di_42 nL_law (Eq.refl true) (Eq.refl true)
theorem dL_law_1326 : decode cL_law 1326 = .ok (.iload_n 3, 1) := di_29 nL_law (Eq.refl true) (Eq.refl true)
theorem dL_law_1327 : decode cL_law 1327 = .ok (.iconst 1, 1) := di_4 nL_law (Eq.refl true) (Eq.refl true)
theorem dL_law_1328 : decode cL_law 1328 = .ok (.iadd, 1) := di_96 nL_law (Eq.refl true) (Eq.refl true)
theorem dL_law_1329 : decode cL_law 1329 = .ok (.iaload, 1) := di_46 nL_law (Eq.refl true) (Eq.refl true)
theorem dL_law_1330 : decode cL_law 1330 = .ok (.aload_n 0, 1) := di_42 nL_law (Eq.refl true) (Eq.refl true)
theorem dL_law_1331 : decode cL_law 1331 = .ok (.iload_n 3, 1) := di_29 nL_law (Eq.refl true) (Eq.refl true)
theorem dL_law_1332 : decode cL_law 1332 = .ok (.iconst 2, 1) := di_5 nL_law (Eq.refl true) (Eq.refl true)
theorem dL_law_1333 : decode cL_law 1333 = .ok (.iadd, 1) := di_96 nL_law (Eq.refl true) (Eq.refl true)
theorem dL_law_1334 : decode cL_law 1334 = .ok (.iaload, 1) := di_46 nL_law (Eq.refl true) (Eq.refl true)
theorem dL_law_1335 : decode cL_law 1335 = .ok (.aload_n 0, 1) := di_42 nL_law (Eq.refl true) (Eq.refl true)
theorem dL_law_1336 : decode cL_law 1336 = .ok (.iload_n 3, 1) := di_29 nL_law (Eq.refl true) (Eq.refl true)
theorem dL_law_1337 : decode cL_law 1337 = .ok (.iconst 3, 1) := di_6 nL_law (Eq.refl true) (Eq.refl true)
theorem dL_law_1338 : decode cL_law 1338 = .ok (.iadd, 1) := di_96 nL_law (Eq.refl true) (Eq.refl true)
theorem dL_law_1339 : decode cL_law 1339 = .ok (.iaload, 1) := di_46 nL_law (Eq.refl true) (Eq.refl true)
theorem dL_law_1340 : decode cL_law 1340 = .ok (.invokevirtual 154, 3) := di_182 nL_law (Eq.refl true) (Eq.refl true) (Eq.refl true)
theorem dL_law_1343 : decode cL_law 1343 = .ok (.pop, 1) := di_87 nL_law (Eq.refl true) (Eq.refl true)
theorem dL_law_1344 : decode cL_law 1344 = .ok (.aload_n 2, 1) := di_44 nL_law (Eq.refl true) (Eq.refl true)
theorem dL_law_1345 : decode cL_law 1345 = .ok (.aload_n 0, 1) := di_42 nL_law (Eq.refl true) (Eq.refl true)
theorem dL_law_1346 : decode cL_law 1346 = .ok (.iload_n 3, 1) := di_29 nL_law (Eq.refl true) (Eq.refl true)
theorem dL_law_1347 : decode cL_law 1347 = .ok (.iconst 1, 1) := di_4 nL_law (Eq.refl true) (Eq.refl true)
theorem dL_law_1348 : decode cL_law 1348 = .ok (.iadd, 1) := di_96 nL_law (Eq.refl true) (Eq.refl true)
theorem dL_law_1349 : decode cL_law 1349 = .ok (.iaload, 1) := di_46 nL_law (Eq.refl true) (Eq.refl true)
theorem dL_law_1350 : decode cL_law 1350 = .ok (.aload_n 0, 1) := di_42 nL_law (Eq.refl true) (Eq.refl true)
theorem dL_law_1351 : decode cL_law 1351 = .ok (.iload_n 3, 1) := di_29 nL_law (Eq.refl true) (Eq.refl true)
theorem dL_law_1352 : decode cL_law 1352 = .ok (.iconst 2, 1) := di_5 nL_law (Eq.refl true) (Eq.refl true)
theorem dL_law_1353 : decode cL_law 1353 = .ok (.iadd, 1) := di_96 nL_law (Eq.refl true) (Eq.refl true)
theorem dL_law_1354 : decode cL_law 1354 = .ok (.iaload, 1) := di_46 nL_law (Eq.refl true) (Eq.refl true)
theorem dL_law_1355 : decode cL_law 1355 = .ok (.aload_n 0, 1) := di_42 nL_law (Eq.refl true) (Eq.refl true)
theorem dL_law_1356 : decode cL_law 1356 = .ok (.iload_n 3, 1) := di_29 nL_law (Eq.refl true) (Eq.refl true)
theorem dL_law_1357 : decode cL_law 1357 = .ok (.iconst 3, 1) := di_6 nL_law (Eq.refl true) (Eq.refl true)
theorem dL_law_1358 : decode cL_law 1358 = .ok (.iadd, 1) := di_96 nL_law (Eq.refl true) (Eq.refl true)
theorem dL_law_1359 : decode cL_law 1359 = .ok (.iaload, 1) := di_46 nL_law (Eq.refl true) (Eq.refl true)
theorem dL_law_1360 : decode cL_law 1360 = .ok (.invokevirtual 157, 3) := di_182 nL_law (Eq.refl true) (Eq.refl true) (Eq.refl true)
theorem dL_law_1363 : decode cL_law 1363 = .ok (.pop, 1) := di_87 nL_law (Eq.refl true) (Eq.refl true)
theorem dL_law_1364 : decode cL_law 1364 = .ok (.goto 271, 3) := di_167 (x := 271) nL_law (Eq.refl true) (Eq.refl true) (Eq.refl true) rfl
theorem dL_law_1367 : decode cL_law 1367 = .ok (.aload_n 1, 1) := di_43 nL_law (Eq.refl true) (Eq.refl true)
theorem dL_law_1368 : decode cL_law 1368 = .ok (.aload_n 0, 1) := di_42 nL_law (Eq.refl true) (Eq.refl true)
theorem dL_law_1369 : decode cL_law 1369 = .ok (.iload_n 3, 1) := di_29 nL_law (Eq.refl true) (Eq.refl true)
theorem dL_law_1370 : decode cL_law 1370 = .ok (.iconst 1, 1) := di_4 nL_law (Eq.refl true) (Eq.refl true)
theorem dL_law_1371 : decode cL_law 1371 = .ok (.iadd, 1) := di_96 nL_law (Eq.refl true) (Eq.refl true)
theorem dL_law_1372 : decode cL_law 1372 = .ok (.iaload, 1) := di_46 nL_law (Eq.refl true) (Eq.refl true)
theorem dL_law_1373 : decode cL_law 1373 = .ok (.aload_n 0, 1) := di_42 nL_law (Eq.refl true) (Eq.refl true)
theorem dL_law_1374 : decode cL_law 1374 = .ok (.iload_n 3, 1) := di_29 nL_law (Eq.refl true) (Eq.refl true)
theorem dL_law_1375 : decode cL_law 1375 = .ok (.iconst 2, 1) := di_5 nL_law (Eq.refl true) (Eq.refl true)
theorem dL_law_1376 : decode cL_law 1376 = .ok (.iadd, 1) := di_96 nL_law (Eq.refl true) (Eq.refl true)
theorem dL_law_1377 : decode cL_law 1377 = .ok (.iaload, 1) := di_46 nL_law (Eq.refl true) (Eq.refl true)
theorem dL_law_1378 : decode cL_law 1378 = .ok (.aload_n 0, 1) := di_42 nL_law (Eq.refl true) (Eq.refl true)
theorem dL_law_1379 : decode cL_law 1379 = .ok (.iload_n 3, 1) := di_29 nL_law (Eq.refl true) (Eq.refl true)
theorem dL_law_1380 : decode cL_law 1380 = .ok (.iconst 3, 1) := di_6 nL_law (Eq.refl true) (Eq.refl true)
theorem dL_law_1381 : decode cL_law 1381 = .ok (.iadd, 1) := di_96 nL_law (Eq.refl true) (Eq.refl true)
theorem dL_law_1382 : decode cL_law 1382 = .ok (.iaload, 1) := di_46 nL_law (Eq.refl true) (Eq.refl true)
theorem dL_law_1383 : decode cL_law 1383 = .ok (.i2l, 1) := di_133 nL_law (Eq.refl true) (Eq.refl true)
theorem dL_law_1384 : decode cL_law 1384 = .ok (.bipush 32, 2) := di_16 (x := 32) nL_law (Eq.refl true) (Eq.refl true) rfl
theorem dL_law_1386 : decode cL_law 1386 = .ok (.lshl, 1) := di_121 nL_law (Eq.refl true) (Eq.refl true)
theorem dL_law_1387 : decode cL_law 1387 = .ok (.aload_n 0, 1) := di_42 nL_law (Eq.refl true) (Eq.refl true)
theorem dL_law_1388 : decode cL_law 1388 = .ok (.iload_n 3, 1) := di_29 nL_law (Eq.refl true) (Eq.refl true)
theorem dL_law_1389 : decode cL_law 1389 = .ok (.iconst 4, 1) := di_7 nL_law (Eq.refl true) (Eq.refl true)
theorem dL_law_1390 : decode cL_law 1390 = .ok (.iadd, 1) := di_96 nL_law (Eq.refl true) (Eq.refl true)
theorem dL_law_1391 : decode cL_law 1391 = .ok (.iaload, 1) := di_46 nL_law (Eq.refl true) (Eq.refl true)
theorem dL_law_1392 : decode cL_law 1392 = .ok (.i2l, 1) := di_133 nL_law (Eq.refl true) (Eq.refl true)
theorem dL_law_1393 : decode cL_law 1393 = .ok (.ldc2_w 158, 3) := di_20 nL_law (Eq.refl true) (Eq.refl true) (Eq.refl true)
theorem dL_law_1396 : decode cL_law 1396 = .ok (.land, 1) := di_127 nL_law (Eq.refl true) (Eq.refl true)
theorem dL_law_1397 : decode cL_law 1397 = .ok (.lor, 1) := di_129 nL_law (Eq.refl true) (Eq.refl true)
theorem dL_law_1398 : decode cL_law 1398 = .ok (.invokevirtual 160, 3) := di_182 nL_law (Eq.refl true) (Eq.refl true) (Eq.refl true)
theorem dL_law_1401 : decode cL_law 1401 = .ok (.pop, 1) := di_87 nL_law (Eq.refl true) (Eq.refl true)
theorem dL_law_1402 : decode cL_law 1402 = .ok (.aload_n 2, 1) := di_44 nL_law (Eq.refl true) (Eq.refl true)
theorem dL_law_1403 : decode cL_law 1403 = .ok (.aload_n 0, 1) := di_42 nL_law (Eq.refl true) (Eq.refl true)
theorem dL_law_1404 : decode cL_law 1404 = .ok (.iload_n 3, 1) := di_29 nL_law (Eq.refl true) (Eq.refl true)
theorem dL_law_1405 : decode cL_law 1405 = .ok (.iconst 1, 1) := di_4 nL_law (Eq.refl true) (Eq.refl true)
theorem dL_law_1406 : decode cL_law 1406 = .ok (.iadd, 1) := di_96 nL_law (Eq.refl true) (Eq.refl true)
theorem dL_law_1407 : decode cL_law 1407 = .ok (.iaload, 1) := di_46 nL_law (Eq.refl true) (Eq.refl true)
theorem dL_law_1408 : decode cL_law 1408 = .ok (.aload_n 0, 1) := di_42 nL_law (Eq.refl true) (Eq.refl true)
theorem dL_law_1409 : decode cL_law 1409 = .ok (.iload_n 3, 1) := di_29 nL_law (Eq.refl true) (Eq.refl true)
theorem dL_law_1410 : decode cL_law 1410 = .ok (.iconst 2, 1) := di_5 nL_law (Eq.refl true) (Eq.refl true)
theorem dL_law_1411 : decode cL_law 1411 = .ok (.iadd, 1) := di_96 nL_law (Eq.refl true) (Eq.refl true)
theorem dL_law_1412 : decode cL_law 1412 = .ok (.iaload, 1) := di_46 nL_law (Eq.refl true) (Eq.refl true)
theorem dL_law_1413 : decode cL_law 1413 = .ok (.aload_n 0, 1) := di_42 nL_law (Eq.refl true) (Eq.refl true)
theorem dL_law_1414 : decode cL_law 1414 = .ok (.iload_n 3, 1) := di_29 nL_law (Eq.refl true) (Eq.refl true)
theorem dL_law_1415 : decode cL_law 1415 = .ok (.iconst 3, 1) := di_6 nL_law (Eq.refl true) (Eq.refl true)
theorem dL_law_1416 : decode cL_law 1416 = .ok (.iadd, 1) := di_96 nL_law (Eq.refl true) (Eq.refl true)
theorem dL_law_1417 : decode cL_law 1417 = .ok (.iaload, 1) := di_46 nL_law (Eq.refl true) (Eq.refl true)
theorem dL_law_1418 : decode cL_law 1418 = .ok (.i2l, 1) := di_133 nL_law (Eq.refl true) (Eq.refl true)
theorem dL_law_1419 : decode cL_law 1419 = .ok (.bipush 32, 2) := di_16 (x := 32) nL_law (Eq.refl true) (Eq.refl true) rfl
theorem dL_law_1421 : decode cL_law 1421 = .ok (.lshl, 1) := di_121 nL_law (Eq.refl true) (Eq.refl true)
theorem dL_law_1422 : decode cL_law 1422 = .ok (.aload_n 0, 1) := di_42 nL_law (Eq.refl true) (Eq.refl true)
theorem dL_law_1423 : decode cL_law 1423 = .ok (.iload_n 3, 1) := di_29 nL_law (Eq.refl true) (Eq.refl true)
theorem dL_law_1424 : decode cL_law 1424 = .ok (.iconst 4, 1) := di_7 nL_law (Eq.refl true) (Eq.refl true)
theorem dL_law_1425 : decode cL_law 1425 = .ok (.iadd, 1) := di_96 nL_law (Eq.refl true) (Eq.refl true)
theorem dL_law_1426 : decode cL_law 1426 = .ok (.iaload, 1) := di_46 nL_law (Eq.refl true) (Eq.refl true)
theorem dL_law_1427 : decode cL_law 1427 = .ok (.i2l, 1) := di_133 nL_law (Eq.refl true) (Eq.refl true)
theorem dL_law_1428 : decode cL_law 1428 = .ok (.ldc2_w 158, 3) := di_20 nL_law (Eq.refl true) (Eq.refl true) (Eq.refl true)
theorem dL_law_1431 : decode cL_law 1431 = .ok (.land, 1) := di_127 nL_law (Eq.refl true) (Eq.refl true)
theorem dL_law_1432 : decode cL_law 1432 = .ok (.lor, 1) := di_129 nL_law (Eq.refl true) (Eq.refl true)
theorem dL_law_1433 : decode cL_law 1433 = .ok (.invokevirtual 164, 3) := di_182 nL_law (Eq.refl true) (Eq.refl true) (Eq.refl true)
theorem dL_law_1436 : decode cL_law 1436 = .ok (.pop, 1) := di_87 nL_law (Eq.refl true) (Eq.refl true)
theorem dL_law_1437 : decode cL_law 1437 = .ok (.goto 198, 3) := di_167 (x := 198) nL_law (Eq.refl true) (Eq.refl true) (Eq.refl true) rfl
theorem dL_law_1440 : decode cL_law 1440 = .ok (.aload_n 1, 1) := di_43 nL_law (Eq.refl true) (Eq.refl true)
theorem dL_law_1441 : decode cL_law 1441 = .ok (.aload_n 0, 1) := di_42 nL_law (Eq.refl true) (Eq.refl true)
theorem dL_law_1442 : decode cL_law 1442 = .ok (.iload_n 3, 1) := di_29 nL_law (Eq.refl true) (Eq.refl true)
theorem dL_law_1443 : decode cL_law 1443 = .ok (.iconst 1, 1) := di_4 nL_law (Eq.refl true) (Eq.refl true)
theorem dL_law_1444 : decode cL_law 1444 = .ok (.iadd, 1) := di_96 nL_law (Eq.refl true) (Eq.refl true)
theorem dL_law_1445 : decode cL_law 1445 = .ok (.iaload, 1) := di_46 nL_law (Eq.refl true) (Eq.refl true)
theorem dL_law_1446 : decode cL_law 1446 = .ok (.aload_n 0, 1) := di_42 nL_law (Eq.refl true) (Eq.refl true)
theorem dL_law_1447 : decode cL_law 1447 = .ok (.iload_n 3, 1) := di_29 nL_law (Eq.refl true) (Eq.refl true)
theorem dL_law_1448 : decode cL_law 1448 = .ok (.iconst 2, 1) := di_5 nL_law (Eq.refl true) (Eq.refl true)
theorem dL_law_1449 : decode cL_law 1449 = .ok (.iadd, 1) := di_96 nL_law (Eq.refl true) (Eq.refl true)
theorem dL_law_1450 : decode cL_law 1450 = .ok (.iaload, 1) := di_46 nL_law (Eq.refl true) (Eq.refl true)
theorem dL_law_1451 : decode cL_law 1451 = .ok (.invokevirtual 165, 3) := di_182 nL_law (Eq.refl true) (Eq.refl true) (Eq.refl true)
theorem dL_law_1454 : decode cL_law 1454 = .ok (.pop2, 1) := di_88 nL_law (Eq.refl true) (Eq.refl true)
theorem dL_law_1455 : decode cL_law 1455 = .ok (.aload_n 2, 1) := di_44 nL_law (Eq.refl true) (Eq.refl true)
theorem dL_law_1456 : decode cL_law 1456 = .ok (.aload_n 0, 1) := di_42 nL_law (Eq.refl true) (Eq.refl true)
theorem dL_law_1457 : decode cL_law 1457 = .ok (.iload_n 3, 1) := di_29 nL_law (Eq.refl true) (Eq.refl true)
theorem dL_law_1458 : decode cL_law 1458 = .ok (.iconst 1, 1) := di_4 nL_law (Eq.refl true) (Eq.refl true)
theorem dL_law_1459 : decode cL_law 1459 = .ok (.iadd, 1) := di_96 nL_law (Eq.refl true) (Eq.refl true)
theorem dL_law_1460 : decode cL_law 1460 = .ok (.iaload, 1) := di_46 nL_law (Eq.refl true) (Eq.refl true)
theorem dL_law_1461 : decode cL_law 1461 = .ok (.aload_n 0, 1) := di_42 nL_law (Eq.refl true) (Eq.refl true)
theorem dL_law_1462 : decode cL_law 1462 = .ok (.iload_n 3, 1) := di_29 nL_law (Eq.refl true) (Eq.refl true)
theorem dL_law_1463 : decode cL_law 1463 = .ok (.iconst 2, 1) := di_5 nL_law (Eq.refl true) (Eq.refl true)
theorem dL_law_1464 : decode cL_law 1464 = .ok (.iadd, 1) := di_96 nL_law (Eq.refl true) (Eq.refl true)
theorem dL_law_1465 : decode cL_law 1465 = .ok (.iaload, 1) := di_46 nL_law (Eq.refl true) (Eq.refl true)
theorem dL_law_1466 : decode cL_law 1466 = .ok (.invokevirtual 169, 3) := di_182 nL_law (Eq.refl true) (Eq.refl true) (Eq.refl true)
theorem dL_law_1469 : decode cL_law 1469 = .ok (.pop2, 1) := di_88 nL_law (Eq.refl true) (Eq.refl true)
theorem dL_law_1470 : decode cL_law 1470 = .ok (.goto 165, 3) := di_167 (x := 165) nL_law (Eq.refl true) (Eq.refl true) (Eq.refl true) rfl
theorem dL_law_1473 : decode cL_law 1473 = .ok (.aload_n 1, 1) := di_43 nL_law (Eq.refl true) (Eq.refl true)
theorem dL_law_1474 : decode cL_law 1474 = .ok (.aload_n 0, 1) := di_42 nL_law (Eq.refl true) (Eq.refl true)
theorem dL_law_1475 : decode cL_law 1475 = .ok (.iload_n 3, 1) := di_29 nL_law (Eq.refl true) (Eq.refl true)
theorem dL_law_1476 : decode cL_law 1476 = .ok (.iconst 1, 1) := di_4 nL_law (Eq.refl true) (Eq.refl true)
theorem dL_law_1477 : decode cL_law 1477 = .ok (.iadd, 1) := di_96 nL_law (Eq.refl true) (Eq.refl true)
theorem dL_law_1478 : decode cL_law 1478 = .ok (.iaload, 1) := di_46 nL_law (Eq.refl true) (Eq.refl true)
theorem dL_law_1479 : decode cL_law 1479 = .ok (.aload_n 0, 1) := di_42 nL_law (Eq.refl true) (Eq.refl true)
theorem dL_law_1480 : decode cL_law 1480 = .ok (.iload_n 3, 1) := di_29 nL_law (Eq.refl true) (Eq.refl true)
theorem dL_law_1481 : decode cL_law 1481 = .ok (.iconst 2, 1) := di_5 nL_law (Eq.refl true) (Eq.refl true)
theorem dL_law_1482 : decode cL_law 1482 = .ok (.iadd, 1) := di_96 nL_law (Eq.refl true) (Eq.refl true)
theorem dL_law_1483 : decode cL_law 1483 = .ok (.iaload, 1) := di_46 nL_law (Eq.refl true) (Eq.refl true)
theorem dL_law_1484 : decode cL_law 1484 = .ok (.aload_n 0, 1) := di_42 nL_law (Eq.refl true) (Eq.refl true)
theorem dL_law_1485 : decode cL_law 1485 = .ok (.iload_n 3, 1) := di_29 nL_law (Eq.refl true) (Eq.refl true)
theorem dL_law_1486 : decode cL_law 1486 = .ok (.iconst 3, 1) := di_6 nL_law (Eq.refl true) (Eq.refl true)
theorem dL_law_1487 : decode cL_law 1487 = .ok (.iadd, 1) := di_96 nL_law (Eq.refl true) (Eq.refl true)
theorem dL_law_1488 : decode cL_law 1488 = .ok (.iaload, 1) := di_46 nL_law (Eq.refl true) (Eq.refl true)
theorem dL_law_1489 : decode cL_law 1489 = .ok (.aload_n 0, 1) := di_42 nL_law (Eq.refl true) (Eq.refl true)
theorem dL_law_1490 : decode cL_law 1490 = .ok (.iload_n 3, 1) := di_29 nL_law (Eq.refl true) (Eq.refl true)
theorem dL_law_1491 : decode cL_law 1491 = .ok (.iconst 4, 1) := di_7 nL_law (Eq.refl true) (Eq.refl true)
theorem dL_law_1492 : decode cL_law 1492 = .ok (.iadd, 1) := di_96 nL_law (Eq.refl true) (Eq.refl true)
theorem dL_law_1493 : decode cL_law 1493 = .ok (.iaload, 1) := di_46 nL_law (Eq.refl true) (Eq.refl true)
theorem dL_law_1494 : decode cL_law 1494 = .ok (.aload_n 0, 1) := di_42 nL_law (Eq.refl true) (Eq.refl true)
theorem dL_law_1495 : decode cL_law 1495 = .ok (.iload_n 3, 1) := di_29 nL_law (Eq.refl true) (Eq.refl true)
theorem dL_law_1496 : decode cL_law 1496 = .ok (.iconst 5, 1) := di_8 nL_law (Eq.refl true) (Eq.refl true)
theorem dL_law_1497 : decode cL_law 1497 = .ok (.iadd, 1) := di_96 nL_law (Eq.refl true) (Eq.refl true)
theorem dL_law_1498 : decode cL_law 1498 = .ok (.iaload, 1) := di_46 nL_law (Eq.refl true) (Eq.refl true)
theorem dL_law_1499 : decode cL_law 1499 = .ok (.invokevirtual 170, 3) := di_182 nL_law (Eq.refl true) (Eq.refl true) (Eq.refl true)
theorem dL_law_1502 : decode cL_law 1502 = .ok (.pop, 1) := di_87 nL_law (Eq.refl true) (Eq.refl true)
theorem dL_law_1503 : decode cL_law 1503 = .ok (.aload_n 2, 1) := di_44 nL_law (Eq.refl true) (Eq.refl true)
theorem dL_law_1504 : decode cL_law 1504 = .ok (.aload_n 0, 1) := di_42 nL_law (Eq.refl true) (Eq.refl true)
theorem dL_law_1505 : decode cL_law 1505 = .ok (.iload_n 3, 1) := di_29 nL_law (Eq.refl true) (Eq.refl true)
theorem dL_law_1506 : decode cL_law 1506 = .ok (.iconst 1, 1) := di_4 nL_law (Eq.refl true) (Eq.refl true)
theorem dL_law_1507 : decode cL_law 1507 = .ok (.iadd, 1) := di_96 nL_law (Eq.refl true) (Eq.refl true)
theorem dL_law_1508 : decode cL_law 1508 = .ok (.iaload, 1) := di_46 nL_law (Eq.refl true) (Eq.refl true)
theorem dL_law_1509 : decode cL_law 1509 = .ok (.aload_n 0, 1) := di_42 nL_law (Eq.refl true) (Eq.refl true)
theorem dL_law_1510 : decode cL_law 1510 = .ok (.iload_n 3, 1) := di_29 nL_law (Eq.refl true) (Eq.refl true)
theorem dL_law_1511 : decode cL_law 1511 = .ok (.iconst 2, 1) := di_5 nL_law (Eq.refl true) (Eq.refl true)
theorem dL_law_1512 : decode cL_law 1512 = .ok (.iadd, 1) := di_96 nL_law (Eq.refl true) (Eq.refl true)
theorem dL_law_1513 : decode cL_law 1513 = .ok (.iaload, 1) := di_46 nL_law (Eq.refl true) (Eq.refl true)
theorem dL_law_1514 : decode cL_law 1514 = .ok (.aload_n 0, 1) := di_42 nL_law (Eq.refl true) (Eq.refl true)
theorem dL_law_1515 : decode cL_law 1515 = .ok (.iload_n 3, 1) := di_29 nL_law (Eq.refl true) (Eq.refl true)
theorem dL_law_1516 : decode cL_law 1516 = .ok (.iconst 3, 1) := di_6 nL_law (Eq.refl true) (Eq.refl true)
theorem dL_law_1517 : decode cL_law 1517 = .ok (.iadd, 1) := di_96 nL_law (Eq.refl true) (Eq.refl true)
theorem dL_law_1518 : decode cL_law 1518 = .ok (.iaload, 1) := di_46 nL_law (Eq.refl true) (Eq.refl true)
theorem dL_law_1519 : decode cL_law 1519 = .ok (.aload_n 0, 1) := di_42 nL_law (Eq.refl true) (Eq.refl true)
theorem dL_law_1520 : decode cL_law 1520 = .ok (.iload_n 3, 1) := di_29 nL_law (Eq.refl true) (Eq.refl true)
theorem dL_law_1521 : decode cL_law 1521 = .ok (.iconst 4, 1) := di_7 nL_law (Eq.refl true) (Eq.refl true)
theorem dL_law_1522 : decode cL_law 1522 = .ok (.iadd, 1) := di_96 nL_law (Eq.refl true) (Eq.refl true)
theorem dL_law_1523 : decode cL_law 1523 = .ok (.iaload, 1) := di_46 nL_law (Eq.refl true) (Eq.refl true)
theorem dL_law_1524 : decode cL_law 1524 = .ok (.aload_n 0, 1) := di_42 nL_law (Eq.refl true) (Eq.refl true)
theorem dL_law_1525 : decode cL_law 1525 = .ok (.iload_n 3, 1) := di_29 nL_law (Eq.refl true) (Eq.refl true)
theorem dL_law_1526 : decode cL_law 1526 = .ok (.iconst 5, 1) := di_8 nL_law (Eq.refl true) (Eq.refl true)
theorem dL_law_1527 : decode cL_law 1527 = .ok (.iadd, 1) := di_96 nL_law (Eq.refl true) (Eq.refl true)
theorem dL_law_1528 : decode cL_law 1528 = .ok (.iaload, 1) := di_46 nL_law (Eq.refl true) (Eq.refl true)
theorem dL_law_1529 : decode cL_law 1529 = .ok (.invokevirtual 174, 3) := di_182 nL_law (Eq.refl true) (Eq.refl true) (Eq.refl true)
theorem dL_law_1532 : decode cL_law 1532 = .ok (.pop, 1) := di_87 nL_law (Eq.refl true) (Eq.refl true)
theorem dL_law_1533 : decode cL_law 1533 = .ok (.goto 102, 3) := di_167 (x := 102) nL_law (Eq.refl true) (Eq.refl true) (Eq.refl true) rfl
theorem dL_law_1536 : decode cL_law 1536 = .ok (.aload_n 1, 1) := di_43 nL_law (Eq.refl true) (Eq.refl true)
theorem dL_law_1537 : decode cL_law 1537 = .ok (.aload_n 0, 1) := di_42 nL_law (Eq.refl true) (Eq.refl true)
theorem dL_law_1538 : decode cL_law 1538 = .ok (.iload_n 3, 1) := di_29 nL_law (Eq.refl true) (Eq.refl true)
theorem dL_law_1539 : decode cL_law 1539 = .ok (.iconst 1, 1) := di_4 nL_law (Eq.refl true) (Eq.refl true)
theorem dL_law_1540 : decode cL_law 1540 = .ok (.iadd, 1) := di_96 nL_law (Eq.refl true) (Eq.refl true)
theorem dL_law_1541 : decode cL_law 1541 = .ok (.iaload, 1) := di_46 nL_law (Eq.refl true) (Eq.refl true)
theorem dL_law_1542 : decode cL_law 1542 = .ok (.aload_n 0, 1) := di_42 nL_law (Eq.refl true) (Eq.refl true)
theorem dL_law_1543 : decode cL_law 1543 = .ok (.iload_n 3, 1) := di_29 nL_law (Eq.refl true) (Eq.refl true)
theorem dL_law_1544 : decode cL_law 1544 = .ok (.iconst 2, 1) := di_5 nL_law (Eq.refl true) (Eq.refl true)
theorem dL_law_1545 : decode cL_law 1545 = .ok (.iadd, 1) := di_96 nL_law (Eq.refl true) (Eq.refl true)
theorem dL_law_1546 : decode cL_law 1546 = .ok (.iaload, 1) := di_46 nL_law (Eq.refl true) (Eq.refl true)
theorem dL_law_1547 : decode cL_law 1547 = .ok (.invokevirtual 175, 3) := di_182 nL_law (Eq.refl true) (Eq.refl true) (Eq.refl true)
theorem dL_law_1550 : decode cL_law 1550 = .ok (.pop, 1) := di_87 nL_law (Eq.refl true) (Eq.refl true)
theorem dL_law_1551 : decode cL_law 1551 = .ok (.aload_n 2, 1) := di_44 nL_law (Eq.refl true) (Eq.refl true)
theorem dL_law_1552 : decode cL_law 1552 = .ok (.aload_n 0, 1) := di_42 nL_law (Eq.refl true) (Eq.refl true)
theorem dL_law_1553 : decode cL_law 1553 = .ok (.iload_n 3, 1) := di_29 nL_law (Eq.refl true) (Eq.refl true)
theorem dL_law_1554 : decode cL_law 1554 = .ok (.iconst 1, 1) := di_4 nL_law (Eq.refl true) (Eq.refl true)
theorem dL_law_1555 : decode cL_law 1555 = .ok (.iadd, 1) := di_96 nL_law (Eq.refl true) (Eq.refl true)
theorem dL_law_1556 : decode cL_law 1556 = .ok (.iaload, 1) := di_46 nL_law (Eq.refl true) (Eq.refl true)
theorem dL_law_1557 : decode cL_law 1557 = .ok (.aload_n 0, 1) := di_42 nL_law (Eq.refl true) (Eq.refl true)
theorem dL_law_1558 : decode cL_law 1558 = .ok (.iload_n 3, 1) := di_29 nL_law (Eq.refl true) (Eq.refl true)
theorem dL_law_1559 : decode cL_law 1559 = .ok (.iconst 2, 1) := di_5 nL_law (Eq.refl true) (Eq.refl true)
theorem dL_law_1560 : decode cL_law 1560 = .ok (.iadd, 1) := di_96 nL_law (Eq.refl true) (Eq.refl true)
theorem dL_law_1561 : decode cL_law 1561 = .ok (.iaload, 1) := di_46 nL_law (Eq.refl true) (Eq.refl true)
theorem dL_law_1562 : decode cL_law 1562 = .ok (.invokevirtual 178, 3) := di_182 nL_law (Eq.refl true) (Eq.refl true) (Eq.refl true)
theorem dL_law_1565 : decode cL_law 1565 = .ok (.pop, 1) := di_87 nL_law (Eq.refl true) (Eq.refl true)
theorem dL_law_1566 : decode cL_law 1566 = .ok (.goto 69, 3) := di_167 (x := 69) nL_law (Eq.refl true) (Eq.refl true) (Eq.refl true) rfl
theorem dL_law_1569 : decode cL_law 1569 = .ok (.aload_n 1, 1) := di_43 nL_law (Eq.refl true) (Eq.refl true)
theorem dL_law_1570 : decode cL_law 1570 = .ok (.aload_n 0, 1) := di_42 nL_law (Eq.refl true) (Eq.refl true)
theorem dL_law_1571 : decode cL_law 1571 = .ok (.iload_n 3, 1) := di_29 nL_law (Eq.refl true) (Eq.refl true)
theorem dL_law_1572 : decode cL_law 1572 = .ok (.iconst 1, 1) := di_4 nL_law (Eq.refl true) (Eq.refl true)
theorem dL_law_1573 : decode cL_law 1573 = .ok (.iadd, 1) := di_96 nL_law (Eq.refl true) (Eq.refl true)
theorem dL_law_1574 : decode cL_law 1574 = .ok (.iaload, 1) := di_46 nL_law (Eq.refl true) (Eq.refl true)
theorem dL_law_1575 : decode cL_law 1575 = .ok (.aload_n 0, 1) := di_42 nL_law (Eq.refl true) (Eq.refl true)
theorem dL_law_1576 : decode cL_law 1576 = .ok (.iload_n 3, 1) := di_29 nL_law (Eq.refl true) (Eq.refl true)
theorem dL_law_1577 : decode cL_law 1577 = .ok (.iconst 2, 1) := di_5 nL_law (Eq.refl true) (Eq.refl true)
theorem dL_law_1578 : decode cL_law 1578 = .ok (.iadd, 1) := di_96 nL_law (Eq.refl true) (Eq.refl true)
theorem dL_law_1579 : decode cL_law 1579 = .ok (.iaload, 1) := di_46 nL_law (Eq.refl true) (Eq.refl true)
theorem dL_law_1580 : decode cL_law 1580 = .ok (.aload_n 0, 1) := di_42 nL_law (Eq.refl true) (Eq.refl true)
theorem dL_law_1581 : decode cL_law 1581 = .ok (.iload_n 3, 1) := di_29 nL_law (Eq.refl true) (Eq.refl true)
theorem dL_law_1582 : decode cL_law 1582 = .ok (.iconst 3, 1) := di_6 nL_law (Eq.refl true) (Eq.refl true)
theorem dL_law_1583 : decode cL_law 1583 = .ok (.iadd, 1) := di_96 nL_law (Eq.refl true) (Eq.refl true)
theorem dL_law_1584 : decode cL_law 1584 = .ok (.iaload, 1) := di_46 nL_law (Eq.refl true) (Eq.refl true)
theorem dL_law_1585 : decode cL_law 1585 = .ok (.invokevirtual 179, 3) := di_182 nL_law (Eq.refl true) (Eq.refl true) (Eq.refl true)
theorem dL_law_1588 : decode cL_law 1588 = .ok (.pop, 1) := di_87 nL_law (Eq.refl true) (Eq.refl true)
theorem dL_law_1589 : decode cL_law 1589 = .ok (.aload_n 2, 1) := di_44 nL_law (Eq.refl true) (Eq.refl true)
theorem dL_law_1590 : decode cL_law 1590 = .ok (.aload_n 0, 1) := di_42 nL_law (Eq.refl true) (Eq.refl true)
theorem dL_law_1591 : decode cL_law 1591 = .ok (.iload_n 3, 1) := di_29 nL_law (Eq.refl true) (Eq.refl true)
theorem dL_law_1592 : decode cL_law 1592 = .ok (.iconst 1, 1) := di_4 nL_law (Eq.refl true) (Eq.refl true)
theorem dL_law_1593 : decode cL_law 1593 = .ok (.iadd, 1) := di_96 nL_law (Eq.refl true) (Eq.refl true)
theorem dL_law_1594 : decode cL_law 1594 = .ok (.iaload, 1) := di_46 nL_law (Eq.refl true) (Eq.refl true)
theorem dL_law_1595 : decode cL_law 1595 = .ok (.aload_n 0, 1) := di_42 nL_law (Eq.refl true) (Eq.refl true)
theorem dL_law_1596 : decode cL_law 1596 = .ok (.iload_n 3, 1) := di_29 nL_law (Eq.refl true) (Eq.refl true)
theorem dL_law_1597 : decode cL_law 1597 = .ok (.iconst 2, 1) := di_5 nL_law (Eq.refl true) (Eq.refl true)
theorem dL_law_1598 : decode cL_law 1598 = .ok (.iadd, 1) := di_96 nL_law (Eq.refl true) (Eq.refl true)
theorem dL_law_1599 : decode cL_law 1599 = .ok (.iaload, 1) := di_46 nL_law (Eq.refl true) (Eq.refl true)
theorem dL_law_1600 : decode cL_law 1600 = .ok (.aload_n 0, 1) := di_42 nL_law (Eq.refl true) (Eq.refl true)
theorem dL_law_1601 : decode cL_law 1601 = .ok (.iload_n 3, 1) := di_29 nL_law (Eq.refl true) (Eq.refl true)
theorem dL_law_1602 : decode cL_law 1602 = .ok (.iconst 3, 1) := di_6 nL_law (Eq.refl true) (Eq.refl true)
theorem dL_law_1603 : decode cL_law 1603 = .ok (.iadd, 1) := di_96 nL_law (Eq.refl true) (Eq.refl true)
theorem dL_law_1604 : decode cL_law 1604 = .ok (.iaload, 1) := di_46 nL_law (Eq.refl true) (Eq.refl true)
theorem dL_law_1605 : decode cL_law 1605 = .ok (.invokevirtual 182, 3) := di_182 nL_law (Eq.refl true) (Eq.refl true) (Eq.refl true)
theorem dL_law_1608 : decode cL_law 1608 = .ok (.pop, 1) := di_87 nL_law (Eq.refl true) (Eq.refl true)
theorem dL_law_1609 : decode cL_law 1609 = .ok (.goto 26, 3) := di_167 (x := 26) nL_law (Eq.refl true) (Eq.refl true) (Eq.refl true) rfl
theorem dL_law_1612 : decode cL_law 1612 = .ok (.aload_n 1, 1) := di_43 nL_law (Eq.refl true) (Eq.refl true)
theorem dL_law_1613 : decode cL_law 1613 = .ok (.aload_n 0, 1) := di_42 nL_law (Eq.refl true) (Eq.refl true)
theorem dL_law_1614 : decode cL_law 1614 = .ok (.iload_n 3, 1) := di_29 nL_law (Eq.refl true) (Eq.refl true)
theorem dL_law_1615 : decode cL_law 1615 = .ok (.iconst 1, 1) := di_4 nL_law (Eq.refl true) (Eq.refl true)
theorem dL_law_1616 : decode cL_law 1616 = .ok (.iadd, 1) := di_96 nL_law (Eq.refl true) (Eq.refl true)
theorem dL_law_1617 : decode cL_law 1617 = .ok (.iaload, 1) := di_46 nL_law (Eq.refl true) (Eq.refl true)
theorem dL_law_1618 : decode cL_law 1618 = .ok (.invokevirtual 183, 3) := di_182 nL_law (Eq.refl true) (Eq.refl true) (Eq.refl true)
theorem dL_law_1621 : decode cL_law 1621 = .ok (.pop, 1) := di_87 nL_law (Eq.refl true) (Eq.refl true)
theorem dL_law_1622 : decode cL_law 1622 = .ok (.aload_n 2, 1) := di_44 nL_law (Eq.refl true) (Eq.refl true)
theorem dL_law_1623 : decode cL_law 1623 = .ok (.aload_n 0, 1) := di_42 nL_law (Eq.refl true) (Eq.refl true)
theorem dL_law_1624 : decode cL_law 1624 = .ok (.iload_n 3, 1) := di_29 nL_law (Eq.refl true) (Eq.refl true)
theorem dL_law_1625 : decode cL_law 1625 = .ok (.iconst 1, 1) := di_4 nL_law (Eq.refl true) (Eq.refl true)
theorem dL_law_1626 : decode cL_law 1626 = .ok (.iadd, 1) := di_96 nL_law (Eq.refl true) (Eq.refl true)
theorem dL_law_1627 : decode cL_law 1627 = .ok (.iaload, 1) := di_46 nL_law (Eq.refl true) (Eq.refl true)
theorem dL_law_1628 : decode cL_law 1628 = .ok (.invokevirtual 186, 3) := di_182 nL_law (Eq.refl true) (Eq.refl true) (Eq.refl true)
theorem dL_law_1631 : decode cL_law 1631 = .ok (.pop, 1) := di_87 nL_law (Eq.refl true) (Eq.refl true)
theorem dL_law_1632 : decode cL_law 1632 = .ok (.goto 3, 3) := di_167 (x := 3) nL_law (Eq.refl true) (Eq.refl true) (Eq.refl true) rfl
theorem dL_law_1635 : decode cL_law 1635 = .ok (.iinc 3 6, 3) := di_132 (y := 6) nL_law (Eq.refl true) (Eq.refl true) (Eq.refl true) rfl
theorem dL_law_1638 : decode cL_law 1638 = .ok (.goto (-1620), 3) := di_167 (x := 63916) nL_law (Eq.refl true) (Eq.refl true) (Eq.refl true) rfl
theorem dL_law_1641 : decode cL_law 1641 = .ok (.iconst 1, 1) := di_4 nL_law (Eq.refl true) (Eq.refl true)
theorem dL_law_1642 : decode cL_law 1642 = .ok (.ireturn, 1) := di_172 nL_law (Eq.refl true) (Eq.refl true)
