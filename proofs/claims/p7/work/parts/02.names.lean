noncomputable def RX0 : String := "SeatsRound$Acts"
noncomputable def TX0 : u_T := fun k => match k with
  | 0 => ("SeatsRound$Acts", "bodies", "[I", true)
  | 1 => ("SeatsRound$Acts", "ran", "I", false)
  | 2 => ("SeatsRound$Acts", "own", "I", false)
  | 3 => ("SeatsRound$Acts", "number", "I", false)
  | _ => ("SeatsRound$Acts", "strength", "I", false)
noncomputable def tyX0 : Nat → FieldType := fun k => match k with
  | 0 => .array .int
  | 1 => .int
  | 2 => .int
  | 3 => .int
  | _ => .int
noncomputable abbrev wsX00 : List Cond := u_ws RX0 TX0 5
theorem nmX0 : ∀ a, a < 5 → ∀ b, b < 5 → a ≠ b → (TX0 a).2.1 ≠ (TX0 b).2.1 := by decide +kernel
theorem tyX0_ok : ∀ k, k < 5 → parseFieldDescriptor (TX0 k).2.2.1 = some (tyX0 k) := by decide +kernel
noncomputable abbrev cX0_init : ByteArray := prog_2_method_1_code
noncomputable def yX0_init : MethodName := ⟨RX0, "<init>", "()V"⟩
noncomputable abbrev cX0_run : ByteArray := prog_2_method_2_code
noncomputable def yX0_run : MethodName := ⟨RX0, "run", "(IIIII)I"⟩
noncomputable abbrev cX0_begin : ByteArray := prog_2_method_3_code
noncomputable def yX0_begin : MethodName := ⟨RX0, "begin", "(I)V"⟩
noncomputable abbrev cX0_findsFrom : ByteArray := prog_2_method_4_code
noncomputable def yX0_findsFrom : MethodName := ⟨RX0, "findsFrom", "(II)I"⟩
noncomputable abbrev cX0_keepsFrom : ByteArray := prog_2_method_5_code
noncomputable def yX0_keepsFrom : MethodName := ⟨RX0, "keepsFrom", "(II)I"⟩
noncomputable abbrev cX0_movesFrom : ByteArray := prog_2_method_6_code
noncomputable def yX0_movesFrom : MethodName := ⟨RX0, "movesFrom", "(II)I"⟩
noncomputable abbrev cX0_tellsFrom : ByteArray := prog_2_method_7_code
noncomputable def yX0_tellsFrom : MethodName := ⟨RX0, "tellsFrom", "(II)I"⟩
noncomputable def RX1 : String := "SeatsRound$Choice"
noncomputable def TX1 : u_T := fun k => match k with
  | 0 => ("SeatsRound$Choice", "picks", "[I", true)
  | 1 => ("SeatsRound$Choice", "chosen", "[I", true)
  | 2 => ("SeatsRound$Choice", "pickCount", "I", false)
  | 3 => ("SeatsRound$Choice", "chosenCount", "I", false)
  | 4 => ("SeatsRound$Choice", "chosenBits", "I", false)
  | 5 => ("SeatsRound$Choice", "streetBits", "I", false)
  | 6 => ("SeatsRound$Choice", "pickBits", "I", false)
  | 7 => ("SeatsRound$Choice", "sums", "[I", true)
  | _ => ("SeatsRound$Choice", "keepers", "LSeatsRound$Keepers;", true)
noncomputable def tyX1 : Nat → FieldType := fun k => match k with
  | 0 => .array .int
  | 1 => .array .int
  | 2 => .int
  | 3 => .int
  | 4 => .int
  | 5 => .int
  | 6 => .int
  | 7 => .array .int
  | _ => .object "SeatsRound$Keepers"
noncomputable abbrev wsX10 : List Cond := u_ws RX1 TX1 9
theorem nmX1 : ∀ a, a < 9 → ∀ b, b < 9 → a ≠ b → (TX1 a).2.1 ≠ (TX1 b).2.1 := by decide +kernel
theorem tyX1_ok : ∀ k, k < 9 → parseFieldDescriptor (TX1 k).2.2.1 = some (tyX1 k) := by decide +kernel
noncomputable abbrev cX1_init : ByteArray := prog_3_method_1_code
noncomputable def yX1_init : MethodName := ⟨RX1, "<init>", "(LSeatsRound$Keepers;)V"⟩
noncomputable abbrev cX1_pick : ByteArray := prog_3_method_2_code
noncomputable def yX1_pick : MethodName := ⟨RX1, "pick", "(LSeatsRound$Table;I)V"⟩
noncomputable abbrev cX1_pickRound : ByteArray := prog_3_method_3_code
noncomputable def yX1_pickRound : MethodName := ⟨RX1, "pickRound", "(LSeatsRound$Table;I)V"⟩
noncomputable abbrev cX1_pickByJumps : ByteArray := prog_3_method_4_code
noncomputable def yX1_pickByJumps : MethodName := ⟨RX1, "pickByJumps", "(LSeatsRound$Table;I)V"⟩
noncomputable abbrev cX1_pickFirstFrom : ByteArray := prog_3_method_5_code
noncomputable def yX1_pickFirstFrom : MethodName := ⟨RX1, "pickFirstFrom", "(LSeatsRound$Table;I)V"⟩
noncomputable abbrev cX1_pickBySums : ByteArray := prog_3_method_6_code
noncomputable def yX1_pickBySums : MethodName := ⟨RX1, "pickBySums", "(LSeatsRound$Table;I)V"⟩
noncomputable abbrev cX1_isPicked : ByteArray := prog_3_method_7_code
noncomputable def yX1_isPicked : MethodName := ⟨RX1, "isPicked", "(I)Z"⟩
noncomputable abbrev cX1_takePick : ByteArray := prog_3_method_8_code
noncomputable def yX1_takePick : MethodName := ⟨RX1, "takePick", "(I)V"⟩
noncomputable abbrev cX1_choose : ByteArray := prog_3_method_9_code
noncomputable def yX1_choose : MethodName := ⟨RX1, "choose", "(LSeatsRound$Table;I)V"⟩
noncomputable abbrev cX1_isChosen : ByteArray := prog_3_method_10_code
noncomputable def yX1_isChosen : MethodName := ⟨RX1, "isChosen", "(I)Z"⟩
noncomputable abbrev cX1_takeChosen : ByteArray := prog_3_method_11_code
noncomputable def yX1_takeChosen : MethodName := ⟨RX1, "takeChosen", "(I)V"⟩
noncomputable def RX2 : String := "SeatsRound$Keepers"
noncomputable def TX2 : u_T := fun k => match k with
  | 0 => ("SeatsRound$Keepers", "kind", "[I", true)
  | 1 => ("SeatsRound$Keepers", "street", "[I", true)
  | 2 => ("SeatsRound$Keepers", "strength", "[I", true)
  | 3 => ("SeatsRound$Keepers", "table", "[I", true)
  | 4 => ("SeatsRound$Keepers", "fallen", "[Z", true)
  | _ => ("SeatsRound$Keepers", "count", "I", false)
noncomputable def tyX2 : Nat → FieldType := fun k => match k with
  | 0 => .array .int
  | 1 => .array .int
  | 2 => .array .int
  | 3 => .array .int
  | 4 => .array .boolean
  | _ => .int
noncomputable abbrev wsX20 : List Cond := u_ws RX2 TX2 6
theorem nmX2 : ∀ a, a < 6 → ∀ b, b < 6 → a ≠ b → (TX2 a).2.1 ≠ (TX2 b).2.1 := by decide +kernel
theorem tyX2_ok : ∀ k, k < 6 → parseFieldDescriptor (TX2 k).2.2.1 = some (tyX2 k) := by decide +kernel
noncomputable abbrev cX2_init : ByteArray := prog_4_method_1_code
noncomputable def yX2_init : MethodName := ⟨RX2, "<init>", "()V"⟩
noncomputable abbrev cX2_has : ByteArray := prog_4_method_2_code
noncomputable def yX2_has : MethodName := ⟨RX2, "has", "(I)Z"⟩
noncomputable abbrev cX2_add : ByteArray := prog_4_method_3_code
noncomputable def yX2_add : MethodName := ⟨RX2, "add", "(II)I"⟩
noncomputable abbrev cX2_counting : ByteArray := prog_4_method_4_code
noncomputable def yX2_counting : MethodName := ⟨RX2, "counting", "(I)I"⟩
noncomputable abbrev cX2_isUp : ByteArray := prog_4_method_5_code
noncomputable def yX2_isUp : MethodName := ⟨RX2, "isUp", "(I)Z"⟩
noncomputable def RX3 : String := "SeatsRound$Law"
noncomputable def TX3 : u_T := fun k => match k with
  | 0 => ("SeatsRound$Law", "text", "[B", false)
  | 1 => ("SeatsRound$Law", "length", "I", false)
  | 2 => ("SeatsRound$Law", "at", "I", false)
  | 3 => ("SeatsRound$Law", "fault", "I", false)
  | 4 => ("SeatsRound$Law", "members", "I", false)
  | 5 => ("SeatsRound$Law", "streetsIn", "I", false)
  | 6 => ("SeatsRound$Law", "weights", "I", false)
  | _ => ("SeatsRound$Law", "greatest", "I", false)
noncomputable def tyX3 : Nat → FieldType := fun k => match k with
  | 0 => .array .byte
  | 1 => .int
  | 2 => .int
  | 3 => .int
  | 4 => .int
  | 5 => .int
  | 6 => .int
  | _ => .int
noncomputable abbrev wsX30 : List Cond := u_ws RX3 TX3 8
theorem nmX3 : ∀ a, a < 8 → ∀ b, b < 8 → a ≠ b → (TX3 a).2.1 ≠ (TX3 b).2.1 := by decide +kernel
theorem tyX3_ok : ∀ k, k < 8 → parseFieldDescriptor (TX3 k).2.2.1 = some (tyX3 k) := by decide +kernel
noncomputable abbrev cX3_init : ByteArray := prog_5_method_1_code
noncomputable def yX3_init : MethodName := ⟨RX3, "<init>", "()V"⟩
noncomputable abbrev cX3_workOut : ByteArray := prog_5_method_2_code
noncomputable def yX3_workOut : MethodName := ⟨RX3, "workOut", "(LSeatsRound$Table;LSeatsRound$Keepers;)I"⟩
noncomputable abbrev cX3_look : ByteArray := prog_5_method_3_code
noncomputable def yX3_look : MethodName := ⟨RX3, "look", "(LSeatsRound$Table;LSeatsRound$Keepers;)V"⟩
noncomputable abbrev cX3_readPart : ByteArray := prog_5_method_4_code
noncomputable def yX3_readPart : MethodName := ⟨RX3, "readPart", "(LSeatsRound$Table;I)I"⟩
noncomputable abbrev cX3_heldWithin : ByteArray := prog_5_method_5_code
noncomputable def yX3_heldWithin : MethodName := ⟨RX3, "heldWithin", "(I)I"⟩
noncomputable abbrev cX3_readWay : ByteArray := prog_5_method_6_code
noncomputable def yX3_readWay : MethodName := ⟨RX3, "readWay", "()I"⟩
noncomputable abbrev cX3_readSum : ByteArray := prog_5_method_7_code
noncomputable def yX3_readSum : MethodName := ⟨RX3, "readSum", "(I)I"⟩
noncomputable abbrev cX3_readProduct : ByteArray := prog_5_method_8_code
noncomputable def yX3_readProduct : MethodName := ⟨RX3, "readProduct", "(I)I"⟩
noncomputable abbrev cX3_readOperand : ByteArray := prog_5_method_9_code
noncomputable def yX3_readOperand : MethodName := ⟨RX3, "readOperand", "(I)I"⟩
noncomputable abbrev cX3_readBracket : ByteArray := prog_5_method_10_code
noncomputable def yX3_readBracket : MethodName := ⟨RX3, "readBracket", "(I)I"⟩
noncomputable abbrev cX3_readNumber : ByteArray := prog_5_method_11_code
noncomputable def yX3_readNumber : MethodName := ⟨RX3, "readNumber", "()I"⟩
noncomputable abbrev cX3_isDigit : ByteArray := prog_5_method_12_code
noncomputable def yX3_isDigit : MethodName := ⟨RX3, "isDigit", "(I)Z"⟩
noncomputable abbrev cX3_sign : ByteArray := prog_5_method_13_code
noncomputable def yX3_sign : MethodName := ⟨RX3, "sign", "()I"⟩
noncomputable def RX4 : String := "SeatsRound$NameList"
noncomputable def TX4 : u_T := fun k => match k with
  | 0 => ("SeatsRound$NameList", "bytes", "[[B", true)
  | 1 => ("SeatsRound$NameList", "size", "[I", true)
  | 2 => ("SeatsRound$NameList", "read", "[B", true)
  | _ => ("SeatsRound$NameList", "count", "I", false)
noncomputable def tyX4 : Nat → FieldType := fun k => match k with
  | 0 => .array (.array .byte)
  | 1 => .array .int
  | 2 => .array .byte
  | _ => .int
noncomputable abbrev wsX40 : List Cond := u_ws RX4 TX4 4
theorem nmX4 : ∀ a, a < 4 → ∀ b, b < 4 → a ≠ b → (TX4 a).2.1 ≠ (TX4 b).2.1 := by decide +kernel
theorem tyX4_ok : ∀ k, k < 4 → parseFieldDescriptor (TX4 k).2.2.1 = some (tyX4 k) := by decide +kernel
noncomputable abbrev cX4_init : ByteArray := prog_6_method_1_code
noncomputable def yX4_init : MethodName := ⟨RX4, "<init>", "()V"⟩
noncomputable abbrev cX4_has : ByteArray := prog_6_method_2_code
noncomputable def yX4_has : MethodName := ⟨RX4, "has", "(I)Z"⟩
noncomputable abbrev cX4_find : ByteArray := prog_6_method_3_code
noncomputable def yX4_find : MethodName := ⟨RX4, "find", "([BII)I"⟩
noncomputable abbrev cX4_isAlike : ByteArray := prog_6_method_4_code
noncomputable def yX4_isAlike : MethodName := ⟨RX4, "isAlike", "([B[BII)Z"⟩
noncomputable abbrev cX4_add : ByteArray := prog_6_method_5_code
noncomputable def yX4_add : MethodName := ⟨RX4, "add", "([BII)I"⟩
noncomputable abbrev cX4_placeOf : ByteArray := prog_6_method_6_code
noncomputable def yX4_placeOf : MethodName := ⟨RX4, "placeOf", "(II)I"⟩
noncomputable abbrev cX4_addFrom : ByteArray := prog_6_method_7_code
noncomputable def yX4_addFrom : MethodName := ⟨RX4, "addFrom", "([JIII)I"⟩
noncomputable def RX5 : String := "SeatsRound$Orders"
noncomputable def TX5 : u_T := fun k => match k with
  | 0 => ("SeatsRound$Orders", "told", "[I", true)
  | 1 => ("SeatsRound$Orders", "toldCount", "I", false)
  | 2 => ("SeatsRound$Orders", "path", "[I", true)
  | 3 => ("SeatsRound$Orders", "pathLength", "I", false)
  | 4 => ("SeatsRound$Orders", "holders", "[[I", true)
  | 5 => ("SeatsRound$Orders", "least", "[I", true)
  | 6 => ("SeatsRound$Orders", "keepers", "LSeatsRound$Keepers;", true)
  | 7 => ("SeatsRound$Orders", "nameList", "LSeatsRound$NameList;", true)
  | 8 => ("SeatsRound$Orders", "choice", "LSeatsRound$Choice;", true)
  | _ => ("SeatsRound$Orders", "law", "LSeatsRound$Law;", true)
noncomputable def tyX5 : Nat → FieldType := fun k => match k with
  | 0 => .array .int
  | 1 => .int
  | 2 => .array .int
  | 3 => .int
  | 4 => .array (.array .int)
  | 5 => .array .int
  | 6 => .object "SeatsRound$Keepers"
  | 7 => .object "SeatsRound$NameList"
  | 8 => .object "SeatsRound$Choice"
  | _ => .object "SeatsRound$Law"
noncomputable abbrev wsX50 : List Cond := u_ws RX5 TX5 10
theorem nmX5 : ∀ a, a < 10 → ∀ b, b < 10 → a ≠ b → (TX5 a).2.1 ≠ (TX5 b).2.1 := by decide +kernel
theorem tyX5_ok : ∀ k, k < 10 → parseFieldDescriptor (TX5 k).2.2.1 = some (tyX5 k) := by decide +kernel
noncomputable abbrev cX5_init : ByteArray := prog_7_method_1_code
noncomputable def yX5_init : MethodName := ⟨RX5, "<init>", "(LSeatsRound$Keepers;LSeatsRound$NameList;LSeatsRound$Choice;LSeatsRound$Law;)V"⟩
noncomputable abbrev cX5_isTold : ByteArray := prog_7_method_2_code
noncomputable def yX5_isTold : MethodName := ⟨RX5, "isTold", "(I)Z"⟩
noncomputable abbrev cX5_leastFrom : ByteArray := prog_7_method_3_code
noncomputable def yX5_leastFrom : MethodName := ⟨RX5, "leastFrom", "(LSeatsRound$Table;LSeatsRound$Table;)I"⟩
noncomputable abbrev cX5_seatSet : ByteArray := prog_7_method_4_code
noncomputable def yX5_seatSet : MethodName := ⟨RX5, "seatSet", "(LSeatsRound$Table;LSeatsRound$Table;I)Z"⟩
noncomputable abbrev cX5_leastOnward : ByteArray := prog_7_method_5_code
noncomputable def yX5_leastOnward : MethodName := ⟨RX5, "leastOnward", "(I)I"⟩
noncomputable abbrev cX5_sumOver : ByteArray := prog_7_method_6_code
noncomputable def yX5_sumOver : MethodName := ⟨RX5, "sumOver", "(II)I"⟩
noncomputable abbrev cX5_walk : ByteArray := prog_7_method_7_code
noncomputable def yX5_walk : MethodName := ⟨RX5, "walk", "(I)V"⟩
noncomputable abbrev cX5_nextOf : ByteArray := prog_7_method_8_code
noncomputable def yX5_nextOf : MethodName := ⟨RX5, "nextOf", "(I)I"⟩
noncomputable def RX6 : String := "SeatsRound$Parcels"
noncomputable def TX6 : u_T := fun k => match k with
  | 0 => ("SeatsRound$Parcels", "version", "[[I", true)
  | 1 => ("SeatsRound$Parcels", "kept", "[[I", true)
  | 2 => ("SeatsRound$Parcels", "keptFor", "[[I", true)
  | 3 => ("SeatsRound$Parcels", "pieces", "[[I", true)
  | 4 => ("SeatsRound$Parcels", "pieceTo", "[[I", true)
  | 5 => ("SeatsRound$Parcels", "latest", "[I", true)
  | 6 => ("SeatsRound$Parcels", "oneTree", "[I", true)
  | 7 => ("SeatsRound$Parcels", "otherTree", "[I", true)
  | 8 => ("SeatsRound$Parcels", "writings", "I", false)
  | 9 => ("SeatsRound$Parcels", "keepers", "LSeatsRound$Keepers;", true)
  | 10 => ("SeatsRound$Parcels", "nameList", "LSeatsRound$NameList;", true)
  | _ => ("SeatsRound$Parcels", "choice", "LSeatsRound$Choice;", true)
noncomputable def tyX6 : Nat → FieldType := fun k => match k with
  | 0 => .array (.array .int)
  | 1 => .array (.array .int)
  | 2 => .array (.array .int)
  | 3 => .array (.array .int)
  | 4 => .array (.array .int)
  | 5 => .array .int
  | 6 => .array .int
  | 7 => .array .int
  | 8 => .int
  | 9 => .object "SeatsRound$Keepers"
  | 10 => .object "SeatsRound$NameList"
  | _ => .object "SeatsRound$Choice"
noncomputable abbrev wsX60 : List Cond := u_ws RX6 TX6 12
theorem nmX6 : ∀ a, a < 12 → ∀ b, b < 12 → a ≠ b → (TX6 a).2.1 ≠ (TX6 b).2.1 := by decide +kernel
theorem tyX6_ok : ∀ k, k < 12 → parseFieldDescriptor (TX6 k).2.2.1 = some (tyX6 k) := by decide +kernel
noncomputable abbrev cX6_init : ByteArray := prog_8_method_1_code
noncomputable def yX6_init : MethodName := ⟨RX6, "<init>", "(LSeatsRound$Keepers;LSeatsRound$NameList;LSeatsRound$Choice;)V"⟩
noncomputable abbrev cX6_spread : ByteArray := prog_8_method_2_code
noncomputable def yX6_spread : MethodName := ⟨RX6, "spread", "(LSeatsRound$Table;I)I"⟩
noncomputable abbrev cX6_reaches : ByteArray := prog_8_method_3_code
noncomputable def yX6_reaches : MethodName := ⟨RX6, "reaches", "(II)Z"⟩
noncomputable abbrev cX6_receives : ByteArray := prog_8_method_4_code
noncomputable def yX6_receives : MethodName := ⟨RX6, "receives", "(III)Z"⟩
noncomputable abbrev cX6_takesGreater : ByteArray := prog_8_method_5_code
noncomputable def yX6_takesGreater : MethodName := ⟨RX6, "takesGreater", "(III)Z"⟩
noncomputable abbrev cX6_hasRoom : ByteArray := prog_8_method_6_code
noncomputable def yX6_hasRoom : MethodName := ⟨RX6, "hasRoom", "(II)Z"⟩
noncomputable abbrev cX6_isKeptFor : ByteArray := prog_8_method_7_code
noncomputable def yX6_isKeptFor : MethodName := ⟨RX6, "isKeptFor", "(II)Z"⟩
noncomputable abbrev cX6_handBack : ByteArray := prog_8_method_8_code
noncomputable def yX6_handBack : MethodName := ⟨RX6, "handBack", "(I)V"⟩
noncomputable abbrev cX6_empty : ByteArray := prog_8_method_9_code
noncomputable def yX6_empty : MethodName := ⟨RX6, "empty", "(I)V"⟩
noncomputable abbrev cX6_greatestFor : ByteArray := prog_8_method_10_code
noncomputable def yX6_greatestFor : MethodName := ⟨RX6, "greatestFor", "(LSeatsRound$Table;I)I"⟩
noncomputable abbrev cX6_movePiece : ByteArray := prog_8_method_11_code
noncomputable def yX6_movePiece : MethodName := ⟨RX6, "movePiece", "(III)I"⟩
noncomputable abbrev cX6_mendAll : ByteArray := prog_8_method_12_code
noncomputable def yX6_mendAll : MethodName := ⟨RX6, "mendAll", "(LSeatsRound$Table;)I"⟩
noncomputable abbrev cX6_greatestAnywhere : ByteArray := prog_8_method_13_code
noncomputable def yX6_greatestAnywhere : MethodName := ⟨RX6, "greatestAnywhere", "(I)I"⟩
noncomputable abbrev cX6_compare : ByteArray := prog_8_method_14_code
noncomputable def yX6_compare : MethodName := ⟨RX6, "compare", "(II)V"⟩
noncomputable abbrev cX6_grow : ByteArray := prog_8_method_15_code
noncomputable def yX6_grow : MethodName := ⟨RX6, "grow", "([II)V"⟩
noncomputable abbrev cX6_wordsAsked : ByteArray := prog_8_method_16_code
noncomputable def yX6_wordsAsked : MethodName := ⟨RX6, "wordsAsked", "()I"⟩
noncomputable abbrev cX6_unlikeLeaves : ByteArray := prog_8_method_17_code
noncomputable def yX6_unlikeLeaves : MethodName := ⟨RX6, "unlikeLeaves", "()I"⟩
noncomputable abbrev cX6_copiesOn : ByteArray := prog_8_method_18_code
noncomputable def yX6_copiesOn : MethodName := ⟨RX6, "copiesOn", "(I)I"⟩
noncomputable abbrev cX6_keptBy : ByteArray := prog_8_method_19_code
noncomputable def yX6_keptBy : MethodName := ⟨RX6, "keptBy", "(I)I"⟩
noncomputable abbrev cX6_allCopies : ByteArray := prog_8_method_20_code
noncomputable def yX6_allCopies : MethodName := ⟨RX6, "allCopies", "()I"⟩
noncomputable abbrev cX6_allKept : ByteArray := prog_8_method_21_code
noncomputable def yX6_allKept : MethodName := ⟨RX6, "allKept", "()I"⟩
noncomputable abbrev cX6_filled : ByteArray := prog_8_method_22_code
noncomputable def yX6_filled : MethodName := ⟨RX6, "filled", "([I)I"⟩
noncomputable def RX7 : String := "SeatsRound$Rows"
noncomputable def TX7 : u_T := fun k => match k with
  | 0 => ("SeatsRound$Rows", "keeper", "[I", true)
  | 1 => ("SeatsRound$Rows", "sort", "[I", true)
  | 2 => ("SeatsRound$Rows", "length", "[I", true)
  | _ => ("SeatsRound$Rows", "elements", "[[J", true)
noncomputable def tyX7 : Nat → FieldType := fun k => match k with
  | 0 => .array .int
  | 1 => .array .int
  | 2 => .array .int
  | _ => .array (.array .long)
noncomputable abbrev wsX70 : List Cond := u_ws RX7 TX7 4
theorem nmX7 : ∀ a, a < 4 → ∀ b, b < 4 → a ≠ b → (TX7 a).2.1 ≠ (TX7 b).2.1 := by decide +kernel
theorem tyX7_ok : ∀ k, k < 4 → parseFieldDescriptor (TX7 k).2.2.1 = some (tyX7 k) := by decide +kernel
noncomputable abbrev cX7_init : ByteArray := prog_9_method_1_code
noncomputable def yX7_init : MethodName := ⟨RX7, "<init>", "()V"⟩
noncomputable abbrev cX7_holdKeeper : ByteArray := prog_9_method_2_code
noncomputable def yX7_holdKeeper : MethodName := ⟨RX7, "holdKeeper", "(II)V"⟩
noncomputable abbrev cX7_holdRow : ByteArray := prog_9_method_3_code
noncomputable def yX7_holdRow : MethodName := ⟨RX7, "holdRow", "(III)V"⟩
noncomputable abbrev cX7_isRow : ByteArray := prog_9_method_4_code
noncomputable def yX7_isRow : MethodName := ⟨RX7, "isRow", "(I)Z"⟩
noncomputable abbrev cX7_isEmpty : ByteArray := prog_9_method_5_code
noncomputable def yX7_isEmpty : MethodName := ⟨RX7, "isEmpty", "(I)Z"⟩
noncomputable abbrev cX7_refusalAt : ByteArray := prog_9_method_6_code
noncomputable def yX7_refusalAt : MethodName := ⟨RX7, "refusalAt", "(II)I"⟩
noncomputable abbrev cX7_spans : ByteArray := prog_9_method_7_code
noncomputable def yX7_spans : MethodName := ⟨RX7, "spans", "(III)Z"⟩
noncomputable abbrev cX7_lowest : ByteArray := prog_9_method_8_code
noncomputable def yX7_lowest : MethodName := ⟨RX7, "lowest", "(IJ)J"⟩
noncomputable def RX8 : String := "SeatsRound$Table"
noncomputable def TX8 : u_T := fun k => match k with
  | 0 => ("SeatsRound$Table", "members", "I", false)
  | 1 => ("SeatsRound$Table", "turn", "I", false)
  | 2 => ("SeatsRound$Table", "copies", "I", false)
  | 3 => ("SeatsRound$Table", "streets", "I", false)
  | 4 => ("SeatsRound$Table", "way", "I", false)
  | 5 => ("SeatsRound$Table", "seats", "I", false)
  | 6 => ("SeatsRound$Table", "lawLength", "I", false)
  | 7 => ("SeatsRound$Table", "oddsCounted", "Z", false)
  | 8 => ("SeatsRound$Table", "weight", "[I", true)
  | 9 => ("SeatsRound$Table", "odds", "[I", true)
  | 10 => ("SeatsRound$Table", "law", "[B", true)
  | 11 => ("SeatsRound$Table", "owner", "[B", true)
  | _ => ("SeatsRound$Table", "ahead", "[S", true)
noncomputable def tyX8 : Nat → FieldType := fun k => match k with
  | 0 => .int
  | 1 => .int
  | 2 => .int
  | 3 => .int
  | 4 => .int
  | 5 => .int
  | 6 => .int
  | 7 => .boolean
  | 8 => .array .int
  | 9 => .array .int
  | 10 => .array .byte
  | 11 => .array .byte
  | _ => .array .short
noncomputable abbrev wsX80 : List Cond := u_ws RX8 TX8 13
theorem nmX8 : ∀ a, a < 13 → ∀ b, b < 13 → a ≠ b → (TX8 a).2.1 ≠ (TX8 b).2.1 := by decide +kernel
theorem tyX8_ok : ∀ k, k < 13 → parseFieldDescriptor (TX8 k).2.2.1 = some (tyX8 k) := by decide +kernel
noncomputable abbrev cX8_init : ByteArray := prog_10_method_1_code
noncomputable def yX8_init : MethodName := ⟨RX8, "<init>", "()V"⟩
noncomputable abbrev cX8_takeMembers : ByteArray := prog_10_method_2_code
noncomputable def yX8_takeMembers : MethodName := ⟨RX8, "takeMembers", "(ILSeatsRound$Keepers;)V"⟩
noncomputable abbrev cX8_takeLaw : ByteArray := prog_10_method_3_code
noncomputable def yX8_takeLaw : MethodName := ⟨RX8, "takeLaw", "([BI)V"⟩
noncomputable abbrev cX8_takeAll : ByteArray := prog_10_method_4_code
noncomputable def yX8_takeAll : MethodName := ⟨RX8, "takeAll", "(LSeatsRound$Table;)V"⟩
noncomputable abbrev cX8_seatAll : ByteArray := prog_10_method_5_code
noncomputable def yX8_seatAll : MethodName := ⟨RX8, "seatAll", "(I)V"⟩
noncomputable abbrev cX8_freeFrom : ByteArray := prog_10_method_6_code
noncomputable def yX8_freeFrom : MethodName := ⟨RX8, "freeFrom", "(I)I"⟩
noncomputable abbrev cX8_linkPlaces : ByteArray := prog_10_method_7_code
noncomputable def yX8_linkPlaces : MethodName := ⟨RX8, "linkPlaces", "()V"⟩
noncomputable abbrev cX8_sumOf : ByteArray := prog_10_method_8_code
noncomputable def yX8_sumOf : MethodName := ⟨RX8, "sumOf", "(II)I"⟩
noncomputable abbrev cX8_firstFor : ByteArray := prog_10_method_9_code
noncomputable def yX8_firstFor : MethodName := ⟨RX8, "firstFor", "(I)I"⟩
noncomputable abbrev cX8_countOdds : ByteArray := prog_10_method_10_code
noncomputable def yX8_countOdds : MethodName := ⟨RX8, "countOdds", "()V"⟩
noncomputable abbrev cX8_unevenness : ByteArray := prog_10_method_11_code
noncomputable def yX8_unevenness : MethodName := ⟨RX8, "unevenness", "()I"⟩
noncomputable abbrev cX8_alikeIn : ByteArray := prog_10_method_12_code
noncomputable def yX8_alikeIn : MethodName := ⟨RX8, "alikeIn", "(LSeatsRound$Table;)I"⟩
noncomputable def RX9 : String := "SeatsRound$Tape"
noncomputable def TX9 : u_T := fun k => match k with
  | 0 => ("SeatsRound$Tape", "bytes", "[B", true)
  | _ => ("SeatsRound$Tape", "length", "I", false)
noncomputable def tyX9 : Nat → FieldType := fun k => match k with
  | 0 => .array .byte
  | _ => .int
noncomputable abbrev wsX90 : List Cond := u_ws RX9 TX9 2
theorem nmX9 : ∀ a, a < 2 → ∀ b, b < 2 → a ≠ b → (TX9 a).2.1 ≠ (TX9 b).2.1 := by decide +kernel
theorem tyX9_ok : ∀ k, k < 2 → parseFieldDescriptor (TX9 k).2.2.1 = some (tyX9 k) := by decide +kernel
noncomputable abbrev cX9_init : ByteArray := prog_11_method_1_code
noncomputable def yX9_init : MethodName := ⟨RX9, "<init>", "()V"⟩
noncomputable abbrev cX9_append : ByteArray := prog_11_method_2_code
noncomputable def yX9_append : MethodName := ⟨RX9, "append", "(II)V"⟩
noncomputable def RX10 : String := "SeatsRound$Turnings"
noncomputable def TX10 : u_T := fun k => match k with
  | 0 => ("SeatsRound$Turnings", "told", "[I", true)
  | 1 => ("SeatsRound$Turnings", "count", "I", false)
  | 2 => ("SeatsRound$Turnings", "greatest", "I", false)
  | 3 => ("SeatsRound$Turnings", "shares", "[I", true)
  | _ => ("SeatsRound$Turnings", "nameList", "LSeatsRound$NameList;", true)
noncomputable def tyX10 : Nat → FieldType := fun k => match k with
  | 0 => .array .int
  | 1 => .int
  | 2 => .int
  | 3 => .array .int
  | _ => .object "SeatsRound$NameList"
noncomputable abbrev wsX100 : List Cond := u_ws RX10 TX10 5
theorem nmX10 : ∀ a, a < 5 → ∀ b, b < 5 → a ≠ b → (TX10 a).2.1 ≠ (TX10 b).2.1 := by decide +kernel
theorem tyX10_ok : ∀ k, k < 5 → parseFieldDescriptor (TX10 k).2.2.1 = some (tyX10 k) := by decide +kernel
noncomputable abbrev cX10_init : ByteArray := prog_12_method_1_code
noncomputable def yX10_init : MethodName := ⟨RX10, "<init>", "(LSeatsRound$NameList;)V"⟩
noncomputable abbrev cX10_leastHarm : ByteArray := prog_12_method_2_code
noncomputable def yX10_leastHarm : MethodName := ⟨RX10, "leastHarm", "(LSeatsRound$Table;LSeatsRound$Table;)I"⟩
noncomputable abbrev cX10_greatestShare : ByteArray := prog_12_method_3_code
noncomputable def yX10_greatestShare : MethodName := ⟨RX10, "greatestShare", "(LSeatsRound$Table;)I"⟩
noncomputable def RX11 : String := "SeatsRound"
noncomputable def TX11 : u_T := fun k => match k with
  | 0 => ("SeatsRound", "tape", "LSeatsRound$Tape;", true)
  | 1 => ("SeatsRound", "nameList", "LSeatsRound$NameList;", true)
  | 2 => ("SeatsRound", "keepers", "LSeatsRound$Keepers;", true)
  | 3 => ("SeatsRound", "law", "LSeatsRound$Law;", true)
  | 4 => ("SeatsRound", "choice", "LSeatsRound$Choice;", true)
  | 5 => ("SeatsRound", "tables", "[LSeatsRound$Table;", true)
  | 6 => ("SeatsRound", "tableCount", "I", false)
  | 7 => ("SeatsRound", "draft", "LSeatsRound$Table;", true)
  | 8 => ("SeatsRound", "parcels", "LSeatsRound$Parcels;", true)
  | 9 => ("SeatsRound", "orders", "LSeatsRound$Orders;", true)
  | 10 => ("SeatsRound", "turnings", "LSeatsRound$Turnings;", true)
  | 11 => ("SeatsRound", "acts", "LSeatsRound$Acts;", true)
  | _ => ("SeatsRound", "rows", "LSeatsRound$Rows;", true)
noncomputable def tyX11 : Nat → FieldType := fun k => match k with
  | 0 => .object "SeatsRound$Tape"
  | 1 => .object "SeatsRound$NameList"
  | 2 => .object "SeatsRound$Keepers"
  | 3 => .object "SeatsRound$Law"
  | 4 => .object "SeatsRound$Choice"
  | 5 => .array (.object "SeatsRound$Table")
  | 6 => .int
  | 7 => .object "SeatsRound$Table"
  | 8 => .object "SeatsRound$Parcels"
  | 9 => .object "SeatsRound$Orders"
  | 10 => .object "SeatsRound$Turnings"
  | 11 => .object "SeatsRound$Acts"
  | _ => .object "SeatsRound$Rows"
noncomputable abbrev wsX110 : List Cond := u_ws RX11 TX11 13
theorem nmX11 : ∀ a, a < 13 → ∀ b, b < 13 → a ≠ b → (TX11 a).2.1 ≠ (TX11 b).2.1 := by decide +kernel
theorem tyX11_ok : ∀ k, k < 13 → parseFieldDescriptor (TX11 k).2.2.1 = some (tyX11 k) := by decide +kernel
noncomputable abbrev cX11_init : ByteArray := prog_1_method_1_code
noncomputable def yX11_init : MethodName := ⟨RX11, "<init>", "()V"⟩
noncomputable abbrev cX11_feed : ByteArray := prog_1_method_2_code
noncomputable def yX11_feed : MethodName := ⟨RX11, "feed", "(II)I"⟩
noncomputable abbrev cX11_name : ByteArray := prog_1_method_3_code
noncomputable def yX11_name : MethodName := ⟨RX11, "name", "()I"⟩
noncomputable abbrev cX11_number : ByteArray := prog_1_method_4_code
noncomputable def yX11_number : MethodName := ⟨RX11, "number", "(II)I"⟩
noncomputable abbrev cX11_keeper : ByteArray := prog_1_method_5_code
noncomputable def yX11_keeper : MethodName := ⟨RX11, "keeper", "(II)I"⟩
noncomputable abbrev cX11_become : ByteArray := prog_1_method_6_code
noncomputable def yX11_become : MethodName := ⟨RX11, "become", "(II)I"⟩
noncomputable abbrev cX11_strength : ByteArray := prog_1_method_7_code
noncomputable def yX11_strength : MethodName := ⟨RX11, "strength", "(II)I"⟩
noncomputable abbrev cX11_ofKeeper : ByteArray := prog_1_method_8_code
noncomputable def yX11_ofKeeper : MethodName := ⟨RX11, "ofKeeper", "(II)I"⟩
noncomputable abbrev cX11_isKind : ByteArray := prog_1_method_9_code
noncomputable def yX11_isKind : MethodName := ⟨RX11, "isKind", "(I)Z"⟩
noncomputable abbrev cX11_isStrength : ByteArray := prog_1_method_10_code
noncomputable def yX11_isStrength : MethodName := ⟨RX11, "isStrength", "(I)Z"⟩
noncomputable abbrev cX11_table : ByteArray := prog_1_method_11_code
noncomputable def yX11_table : MethodName := ⟨RX11, "table", "(II)I"⟩
noncomputable abbrev cX11_ofTable : ByteArray := prog_1_method_12_code
noncomputable def yX11_ofTable : MethodName := ⟨RX11, "ofTable", "(II)I"⟩
noncomputable abbrev cX11_seat : ByteArray := prog_1_method_13_code
noncomputable def yX11_seat : MethodName := ⟨RX11, "seat", "(II)I"⟩
noncomputable abbrev cX11_picked : ByteArray := prog_1_method_14_code
noncomputable def yX11_picked : MethodName := ⟨RX11, "picked", "(III)I"⟩
noncomputable abbrev cX11_keeperOf : ByteArray := prog_1_method_15_code
noncomputable def yX11_keeperOf : MethodName := ⟨RX11, "keeperOf", "(III)I"⟩
noncomputable abbrev cX11_tooFew : ByteArray := prog_1_method_16_code
noncomputable def yX11_tooFew : MethodName := ⟨RX11, "tooFew", "(I)I"⟩
noncomputable abbrev cX11_share : ByteArray := prog_1_method_17_code
noncomputable def yX11_share : MethodName := ⟨RX11, "share", "(III)I"⟩
noncomputable abbrev cX11_moves : ByteArray := prog_1_method_18_code
noncomputable def yX11_moves : MethodName := ⟨RX11, "moves", "(III)I"⟩
noncomputable abbrev cX11_tableAt : ByteArray := prog_1_method_19_code
noncomputable def yX11_tableAt : MethodName := ⟨RX11, "tableAt", "(I)LSeatsRound$Table;"⟩
noncomputable abbrev cX11_isPlace : ByteArray := prog_1_method_20_code
noncomputable def yX11_isPlace : MethodName := ⟨RX11, "isPlace", "(I)Z"⟩
noncomputable abbrev cX11_knows : ByteArray := prog_1_method_21_code
noncomputable def yX11_knows : MethodName := ⟨RX11, "knows", "(II)I"⟩
noncomputable abbrev cX11_write : ByteArray := prog_1_method_22_code
noncomputable def yX11_write : MethodName := ⟨RX11, "write", "(II)I"⟩
noncomputable abbrev cX11_read : ByteArray := prog_1_method_23_code
noncomputable def yX11_read : MethodName := ⟨RX11, "read", "(II)I"⟩
noncomputable abbrev cX11_onShelf : ByteArray := prog_1_method_24_code
noncomputable def yX11_onShelf : MethodName := ⟨RX11, "onShelf", "(III)I"⟩
noncomputable abbrev cX11_fall : ByteArray := prog_1_method_25_code
noncomputable def yX11_fall : MethodName := ⟨RX11, "fall", "(II)I"⟩
noncomputable abbrev cX11_half : ByteArray := prog_1_method_26_code
noncomputable def yX11_half : MethodName := ⟨RX11, "half", "(III)I"⟩
noncomputable abbrev cX11_mend : ByteArray := prog_1_method_27_code
noncomputable def yX11_mend : MethodName := ⟨RX11, "mend", "(I)I"⟩
noncomputable abbrev cX11_trees : ByteArray := prog_1_method_28_code
noncomputable def yX11_trees : MethodName := ⟨RX11, "trees", "(III)I"⟩
noncomputable abbrev cX11_noon : ByteArray := prog_1_method_29_code
noncomputable def yX11_noon : MethodName := ⟨RX11, "noon", "(III)I"⟩
noncomputable abbrev cX11_lies : ByteArray := prog_1_method_30_code
noncomputable def yX11_lies : MethodName := ⟨RX11, "lies", "(IIII)I"⟩
noncomputable abbrev cX11_upward : ByteArray := prog_1_method_31_code
noncomputable def yX11_upward : MethodName := ⟨RX11, "upward", "(II)I"⟩
noncomputable abbrev cX11_comes : ByteArray := prog_1_method_32_code
noncomputable def yX11_comes : MethodName := ⟨RX11, "comes", "(I)I"⟩
noncomputable abbrev cX11_order : ByteArray := prog_1_method_33_code
noncomputable def yX11_order : MethodName := ⟨RX11, "order", "(I)I"⟩
noncomputable abbrev cX11_ordered : ByteArray := prog_1_method_34_code
noncomputable def yX11_ordered : MethodName := ⟨RX11, "ordered", "(I)I"⟩
noncomputable abbrev cX11_turning : ByteArray := prog_1_method_35_code
noncomputable def yX11_turning : MethodName := ⟨RX11, "turning", "(I)I"⟩
noncomputable abbrev cX11_harm : ByteArray := prog_1_method_36_code
noncomputable def yX11_harm : MethodName := ⟨RX11, "harm", "(I)I"⟩
noncomputable abbrev cX11_harmed : ByteArray := prog_1_method_37_code
noncomputable def yX11_harmed : MethodName := ⟨RX11, "harmed", "()I"⟩
noncomputable abbrev cX11_act : ByteArray := prog_1_method_38_code
noncomputable def yX11_act : MethodName := ⟨RX11, "act", "(III)I"⟩
noncomputable abbrev cX11_trace : ByteArray := prog_1_method_39_code
noncomputable def yX11_trace : MethodName := ⟨RX11, "trace", "(I)I"⟩
noncomputable abbrev cX11_keep : ByteArray := prog_1_method_40_code
noncomputable def yX11_keep : MethodName := ⟨RX11, "keep", "(II)I"⟩
noncomputable abbrev cX11_row : ByteArray := prog_1_method_41_code
noncomputable def yX11_row : MethodName := ⟨RX11, "row", "(III)I"⟩
noncomputable abbrev cX11_put : ByteArray := prog_1_method_42_code
noncomputable def yX11_put : MethodName := ⟨RX11, "put", "(IIJ)I"⟩
noncomputable abbrev cX11_element : ByteArray := prog_1_method_43_code
noncomputable def yX11_element : MethodName := ⟨RX11, "element", "(II)J"⟩
noncomputable abbrev cX11_shift : ByteArray := prog_1_method_44_code
noncomputable def yX11_shift : MethodName := ⟨RX11, "shift", "(IIIII)I"⟩
noncomputable abbrev cX11_taken : ByteArray := prog_1_method_45_code
noncomputable def yX11_taken : MethodName := ⟨RX11, "taken", "(II)I"⟩
noncomputable abbrev cX11_names : ByteArray := prog_1_method_46_code
noncomputable def yX11_names : MethodName := ⟨RX11, "names", "(III)I"⟩
noncomputable abbrev cX11_count : ByteArray := prog_1_method_47_code
noncomputable def yX11_count : MethodName := ⟨RX11, "count", "(I)I"⟩
noncomputable abbrev cX11_isShelf : ByteArray := prog_1_method_48_code
noncomputable def yX11_isShelf : MethodName := ⟨RX11, "isShelf", "(I)Z"⟩
noncomputable abbrev cX11_isUnder : ByteArray := prog_1_method_49_code
noncomputable def yX11_isUnder : MethodName := ⟨RX11, "isUnder", "(II)Z"⟩
noncomputable abbrev cX11_strewn : ByteArray := prog_1_method_50_code
noncomputable def yX11_strewn : MethodName := ⟨RX11, "strewn", "(I)I"⟩
noncomputable abbrev cX11_placeBehind : ByteArray := prog_1_method_51_code
noncomputable def yX11_placeBehind : MethodName := ⟨RX11, "placeBehind", "(I)I"⟩
noncomputable def RX12 : String := "SeatsRoundModel"
noncomputable def TX12 : u_T := fun k => match k with
  | 0 => ("SeatsRoundModel", "names", "I", false)
  | 1 => ("SeatsRoundModel", "nameSize", "[I", true)
  | 2 => ("SeatsRoundModel", "nameByte", "[I", true)
  | 3 => ("SeatsRoundModel", "keepers", "I", false)
  | 4 => ("SeatsRoundModel", "street", "[I", true)
  | 5 => ("SeatsRoundModel", "strength", "[I", true)
  | 6 => ("SeatsRoundModel", "kind", "[I", true)
  | 7 => ("SeatsRoundModel", "known", "[I", true)
  | 8 => ("SeatsRoundModel", "isFallen", "[Z", true)
  | 9 => ("SeatsRoundModel", "tables", "I", false)
  | 10 => ("SeatsRoundModel", "tableOf", "[I", true)
  | 11 => ("SeatsRoundModel", "tableZ", "[I", true)
  | 12 => ("SeatsRoundModel", "copies", "[I", true)
  | 13 => ("SeatsRoundModel", "streets", "[I", true)
  | 14 => ("SeatsRoundModel", "picks", "[I", true)
  | 15 => ("SeatsRoundModel", "lawSize", "[I", true)
  | 16 => ("SeatsRoundModel", "lawByte", "[I", true)
  | 17 => ("SeatsRoundModel", "counts", "[I", true)
  | 18 => ("SeatsRoundModel", "streetIn", "[I", true)
  | 19 => ("SeatsRoundModel", "seatMany", "[I", true)
  | 20 => ("SeatsRoundModel", "seats", "[I", true)
  | 21 => ("SeatsRoundModel", "tape", "[I", true)
  | 22 => ("SeatsRoundModel", "taped", "I", false)
  | 23 => ("SeatsRoundModel", "version", "[I", true)
  | 24 => ("SeatsRoundModel", "kept", "[I", true)
  | 25 => ("SeatsRoundModel", "keptFor", "[I", true)
  | 26 => ("SeatsRoundModel", "pieces", "[I", true)
  | 27 => ("SeatsRoundModel", "piecesTo", "[I", true)
  | 28 => ("SeatsRoundModel", "written", "[I", true)
  | 29 => ("SeatsRoundModel", "writings", "I", false)
  | 30 => ("SeatsRoundModel", "comers", "I", false)
  | 31 => ("SeatsRoundModel", "comer", "[I", true)
  | 32 => ("SeatsRoundModel", "orderMany", "I", false)
  | 33 => ("SeatsRoundModel", "orderTold", "[I", true)
  | 34 => ("SeatsRoundModel", "turnings", "I", false)
  | 35 => ("SeatsRoundModel", "turning", "[I", true)
  | 36 => ("SeatsRoundModel", "harmShare", "I", false)
  | 37 => ("SeatsRoundModel", "trace", "[I", true)
  | 38 => ("SeatsRoundModel", "bodies", "I", false)
  | 39 => ("SeatsRoundModel", "shelfIs", "[I", true)
  | 40 => ("SeatsRoundModel", "shelfSort", "[I", true)
  | 41 => ("SeatsRoundModel", "shelfSize", "[I", true)
  | 42 => ("SeatsRoundModel", "elements", "[J", true)
  | 43 => ("SeatsRoundModel", "told", "[I", true)
  | 44 => ("SeatsRoundModel", "lawTable", "I", false)
  | 45 => ("SeatsRoundModel", "at", "I", false)
  | 46 => ("SeatsRoundModel", "opens", "I", false)
  | 47 => ("SeatsRoundModel", "isFaulty", "Z", false)
  | 48 => ("SeatsRoundModel", "nowN", "I", false)
  | 49 => ("SeatsRoundModel", "nowU", "I", false)
  | 50 => ("SeatsRoundModel", "nowT", "I", false)
  | 51 => ("SeatsRoundModel", "nowX", "I", false)
  | 52 => ("SeatsRoundModel", "picked", "[I", true)
  | 53 => ("SeatsRoundModel", "pickedMany", "I", false)
  | 54 => ("SeatsRoundModel", "chosen", "[I", true)
  | 55 => ("SeatsRoundModel", "chosenMany", "I", false)
  | 56 => ("SeatsRoundModel", "odds", "[I", true)
  | 57 => ("SeatsRoundModel", "keepsBy", "[I", true)
  | _ => ("SeatsRoundModel", "tried", "[I", true)
noncomputable def tyX12 : Nat → FieldType := fun k => match k with
  | 0 => .int
  | 1 => .array .int
  | 2 => .array .int
  | 3 => .int
  | 4 => .array .int
  | 5 => .array .int
  | 6 => .array .int
  | 7 => .array .int
  | 8 => .array .boolean
  | 9 => .int
  | 10 => .array .int
  | 11 => .array .int
  | 12 => .array .int
  | 13 => .array .int
  | 14 => .array .int
  | 15 => .array .int
  | 16 => .array .int
  | 17 => .array .int
  | 18 => .array .int
  | 19 => .array .int
  | 20 => .array .int
  | 21 => .array .int
  | 22 => .int
  | 23 => .array .int
  | 24 => .array .int
  | 25 => .array .int
  | 26 => .array .int
  | 27 => .array .int
  | 28 => .array .int
  | 29 => .int
  | 30 => .int
  | 31 => .array .int
  | 32 => .int
  | 33 => .array .int
  | 34 => .int
  | 35 => .array .int
  | 36 => .int
  | 37 => .array .int
  | 38 => .int
  | 39 => .array .int
  | 40 => .array .int
  | 41 => .array .int
  | 42 => .array .long
  | 43 => .array .int
  | 44 => .int
  | 45 => .int
  | 46 => .int
  | 47 => .boolean
  | 48 => .int
  | 49 => .int
  | 50 => .int
  | 51 => .int
  | 52 => .array .int
  | 53 => .int
  | 54 => .array .int
  | 55 => .int
  | 56 => .array .int
  | 57 => .array .int
  | _ => .array .int
noncomputable abbrev wsX120 : List Cond := u_ws RX12 TX12 59
theorem nmX12 : ∀ a, a < 59 → ∀ b, b < 59 → a ≠ b → (TX12 a).2.1 ≠ (TX12 b).2.1 := by decide +kernel
theorem tyX12_ok : ∀ k, k < 59 → parseFieldDescriptor (TX12 k).2.2.1 = some (tyX12 k) := by decide +kernel
noncomputable abbrev cX12_init : ByteArray := prog_14_method_1_code
noncomputable def yX12_init : MethodName := ⟨RX12, "<init>", "()V"⟩
noncomputable abbrev cX12_in : ByteArray := prog_14_method_3_code
noncomputable def yX12_in : MethodName := ⟨RX12, "in", "(III)Z"⟩
noncomputable abbrev cX12_isName : ByteArray := prog_14_method_4_code
noncomputable def yX12_isName : MethodName := ⟨RX12, "isName", "(I)Z"⟩
noncomputable abbrev cX12_isKeeper : ByteArray := prog_14_method_5_code
noncomputable def yX12_isKeeper : MethodName := ⟨RX12, "isKeeper", "(I)Z"⟩
noncomputable abbrev cX12_isTable : ByteArray := prog_14_method_6_code
noncomputable def yX12_isTable : MethodName := ⟨RX12, "isTable", "(I)Z"⟩
noncomputable abbrev cX12_feed : ByteArray := prog_14_method_7_code
noncomputable def yX12_feed : MethodName := ⟨RX12, "feed", "(II)I"⟩
noncomputable abbrev cX12_found : ByteArray := prog_14_method_8_code
noncomputable def yX12_found : MethodName := ⟨RX12, "found", "(I)I"⟩
noncomputable abbrev cX12_comesName : ByteArray := prog_14_method_9_code
noncomputable def yX12_comesName : MethodName := ⟨RX12, "comesName", "(I)V"⟩
noncomputable abbrev cX12_name : ByteArray := prog_14_method_10_code
noncomputable def yX12_name : MethodName := ⟨RX12, "name", "()I"⟩
noncomputable abbrev cX12_numberOf : ByteArray := prog_14_method_11_code
noncomputable def yX12_numberOf : MethodName := ⟨RX12, "numberOf", "(II)I"⟩
noncomputable abbrev cX12_number : ByteArray := prog_14_method_12_code
noncomputable def yX12_number : MethodName := ⟨RX12, "number", "(II)I"⟩
noncomputable abbrev cX12_keeper : ByteArray := prog_14_method_13_code
noncomputable def yX12_keeper : MethodName := ⟨RX12, "keeper", "(II)I"⟩
noncomputable abbrev cX12_countsNow : ByteArray := prog_14_method_14_code
noncomputable def yX12_countsNow : MethodName := ⟨RX12, "countsNow", "(I)I"⟩
noncomputable abbrev cX12_become : ByteArray := prog_14_method_15_code
noncomputable def yX12_become : MethodName := ⟨RX12, "become", "(II)I"⟩
noncomputable abbrev cX12_strength : ByteArray := prog_14_method_16_code
noncomputable def yX12_strength : MethodName := ⟨RX12, "strength", "(II)I"⟩
noncomputable abbrev cX12_many : ByteArray := prog_14_method_17_code
noncomputable def yX12_many : MethodName := ⟨RX12, "many", "(IZ)I"⟩
noncomputable abbrev cX12_ofKeeper : ByteArray := prog_14_method_18_code
noncomputable def yX12_ofKeeper : MethodName := ⟨RX12, "ofKeeper", "(II)I"⟩
noncomputable abbrev cX12_here : ByteArray := prog_14_method_19_code
noncomputable def yX12_here : MethodName := ⟨RX12, "here", "()I"⟩
noncomputable abbrev cX12_eats : ByteArray := prog_14_method_20_code
noncomputable def yX12_eats : MethodName := ⟨RX12, "eats", "(I)V"⟩
noncomputable abbrev cX12_sum : ByteArray := prog_14_method_21_code
noncomputable def yX12_sum : MethodName := ⟨RX12, "sum", "()I"⟩
noncomputable abbrev cX12_product : ByteArray := prog_14_method_22_code
noncomputable def yX12_product : MethodName := ⟨RX12, "product", "()I"⟩
noncomputable abbrev cX12_one : ByteArray := prog_14_method_23_code
noncomputable def yX12_one : MethodName := ⟨RX12, "one", "()I"⟩
noncomputable abbrev cX12_held : ByteArray := prog_14_method_24_code
noncomputable def yX12_held : MethodName := ⟨RX12, "held", "(I)I"⟩
noncomputable abbrev cX12_reads : ByteArray := prog_14_method_25_code
noncomputable def yX12_reads : MethodName := ⟨RX12, "reads", "(I)I"⟩
noncomputable abbrev cX12_mixed : ByteArray := prog_14_method_26_code
noncomputable def yX12_mixed : MethodName := ⟨RX12, "mixed", "(III)I"⟩
noncomputable abbrev cX12_isIn : ByteArray := prog_14_method_27_code
noncomputable def yX12_isIn : MethodName := ⟨RX12, "isIn", "(II)Z"⟩
noncomputable abbrev cX12_numbers : ByteArray := prog_14_method_28_code
noncomputable def yX12_numbers : MethodName := ⟨RX12, "numbers", "(I)V"⟩
noncomputable abbrev cX12_sits : ByteArray := prog_14_method_29_code
noncomputable def yX12_sits : MethodName := ⟨RX12, "sits", "(I)V"⟩
noncomputable abbrev cX12_table : ByteArray := prog_14_method_30_code
noncomputable def yX12_table : MethodName := ⟨RX12, "table", "(II)I"⟩
noncomputable abbrev cX12_pickNext : ByteArray := prog_14_method_31_code
noncomputable def yX12_pickNext : MethodName := ⟨RX12, "pickNext", "(III)V"⟩
noncomputable abbrev cX12_pick : ByteArray := prog_14_method_32_code
noncomputable def yX12_pick : MethodName := ⟨RX12, "pick", "(II)V"⟩
noncomputable abbrev cX12_pickBest : ByteArray := prog_14_method_33_code
noncomputable def yX12_pickBest : MethodName := ⟨RX12, "pickBest", "(III)V"⟩
noncomputable abbrev cX12_streetsOf : ByteArray := prog_14_method_34_code
noncomputable def yX12_streetsOf : MethodName := ⟨RX12, "streetsOf", "(I)I"⟩
noncomputable abbrev cX12_isChosen : ByteArray := prog_14_method_35_code
noncomputable def yX12_isChosen : MethodName := ⟨RX12, "isChosen", "(I)Z"⟩
noncomputable abbrev cX12_choose : ByteArray := prog_14_method_36_code
noncomputable def yX12_choose : MethodName := ⟨RX12, "choose", "(II)V"⟩
noncomputable abbrev cX12_chooseName : ByteArray := prog_14_method_37_code
noncomputable def yX12_chooseName : MethodName := ⟨RX12, "chooseName", "(II)V"⟩
noncomputable abbrev cX12_bits : ByteArray := prog_14_method_38_code
noncomputable def yX12_bits : MethodName := ⟨RX12, "bits", "()I"⟩
noncomputable abbrev cX12_seat : ByteArray := prog_14_method_39_code
noncomputable def yX12_seat : MethodName := ⟨RX12, "seat", "(II)I"⟩
noncomputable abbrev cX12_picked : ByteArray := prog_14_method_40_code
noncomputable def yX12_picked : MethodName := ⟨RX12, "picked", "(III)I"⟩
noncomputable abbrev cX12_keeperOf : ByteArray := prog_14_method_41_code
noncomputable def yX12_keeperOf : MethodName := ⟨RX12, "keeperOf", "(III)I"⟩
noncomputable abbrev cX12_tooFew : ByteArray := prog_14_method_42_code
noncomputable def yX12_tooFew : MethodName := ⟨RX12, "tooFew", "(I)I"⟩
noncomputable abbrev cX12_shareOf : ByteArray := prog_14_method_43_code
noncomputable def yX12_shareOf : MethodName := ⟨RX12, "shareOf", "(II)I"⟩
noncomputable abbrev cX12_findOdds : ByteArray := prog_14_method_44_code
noncomputable def yX12_findOdds : MethodName := ⟨RX12, "findOdds", "(I)V"⟩
noncomputable abbrev cX12_share : ByteArray := prog_14_method_45_code
noncomputable def yX12_share : MethodName := ⟨RX12, "share", "(III)I"⟩
noncomputable abbrev cX12_even : ByteArray := prog_14_method_46_code
noncomputable def yX12_even : MethodName := ⟨RX12, "even", "(I)I"⟩
noncomputable abbrev cX12_ofTable : ByteArray := prog_14_method_47_code
noncomputable def yX12_ofTable : MethodName := ⟨RX12, "ofTable", "(II)I"⟩
noncomputable abbrev cX12_ones : ByteArray := prog_14_method_48_code
noncomputable def yX12_ones : MethodName := ⟨RX12, "ones", "(I)I"⟩
noncomputable abbrev cX12_moves : ByteArray := prog_14_method_49_code
noncomputable def yX12_moves : MethodName := ⟨RX12, "moves", "(III)I"⟩
noncomputable abbrev cX12_knows : ByteArray := prog_14_method_50_code
noncomputable def yX12_knows : MethodName := ⟨RX12, "knows", "(II)I"⟩
noncomputable abbrev cX12_isAwake : ByteArray := prog_14_method_51_code
noncomputable def yX12_isAwake : MethodName := ⟨RX12, "isAwake", "(I)Z"⟩
noncomputable abbrev cX12_hasRoom : ByteArray := prog_14_method_52_code
noncomputable def yX12_hasRoom : MethodName := ⟨RX12, "hasRoom", "(II)Z"⟩
noncomputable abbrev cX12_keeps : ByteArray := prog_14_method_53_code
noncomputable def yX12_keeps : MethodName := ⟨RX12, "keeps", "(IIII)I"⟩
noncomputable abbrev cX12_write : ByteArray := prog_14_method_54_code
noncomputable def yX12_write : MethodName := ⟨RX12, "write", "(II)I"⟩
noncomputable abbrev cX12_read : ByteArray := prog_14_method_55_code
noncomputable def yX12_read : MethodName := ⟨RX12, "read", "(II)I"⟩
noncomputable abbrev cX12_onShelf : ByteArray := prog_14_method_56_code
noncomputable def yX12_onShelf : MethodName := ⟨RX12, "onShelf", "(III)I"⟩
noncomputable abbrev cX12_fall : ByteArray := prog_14_method_57_code
noncomputable def yX12_fall : MethodName := ⟨RX12, "fall", "(II)I"⟩
noncomputable abbrev cX12_half : ByteArray := prog_14_method_58_code
noncomputable def yX12_half : MethodName := ⟨RX12, "half", "(III)I"⟩
noncomputable abbrev cX12_mend : ByteArray := prog_14_method_59_code
noncomputable def yX12_mend : MethodName := ⟨RX12, "mend", "(I)I"⟩
noncomputable abbrev cX12_leafOf : ByteArray := prog_14_method_60_code
noncomputable def yX12_leafOf : MethodName := ⟨RX12, "leafOf", "(II)I"⟩
noncomputable abbrev cX12_areUnlike : ByteArray := prog_14_method_61_code
noncomputable def yX12_areUnlike : MethodName := ⟨RX12, "areUnlike", "(IIII)Z"⟩
noncomputable abbrev cX12_wordsBelow : ByteArray := prog_14_method_62_code
noncomputable def yX12_wordsBelow : MethodName := ⟨RX12, "wordsBelow", "(IIII)I"⟩
noncomputable abbrev cX12_trees : ByteArray := prog_14_method_63_code
noncomputable def yX12_trees : MethodName := ⟨RX12, "trees", "(III)I"⟩
noncomputable abbrev cX12_noon : ByteArray := prog_14_method_64_code
noncomputable def yX12_noon : MethodName := ⟨RX12, "noon", "(III)I"⟩
noncomputable abbrev cX12_lies : ByteArray := prog_14_method_65_code
noncomputable def yX12_lies : MethodName := ⟨RX12, "lies", "(IIII)I"⟩
noncomputable abbrev cX12_isComing : ByteArray := prog_14_method_66_code
noncomputable def yX12_isComing : MethodName := ⟨RX12, "isComing", "(I)Z"⟩
noncomputable abbrev cX12_comes : ByteArray := prog_14_method_67_code
noncomputable def yX12_comes : MethodName := ⟨RX12, "comes", "(I)I"⟩
noncomputable abbrev cX12_tries : ByteArray := prog_14_method_68_code
noncomputable def yX12_tries : MethodName := ⟨RX12, "tries", "(III)V"⟩
noncomputable abbrev cX12_setBy : ByteArray := prog_14_method_69_code
noncomputable def yX12_setBy : MethodName := ⟨RX12, "setBy", "(II)I"⟩
noncomputable abbrev cX12_nextOrder : ByteArray := prog_14_method_70_code
noncomputable def yX12_nextOrder : MethodName := ⟨RX12, "nextOrder", "(I)Z"⟩
noncomputable abbrev cX12_movesBy : ByteArray := prog_14_method_71_code
noncomputable def yX12_movesBy : MethodName := ⟨RX12, "movesBy", "(I)I"⟩
noncomputable abbrev cX12_order : ByteArray := prog_14_method_72_code
noncomputable def yX12_order : MethodName := ⟨RX12, "order", "(I)I"⟩
noncomputable abbrev cX12_ordered : ByteArray := prog_14_method_73_code
noncomputable def yX12_ordered : MethodName := ⟨RX12, "ordered", "(I)I"⟩
noncomputable abbrev cX12_turning : ByteArray := prog_14_method_74_code
noncomputable def yX12_turning : MethodName := ⟨RX12, "turning", "(I)I"⟩
noncomputable abbrev cX12_harm : ByteArray := prog_14_method_75_code
noncomputable def yX12_harm : MethodName := ⟨RX12, "harm", "(I)I"⟩
noncomputable abbrev cX12_harmed : ByteArray := prog_14_method_76_code
noncomputable def yX12_harmed : MethodName := ⟨RX12, "harmed", "()I"⟩
noncomputable abbrev cX12_begins : ByteArray := prog_14_method_77_code
noncomputable def yX12_begins : MethodName := ⟨RX12, "begins", "(I)V"⟩
noncomputable abbrev cX12_aboveOf : ByteArray := prog_14_method_78_code
noncomputable def yX12_aboveOf : MethodName := ⟨RX12, "aboveOf", "(I)I"⟩
noncomputable abbrev cX12_findsFrom : ByteArray := prog_14_method_79_code
noncomputable def yX12_findsFrom : MethodName := ⟨RX12, "findsFrom", "(III)I"⟩
noncomputable abbrev cX12_keepsFrom : ByteArray := prog_14_method_80_code
noncomputable def yX12_keepsFrom : MethodName := ⟨RX12, "keepsFrom", "(III)I"⟩
noncomputable abbrev cX12_movesFrom : ByteArray := prog_14_method_81_code
noncomputable def yX12_movesFrom : MethodName := ⟨RX12, "movesFrom", "(III)I"⟩
noncomputable abbrev cX12_tellsFrom : ByteArray := prog_14_method_82_code
noncomputable def yX12_tellsFrom : MethodName := ⟨RX12, "tellsFrom", "(III)I"⟩
noncomputable abbrev cX12_act : ByteArray := prog_14_method_83_code
noncomputable def yX12_act : MethodName := ⟨RX12, "act", "(III)I"⟩
noncomputable abbrev cX12_trace : ByteArray := prog_14_method_84_code
noncomputable def yX12_trace : MethodName := ⟨RX12, "trace", "(I)I"⟩
noncomputable abbrev cX12_isShelf : ByteArray := prog_14_method_85_code
noncomputable def yX12_isShelf : MethodName := ⟨RX12, "isShelf", "(I)Z"⟩
noncomputable abbrev cX12_keep : ByteArray := prog_14_method_86_code
noncomputable def yX12_keep : MethodName := ⟨RX12, "keep", "(II)I"⟩
noncomputable abbrev cX12_row : ByteArray := prog_14_method_87_code
noncomputable def yX12_row : MethodName := ⟨RX12, "row", "(III)I"⟩
noncomputable abbrev cX12_barred : ByteArray := prog_14_method_88_code
noncomputable def yX12_barred : MethodName := ⟨RX12, "barred", "(II)I"⟩
noncomputable abbrev cX12_put : ByteArray := prog_14_method_89_code
noncomputable def yX12_put : MethodName := ⟨RX12, "put", "(IIJ)I"⟩
noncomputable abbrev cX12_element : ByteArray := prog_14_method_90_code
noncomputable def yX12_element : MethodName := ⟨RX12, "element", "(II)J"⟩
noncomputable abbrev cX12_shift : ByteArray := prog_14_method_91_code
noncomputable def yX12_shift : MethodName := ⟨RX12, "shift", "(IIIII)I"⟩
noncomputable abbrev cX12_taken : ByteArray := prog_14_method_92_code
noncomputable def yX12_taken : MethodName := ⟨RX12, "taken", "(II)I"⟩
noncomputable abbrev cX12_names : ByteArray := prog_14_method_93_code
noncomputable def yX12_names : MethodName := ⟨RX12, "names", "(III)I"⟩
noncomputable abbrev cX12_count : ByteArray := prog_14_method_94_code
noncomputable def yX12_count : MethodName := ⟨RX12, "count", "(I)I"⟩
noncomputable def RJ6 : String := "java/lang/Integer"
noncomputable abbrev cJ6_bitCount_0f7a4 : ByteArray := prog_15_method_49_code
noncomputable def yJ6_bitCount_0f7a4 : MethodName := ⟨RJ6, "bitCount", "(I)I"⟩
noncomputable def RJ7 : String := "java/util/Arrays"
noncomputable abbrev cJ7_fill_d0a16 : ByteArray := prog_18_method_101_code
noncomputable def yJ7_fill_d0a16 : MethodName := ⟨RJ7, "fill", "([JJ)V"⟩
noncomputable abbrev cJ7_fill_53178 : ByteArray := prog_18_method_103_code
noncomputable def yJ7_fill_53178 : MethodName := ⟨RJ7, "fill", "([II)V"⟩
noncomputable abbrev cJ7_fill_031fb : ByteArray := prog_18_method_109_code
noncomputable def yJ7_fill_031fb : MethodName := ⟨RJ7, "fill", "([BB)V"⟩
noncomputable def wsX0_init : List Cond := Cond.code yX0_init cX0_init 1 none :: ([Cond.methodLink RX0 3 objectInit, Cond.instanceMethod objectInit, Cond.code objectInit ⟨#[0xb1]⟩ 1 none, Cond.arrayClass .int, Cond.fieldLink RX0 9 "SeatsRound$Acts" "bodies" "[I", Cond.fieldLink RX0 15 "SeatsRound$Acts" "ran" "I", Cond.fieldLink RX0 19 "SeatsRound$Acts" "own" "I", Cond.fieldLink RX0 22 "SeatsRound$Acts" "number" "I", Cond.fieldLink RX0 25 "SeatsRound$Acts" "strength" "I"] ++ wsX00)
set_option maxRecDepth 20000 in
theorem gw_wsX0_init : wsX0_init.all goodWord = true := by decide +kernel
noncomputable def wsX1_init : List Cond := Cond.code yX1_init cX1_init 2 none :: ([Cond.methodLink RX1 3 objectInit, Cond.instanceMethod objectInit, Cond.code objectInit ⟨#[0xb1]⟩ 1 none, Cond.arrayClass .int, Cond.fieldLink RX1 9 "SeatsRound$Choice" "picks" "[I", Cond.fieldLink RX1 15 "SeatsRound$Choice" "chosen" "[I", Cond.fieldLink RX1 18 "SeatsRound$Choice" "pickCount" "I", Cond.fieldLink RX1 22 "SeatsRound$Choice" "chosenCount" "I", Cond.fieldLink RX1 25 "SeatsRound$Choice" "chosenBits" "I", Cond.fieldLink RX1 28 "SeatsRound$Choice" "streetBits" "I", Cond.fieldLink RX1 31 "SeatsRound$Choice" "pickBits" "I", Cond.fieldLink RX1 34 "SeatsRound$Choice" "sums" "[I", Cond.fieldLink RX1 37 "SeatsRound$Choice" "keepers" "LSeatsRound$Keepers;"] ++ wsX10)
set_option maxRecDepth 20000 in
theorem gw_wsX1_init : wsX1_init.all goodWord = true := by decide +kernel
noncomputable def wsX2_init : List Cond := Cond.code yX2_init cX2_init 1 none :: ([Cond.methodLink RX2 3 objectInit, Cond.instanceMethod objectInit, Cond.code objectInit ⟨#[0xb1]⟩ 1 none, Cond.arrayClass .int, Cond.fieldLink RX2 9 "SeatsRound$Keepers" "kind" "[I", Cond.fieldLink RX2 15 "SeatsRound$Keepers" "street" "[I", Cond.fieldLink RX2 18 "SeatsRound$Keepers" "strength" "[I", Cond.fieldLink RX2 21 "SeatsRound$Keepers" "table" "[I", Cond.arrayClass .boolean, Cond.fieldLink RX2 24 "SeatsRound$Keepers" "fallen" "[Z", Cond.fieldLink RX2 28 "SeatsRound$Keepers" "count" "I"] ++ wsX20)
set_option maxRecDepth 20000 in
theorem gw_wsX2_init : wsX2_init.all goodWord = true := by decide +kernel
noncomputable def wsX2_has : List Cond := Cond.code yX2_has cX2_has 2 (some .boolean) :: ([Cond.fieldLink RX2 28 "SeatsRound$Keepers" "count" "I"] ++ wsX20)
set_option maxRecDepth 20000 in
theorem gw_wsX2_has : wsX2_has.all goodWord = true := by decide +kernel
noncomputable def wsX2_add : List Cond := Cond.code yX2_add cX2_add 3 (some .int) :: ([Cond.fieldLink RX2 9 "SeatsRound$Keepers" "kind" "[I", Cond.fieldLink RX2 28 "SeatsRound$Keepers" "count" "I", Cond.fieldLink RX2 15 "SeatsRound$Keepers" "street" "[I", Cond.fieldLink RX2 18 "SeatsRound$Keepers" "strength" "[I", Cond.fieldLink RX2 21 "SeatsRound$Keepers" "table" "[I"] ++ wsX20)
set_option maxRecDepth 20000 in
theorem gw_wsX2_add : wsX2_add.all goodWord = true := by decide +kernel
noncomputable def wsX3_init : List Cond := Cond.code yX3_init cX3_init 1 none :: ([Cond.methodLink RX3 3 objectInit, Cond.instanceMethod objectInit, Cond.code objectInit ⟨#[0xb1]⟩ 1 none, Cond.arrayClass .byte, Cond.fieldLink RX3 9 "SeatsRound$Law" "text" "[B", Cond.fieldLink RX3 15 "SeatsRound$Law" "length" "I", Cond.fieldLink RX3 19 "SeatsRound$Law" "at" "I", Cond.fieldLink RX3 22 "SeatsRound$Law" "fault" "I", Cond.fieldLink RX3 25 "SeatsRound$Law" "members" "I", Cond.fieldLink RX3 28 "SeatsRound$Law" "streetsIn" "I", Cond.fieldLink RX3 31 "SeatsRound$Law" "weights" "I", Cond.fieldLink RX3 34 "SeatsRound$Law" "greatest" "I"] ++ wsX30)
set_option maxRecDepth 20000 in
theorem gw_wsX3_init : wsX3_init.all goodWord = true := by decide +kernel
noncomputable def wsX4_init : List Cond := Cond.code yX4_init cX4_init 1 none :: ([Cond.methodLink RX4 3 objectInit, Cond.instanceMethod objectInit, Cond.code objectInit ⟨#[0xb1]⟩ 1 none, Cond.classLink RX4 9 "[[B", Cond.arrayClass .byte, Cond.fieldLink RX4 11 "SeatsRound$NameList" "bytes" "[[B", Cond.arrayClass .int, Cond.fieldLink RX4 16 "SeatsRound$NameList" "size" "[I", Cond.fieldLink RX4 20 "SeatsRound$NameList" "read" "[B", Cond.fieldLink RX4 24 "SeatsRound$NameList" "count" "I"] ++ wsX40)
set_option maxRecDepth 20000 in
theorem gw_wsX4_init : wsX4_init.all goodWord = true := by decide +kernel
noncomputable def wsX4_has : List Cond := Cond.code yX4_has cX4_has 2 (some .boolean) :: ([Cond.fieldLink RX4 24 "SeatsRound$NameList" "count" "I"] ++ wsX40)
set_option maxRecDepth 20000 in
theorem gw_wsX4_has : wsX4_has.all goodWord = true := by decide +kernel
noncomputable def wsX5_init : List Cond := Cond.code yX5_init cX5_init 5 none :: ([Cond.methodLink RX5 3 objectInit, Cond.instanceMethod objectInit, Cond.code objectInit ⟨#[0xb1]⟩ 1 none, Cond.arrayClass .int, Cond.fieldLink RX5 9 "SeatsRound$Orders" "told" "[I", Cond.fieldLink RX5 15 "SeatsRound$Orders" "toldCount" "I", Cond.fieldLink RX5 19 "SeatsRound$Orders" "path" "[I", Cond.fieldLink RX5 22 "SeatsRound$Orders" "pathLength" "I", Cond.classLink RX5 25 "[[I", Cond.fieldLink RX5 27 "SeatsRound$Orders" "holders" "[[I", Cond.fieldLink RX5 30 "SeatsRound$Orders" "least" "[I", Cond.fieldLink RX5 33 "SeatsRound$Orders" "keepers" "LSeatsRound$Keepers;", Cond.fieldLink RX5 37 "SeatsRound$Orders" "nameList" "LSeatsRound$NameList;", Cond.fieldLink RX5 41 "SeatsRound$Orders" "choice" "LSeatsRound$Choice;", Cond.fieldLink RX5 45 "SeatsRound$Orders" "law" "LSeatsRound$Law;"] ++ wsX50)
set_option maxRecDepth 20000 in
theorem gw_wsX5_init : wsX5_init.all goodWord = true := by decide +kernel
noncomputable def wsX6_init : List Cond := Cond.code yX6_init cX6_init 4 none :: ([Cond.methodLink RX6 3 objectInit, Cond.instanceMethod objectInit, Cond.code objectInit ⟨#[0xb1]⟩ 1 none, Cond.classLink RX6 9 "[[I", Cond.arrayClass .int, Cond.fieldLink RX6 11 "SeatsRound$Parcels" "version" "[[I", Cond.fieldLink RX6 16 "SeatsRound$Parcels" "kept" "[[I", Cond.fieldLink RX6 19 "SeatsRound$Parcels" "keptFor" "[[I", Cond.fieldLink RX6 22 "SeatsRound$Parcels" "pieces" "[[I", Cond.fieldLink RX6 25 "SeatsRound$Parcels" "pieceTo" "[[I", Cond.fieldLink RX6 28 "SeatsRound$Parcels" "latest" "[I", Cond.fieldLink RX6 32 "SeatsRound$Parcels" "oneTree" "[I", Cond.fieldLink RX6 35 "SeatsRound$Parcels" "otherTree" "[I", Cond.fieldLink RX6 38 "SeatsRound$Parcels" "writings" "I", Cond.fieldLink RX6 42 "SeatsRound$Parcels" "keepers" "LSeatsRound$Keepers;", Cond.fieldLink RX6 46 "SeatsRound$Parcels" "nameList" "LSeatsRound$NameList;", Cond.fieldLink RX6 50 "SeatsRound$Parcels" "choice" "LSeatsRound$Choice;"] ++ wsX60)
set_option maxRecDepth 20000 in
theorem gw_wsX6_init : wsX6_init.all goodWord = true := by decide +kernel
noncomputable def wsJ7_fill_53178 : List Cond := Cond.code yJ7_fill_53178 cJ7_fill_53178 4 none :: ([])
set_option maxRecDepth 20000 in
theorem gw_wsJ7_fill_53178 : wsJ7_fill_53178.all goodWord = true := by decide +kernel
noncomputable def wsX6_allCopies : List Cond := Cond.code yX6_allCopies cX6_allCopies 3 (some .int) :: ([Cond.fieldLink RX6 42 "SeatsRound$Parcels" "keepers" "LSeatsRound$Keepers;", Cond.fieldLink RX6 120 "SeatsRound$Keepers" "count" "I", Cond.methodLink RX6 103 yX6_copiesOn, Cond.instanceMethod yX6_copiesOn, Cond.selects RX6 yX6_copiesOn yX6_copiesOn, Cond.initialized RX6, Cond.code yX6_copiesOn cX6_copiesOn 2 (some .int), Cond.fieldLink RX6 11 "SeatsRound$Parcels" "version" "[[I", Cond.methodLink RX6 141 yX6_filled, Cond.static yX6_filled, Cond.code yX6_filled cX6_filled 6 (some .int)] ++ wsX60 ++ wsX20)
set_option maxRecDepth 20000 in
theorem gw_wsX6_allCopies : wsX6_allCopies.all goodWord = true := by decide +kernel
noncomputable def wsX6_allKept : List Cond := Cond.code yX6_allKept cX6_allKept 3 (some .int) :: ([Cond.fieldLink RX6 42 "SeatsRound$Parcels" "keepers" "LSeatsRound$Keepers;", Cond.fieldLink RX6 120 "SeatsRound$Keepers" "count" "I", Cond.methodLink RX6 145 yX6_keptBy, Cond.instanceMethod yX6_keptBy, Cond.selects RX6 yX6_keptBy yX6_keptBy, Cond.initialized RX6, Cond.code yX6_keptBy cX6_keptBy 2 (some .int), Cond.fieldLink RX6 16 "SeatsRound$Parcels" "kept" "[[I", Cond.methodLink RX6 141 yX6_filled, Cond.static yX6_filled, Cond.code yX6_filled cX6_filled 6 (some .int)] ++ wsX60 ++ wsX20)
set_option maxRecDepth 20000 in
theorem gw_wsX6_allKept : wsX6_allKept.all goodWord = true := by decide +kernel
noncomputable def wsX7_init : List Cond := Cond.code yX7_init cX7_init 1 none :: ([Cond.methodLink RX7 3 objectInit, Cond.instanceMethod objectInit, Cond.code objectInit ⟨#[0xb1]⟩ 1 none, Cond.arrayClass .int, Cond.fieldLink RX7 9 "SeatsRound$Rows" "keeper" "[I", Cond.fieldLink RX7 15 "SeatsRound$Rows" "sort" "[I", Cond.fieldLink RX7 18 "SeatsRound$Rows" "length" "[I", Cond.classLink RX7 21 "[[J", Cond.arrayClass .long, Cond.fieldLink RX7 23 "SeatsRound$Rows" "elements" "[[J", Cond.methodLink RX7 26 yJ7_fill_53178, Cond.static yJ7_fill_53178, Cond.initialized RJ7, Cond.code yJ7_fill_53178 cJ7_fill_53178 4 none] ++ wsX70)
set_option maxRecDepth 20000 in
theorem gw_wsX7_init : wsX7_init.all goodWord = true := by decide +kernel
noncomputable def wsX7_holdKeeper : List Cond := Cond.code yX7_holdKeeper cX7_holdKeeper 3 none :: ([Cond.fieldLink RX7 9 "SeatsRound$Rows" "keeper" "[I", Cond.fieldLink RX7 15 "SeatsRound$Rows" "sort" "[I", Cond.fieldLink RX7 18 "SeatsRound$Rows" "length" "[I"] ++ wsX70)
set_option maxRecDepth 20000 in
theorem gw_wsX7_holdKeeper : wsX7_holdKeeper.all goodWord = true := by decide +kernel
noncomputable def wsJ7_fill_d0a16 : List Cond := Cond.code yJ7_fill_d0a16 cJ7_fill_d0a16 5 none :: ([])
set_option maxRecDepth 20000 in
theorem gw_wsJ7_fill_d0a16 : wsJ7_fill_d0a16.all goodWord = true := by decide +kernel
noncomputable def wsX7_holdRow : List Cond := Cond.code yX7_holdRow cX7_holdRow 4 none :: ([Cond.fieldLink RX7 9 "SeatsRound$Rows" "keeper" "[I", Cond.fieldLink RX7 15 "SeatsRound$Rows" "sort" "[I", Cond.fieldLink RX7 18 "SeatsRound$Rows" "length" "[I", Cond.fieldLink RX7 23 "SeatsRound$Rows" "elements" "[[J", Cond.methodLink RX7 32 yJ7_fill_d0a16, Cond.static yJ7_fill_d0a16, Cond.initialized RJ7, Cond.code yJ7_fill_d0a16 cJ7_fill_d0a16 5 none] ++ wsX70)
set_option maxRecDepth 20000 in
theorem gw_wsX7_holdRow : wsX7_holdRow.all goodWord = true := by decide +kernel
noncomputable def wsX7_isEmpty : List Cond := Cond.code yX7_isEmpty cX7_isEmpty 2 (some .boolean) :: ([Cond.fieldLink RX7 15 "SeatsRound$Rows" "sort" "[I", Cond.fieldLink RX7 9 "SeatsRound$Rows" "keeper" "[I"] ++ wsX70)
set_option maxRecDepth 20000 in
theorem gw_wsX7_isEmpty : wsX7_isEmpty.all goodWord = true := by decide +kernel
noncomputable def wsX7_refusalAt : List Cond := Cond.code yX7_refusalAt cX7_refusalAt 3 (some .int) :: ([Cond.fieldLink RX7 18 "SeatsRound$Rows" "length" "[I", Cond.methodLink RX7 35 yX7_isEmpty, Cond.instanceMethod yX7_isEmpty, Cond.selects RX7 yX7_isEmpty yX7_isEmpty, Cond.initialized RX7, Cond.code yX7_isEmpty cX7_isEmpty 2 (some .boolean), Cond.fieldLink RX7 15 "SeatsRound$Rows" "sort" "[I", Cond.fieldLink RX7 9 "SeatsRound$Rows" "keeper" "[I", Cond.methodLink RX7 39 yX7_isRow, Cond.instanceMethod yX7_isRow, Cond.selects RX7 yX7_isRow yX7_isRow, Cond.code yX7_isRow cX7_isRow 2 (some .boolean)] ++ wsX70)
set_option maxRecDepth 20000 in
theorem gw_wsX7_refusalAt : wsX7_refusalAt.all goodWord = true := by decide +kernel
noncomputable def wsX8_init : List Cond := Cond.code yX8_init cX8_init 1 none :: ([Cond.methodLink RX8 3 objectInit, Cond.instanceMethod objectInit, Cond.code objectInit ⟨#[0xb1]⟩ 1 none, Cond.fieldLink RX8 9 "SeatsRound$Table" "members" "I", Cond.fieldLink RX8 15 "SeatsRound$Table" "turn" "I", Cond.fieldLink RX8 18 "SeatsRound$Table" "copies" "I", Cond.fieldLink RX8 21 "SeatsRound$Table" "streets" "I", Cond.fieldLink RX8 24 "SeatsRound$Table" "way" "I", Cond.fieldLink RX8 27 "SeatsRound$Table" "seats" "I", Cond.fieldLink RX8 30 "SeatsRound$Table" "lawLength" "I", Cond.fieldLink RX8 33 "SeatsRound$Table" "oddsCounted" "Z", Cond.arrayClass .int, Cond.fieldLink RX8 37 "SeatsRound$Table" "weight" "[I", Cond.fieldLink RX8 41 "SeatsRound$Table" "odds" "[I", Cond.arrayClass .byte, Cond.fieldLink RX8 44 "SeatsRound$Table" "law" "[B", Cond.fieldLink RX8 48 "SeatsRound$Table" "owner" "[B", Cond.arrayClass .short, Cond.fieldLink RX8 51 "SeatsRound$Table" "ahead" "[S"] ++ wsX80)
set_option maxRecDepth 20000 in
theorem gw_wsX8_init : wsX8_init.all goodWord = true := by decide +kernel
noncomputable def wsX9_init : List Cond := Cond.code yX9_init cX9_init 1 none :: ([Cond.methodLink RX9 3 objectInit, Cond.instanceMethod objectInit, Cond.code objectInit ⟨#[0xb1]⟩ 1 none, Cond.arrayClass .byte, Cond.fieldLink RX9 9 "SeatsRound$Tape" "bytes" "[B", Cond.fieldLink RX9 15 "SeatsRound$Tape" "length" "I"] ++ wsX90)
set_option maxRecDepth 20000 in
theorem gw_wsX9_init : wsX9_init.all goodWord = true := by decide +kernel
noncomputable def wsX9_append : List Cond := Cond.code yX9_append cX9_append 4 none :: ([Cond.fieldLink RX9 15 "SeatsRound$Tape" "length" "I", Cond.fieldLink RX9 9 "SeatsRound$Tape" "bytes" "[B"] ++ wsX90)
set_option maxRecDepth 20000 in
theorem gw_wsX9_append : wsX9_append.all goodWord = true := by decide +kernel
noncomputable def wsX10_init : List Cond := Cond.code yX10_init cX10_init 2 none :: ([Cond.methodLink RX10 3 objectInit, Cond.instanceMethod objectInit, Cond.code objectInit ⟨#[0xb1]⟩ 1 none, Cond.arrayClass .int, Cond.fieldLink RX10 9 "SeatsRound$Turnings" "told" "[I", Cond.fieldLink RX10 15 "SeatsRound$Turnings" "count" "I", Cond.fieldLink RX10 19 "SeatsRound$Turnings" "greatest" "I", Cond.fieldLink RX10 22 "SeatsRound$Turnings" "shares" "[I", Cond.fieldLink RX10 25 "SeatsRound$Turnings" "nameList" "LSeatsRound$NameList;"] ++ wsX100)
set_option maxRecDepth 20000 in
theorem gw_wsX10_init : wsX10_init.all goodWord = true := by decide +kernel
noncomputable def wsX11_init_r1 : List Cond := [Cond.methodLink RX11 1 objectInit, Cond.instanceMethod objectInit, Cond.code objectInit ⟨#[0xb1]⟩ 1 none, Cond.classLink RX11 7 RX9, Cond.instantiable RX9 2, Cond.initialized RX9, Cond.fieldLink RX11 10 "SeatsRound" "tape" "LSeatsRound$Tape;", Cond.classLink RX11 16 RX4, Cond.instantiable RX4 4, Cond.initialized RX4, Cond.fieldLink RX11 19 "SeatsRound" "nameList" "LSeatsRound$NameList;", Cond.classLink RX11 23 RX2, Cond.instantiable RX2 6, Cond.initialized RX2, Cond.fieldLink RX11 26 "SeatsRound" "keepers" "LSeatsRound$Keepers;", Cond.classLink RX11 30 RX3, Cond.instantiable RX3 8, Cond.initialized RX3, Cond.fieldLink RX11 33 "SeatsRound" "law" "LSeatsRound$Law;", Cond.classLink RX11 37 RX1, Cond.instantiable RX1 9, Cond.initialized RX1, Cond.fieldLink RX11 42 "SeatsRound" "choice" "LSeatsRound$Choice;", Cond.classLink RX11 46 RX8]
noncomputable def wsX11_init_r2 : List Cond := [Cond.fieldLink RX11 48 "SeatsRound" "tables" "[LSeatsRound$Table;", Cond.fieldLink RX11 52 "SeatsRound" "tableCount" "I", Cond.instantiable RX8 13, Cond.initialized RX8, Cond.fieldLink RX11 57 "SeatsRound" "draft" "LSeatsRound$Table;", Cond.classLink RX11 61 RX6, Cond.instantiable RX6 12, Cond.initialized RX6, Cond.fieldLink RX11 66 "SeatsRound" "parcels" "LSeatsRound$Parcels;", Cond.classLink RX11 70 RX5, Cond.instantiable RX5 10, Cond.initialized RX5, Cond.fieldLink RX11 75 "SeatsRound" "orders" "LSeatsRound$Orders;", Cond.classLink RX11 79 RX10, Cond.instantiable RX10 5, Cond.initialized RX10, Cond.fieldLink RX11 84 "SeatsRound" "turnings" "LSeatsRound$Turnings;", Cond.classLink RX11 88 RX0, Cond.instantiable RX0 5, Cond.initialized RX0, Cond.fieldLink RX11 91 "SeatsRound" "acts" "LSeatsRound$Acts;", Cond.classLink RX11 95 RX7, Cond.instantiable RX7 4, Cond.initialized RX7]
noncomputable def wsX11_init_r3 : List Cond := [Cond.fieldLink RX11 98 "SeatsRound" "rows" "LSeatsRound$Rows;", Cond.instanceMethod yX9_init, Cond.code yX9_init cX9_init 1 none, Cond.methodLink RX9 3 objectInit, Cond.arrayClass .byte, Cond.fieldLink RX9 9 "SeatsRound$Tape" "bytes" "[B", Cond.fieldLink RX9 15 "SeatsRound$Tape" "length" "I", Cond.instanceMethod yX4_init, Cond.code yX4_init cX4_init 1 none, Cond.methodLink RX4 3 objectInit, Cond.classLink RX4 9 "[[B", Cond.fieldLink RX4 11 "SeatsRound$NameList" "bytes" "[[B", Cond.arrayClass .int, Cond.fieldLink RX4 16 "SeatsRound$NameList" "size" "[I", Cond.fieldLink RX4 20 "SeatsRound$NameList" "read" "[B", Cond.fieldLink RX4 24 "SeatsRound$NameList" "count" "I", Cond.instanceMethod yX2_init, Cond.code yX2_init cX2_init 1 none, Cond.methodLink RX2 3 objectInit, Cond.fieldLink RX2 9 "SeatsRound$Keepers" "kind" "[I", Cond.fieldLink RX2 15 "SeatsRound$Keepers" "street" "[I", Cond.fieldLink RX2 18 "SeatsRound$Keepers" "strength" "[I", Cond.fieldLink RX2 21 "SeatsRound$Keepers" "table" "[I", Cond.arrayClass .boolean]
noncomputable def wsX11_init_r4 : List Cond := [Cond.fieldLink RX2 24 "SeatsRound$Keepers" "fallen" "[Z", Cond.fieldLink RX2 28 "SeatsRound$Keepers" "count" "I", Cond.instanceMethod yX3_init, Cond.code yX3_init cX3_init 1 none, Cond.methodLink RX3 3 objectInit, Cond.fieldLink RX3 9 "SeatsRound$Law" "text" "[B", Cond.fieldLink RX3 15 "SeatsRound$Law" "length" "I", Cond.fieldLink RX3 19 "SeatsRound$Law" "at" "I", Cond.fieldLink RX3 22 "SeatsRound$Law" "fault" "I", Cond.fieldLink RX3 25 "SeatsRound$Law" "members" "I", Cond.fieldLink RX3 28 "SeatsRound$Law" "streetsIn" "I", Cond.fieldLink RX3 31 "SeatsRound$Law" "weights" "I", Cond.fieldLink RX3 34 "SeatsRound$Law" "greatest" "I", Cond.methodLink RX11 39 yX1_init, Cond.instanceMethod yX1_init, Cond.code yX1_init cX1_init 2 none, Cond.methodLink RX1 3 objectInit, Cond.fieldLink RX1 9 "SeatsRound$Choice" "picks" "[I", Cond.fieldLink RX1 15 "SeatsRound$Choice" "chosen" "[I", Cond.fieldLink RX1 18 "SeatsRound$Choice" "pickCount" "I", Cond.fieldLink RX1 22 "SeatsRound$Choice" "chosenCount" "I", Cond.fieldLink RX1 25 "SeatsRound$Choice" "chosenBits" "I", Cond.fieldLink RX1 28 "SeatsRound$Choice" "streetBits" "I", Cond.fieldLink RX1 31 "SeatsRound$Choice" "pickBits" "I"]
noncomputable def wsX11_init_r5 : List Cond := [Cond.fieldLink RX1 34 "SeatsRound$Choice" "sums" "[I", Cond.fieldLink RX1 37 "SeatsRound$Choice" "keepers" "LSeatsRound$Keepers;", Cond.instanceMethod yX8_init, Cond.code yX8_init cX8_init 1 none, Cond.methodLink RX8 3 objectInit, Cond.fieldLink RX8 9 "SeatsRound$Table" "members" "I", Cond.fieldLink RX8 15 "SeatsRound$Table" "turn" "I", Cond.fieldLink RX8 18 "SeatsRound$Table" "copies" "I", Cond.fieldLink RX8 21 "SeatsRound$Table" "streets" "I", Cond.fieldLink RX8 24 "SeatsRound$Table" "way" "I", Cond.fieldLink RX8 27 "SeatsRound$Table" "seats" "I", Cond.fieldLink RX8 30 "SeatsRound$Table" "lawLength" "I", Cond.fieldLink RX8 33 "SeatsRound$Table" "oddsCounted" "Z", Cond.fieldLink RX8 37 "SeatsRound$Table" "weight" "[I", Cond.fieldLink RX8 41 "SeatsRound$Table" "odds" "[I", Cond.fieldLink RX8 44 "SeatsRound$Table" "law" "[B", Cond.fieldLink RX8 48 "SeatsRound$Table" "owner" "[B", Cond.arrayClass .short, Cond.fieldLink RX8 51 "SeatsRound$Table" "ahead" "[S", Cond.methodLink RX11 63 yX6_init, Cond.instanceMethod yX6_init, Cond.code yX6_init cX6_init 4 none, Cond.methodLink RX6 3 objectInit, Cond.classLink RX6 9 "[[I"]
noncomputable def wsX11_init_r6 : List Cond := [Cond.fieldLink RX6 11 "SeatsRound$Parcels" "version" "[[I", Cond.fieldLink RX6 16 "SeatsRound$Parcels" "kept" "[[I", Cond.fieldLink RX6 19 "SeatsRound$Parcels" "keptFor" "[[I", Cond.fieldLink RX6 22 "SeatsRound$Parcels" "pieces" "[[I", Cond.fieldLink RX6 25 "SeatsRound$Parcels" "pieceTo" "[[I", Cond.fieldLink RX6 28 "SeatsRound$Parcels" "latest" "[I", Cond.fieldLink RX6 32 "SeatsRound$Parcels" "oneTree" "[I", Cond.fieldLink RX6 35 "SeatsRound$Parcels" "otherTree" "[I", Cond.fieldLink RX6 38 "SeatsRound$Parcels" "writings" "I", Cond.fieldLink RX6 42 "SeatsRound$Parcels" "keepers" "LSeatsRound$Keepers;", Cond.fieldLink RX6 46 "SeatsRound$Parcels" "nameList" "LSeatsRound$NameList;", Cond.fieldLink RX6 50 "SeatsRound$Parcels" "choice" "LSeatsRound$Choice;", Cond.methodLink RX11 72 yX5_init, Cond.instanceMethod yX5_init, Cond.code yX5_init cX5_init 5 none, Cond.methodLink RX5 3 objectInit, Cond.fieldLink RX5 9 "SeatsRound$Orders" "told" "[I", Cond.fieldLink RX5 15 "SeatsRound$Orders" "toldCount" "I", Cond.fieldLink RX5 19 "SeatsRound$Orders" "path" "[I", Cond.fieldLink RX5 22 "SeatsRound$Orders" "pathLength" "I", Cond.classLink RX5 25 "[[I", Cond.fieldLink RX5 27 "SeatsRound$Orders" "holders" "[[I", Cond.fieldLink RX5 30 "SeatsRound$Orders" "least" "[I", Cond.fieldLink RX5 33 "SeatsRound$Orders" "keepers" "LSeatsRound$Keepers;"]
noncomputable def wsX11_init_r7 : List Cond := [Cond.fieldLink RX5 37 "SeatsRound$Orders" "nameList" "LSeatsRound$NameList;", Cond.fieldLink RX5 41 "SeatsRound$Orders" "choice" "LSeatsRound$Choice;", Cond.fieldLink RX5 45 "SeatsRound$Orders" "law" "LSeatsRound$Law;", Cond.methodLink RX11 81 yX10_init, Cond.instanceMethod yX10_init, Cond.code yX10_init cX10_init 2 none, Cond.methodLink RX10 3 objectInit, Cond.fieldLink RX10 9 "SeatsRound$Turnings" "told" "[I", Cond.fieldLink RX10 15 "SeatsRound$Turnings" "count" "I", Cond.fieldLink RX10 19 "SeatsRound$Turnings" "greatest" "I", Cond.fieldLink RX10 22 "SeatsRound$Turnings" "shares" "[I", Cond.fieldLink RX10 25 "SeatsRound$Turnings" "nameList" "LSeatsRound$NameList;", Cond.instanceMethod yX0_init, Cond.code yX0_init cX0_init 1 none, Cond.methodLink RX0 3 objectInit, Cond.fieldLink RX0 9 "SeatsRound$Acts" "bodies" "[I", Cond.fieldLink RX0 15 "SeatsRound$Acts" "ran" "I", Cond.fieldLink RX0 19 "SeatsRound$Acts" "own" "I", Cond.fieldLink RX0 22 "SeatsRound$Acts" "number" "I", Cond.fieldLink RX0 25 "SeatsRound$Acts" "strength" "I", Cond.methodLink RX11 97 yX7_init, Cond.instanceMethod yX7_init, Cond.code yX7_init cX7_init 1 none, Cond.methodLink RX7 3 objectInit]
noncomputable def wsX11_init_r8 : List Cond := [Cond.fieldLink RX7 9 "SeatsRound$Rows" "keeper" "[I", Cond.fieldLink RX7 15 "SeatsRound$Rows" "sort" "[I", Cond.fieldLink RX7 18 "SeatsRound$Rows" "length" "[I", Cond.classLink RX7 21 "[[J", Cond.arrayClass .long, Cond.fieldLink RX7 23 "SeatsRound$Rows" "elements" "[[J", Cond.methodLink RX7 26 yJ7_fill_53178, Cond.static yJ7_fill_53178, Cond.initialized RJ7, Cond.code yJ7_fill_53178 cJ7_fill_53178 4 none]
noncomputable def wsX11_init : List Cond := Cond.code yX11_init cX11_init 1 none :: ((wsX11_init_r1 ++ (wsX11_init_r2 ++ (wsX11_init_r3 ++ (wsX11_init_r4 ++ (wsX11_init_r5 ++ (wsX11_init_r6 ++ (wsX11_init_r7 ++ wsX11_init_r8))))))) ++ wsX90 ++ wsX110 ++ wsX40 ++ wsX20 ++ wsX30 ++ wsX10 ++ wsX80 ++ wsX60 ++ wsX50 ++ wsX100 ++ wsX00 ++ wsX70)
set_option maxRecDepth 20000 in
theorem gw_wsX11_init : wsX11_init.all goodWord = true := by decide +kernel
noncomputable def wsX11_feed : List Cond := Cond.code yX11_feed cX11_feed 3 (some .int) :: ([Cond.fieldLink RX11 10 "SeatsRound" "tape" "LSeatsRound$Tape;", Cond.fieldLink RX11 102 "SeatsRound$Tape" "length" "I", Cond.methodLink RX11 105 yX9_append, Cond.instanceMethod yX9_append, Cond.selects RX9 yX9_append yX9_append, Cond.initialized RX9, Cond.code yX9_append cX9_append 4 none, Cond.fieldLink RX9 15 "SeatsRound$Tape" "length" "I", Cond.fieldLink RX9 9 "SeatsRound$Tape" "bytes" "[B"] ++ wsX110 ++ wsX90)
set_option maxRecDepth 20000 in
theorem gw_wsX11_feed : wsX11_feed.all goodWord = true := by decide +kernel
noncomputable def wsX11_name : List Cond := Cond.code yX11_name cX11_name 2 (some .int) :: ([Cond.fieldLink RX11 10 "SeatsRound" "tape" "LSeatsRound$Tape;", Cond.fieldLink RX11 102 "SeatsRound$Tape" "length" "I", Cond.fieldLink RX11 19 "SeatsRound" "nameList" "LSeatsRound$NameList;", Cond.fieldLink RX11 109 "SeatsRound$Tape" "bytes" "[B", Cond.fieldLink RX11 117 "SeatsRound$NameList" "count" "I", Cond.methodLink RX11 113 yX4_find, Cond.instanceMethod yX4_find, Cond.selects RX4 yX4_find yX4_find, Cond.initialized RX4, Cond.code yX4_find cX4_find 5 (some .int), Cond.fieldLink RX4 24 "SeatsRound$NameList" "count" "I", Cond.fieldLink RX4 16 "SeatsRound$NameList" "size" "[I", Cond.fieldLink RX4 11 "SeatsRound$NameList" "bytes" "[[B", Cond.methodLink RX4 28 yX4_isAlike, Cond.static yX4_isAlike, Cond.code yX4_isAlike cX4_isAlike 5 (some .boolean), Cond.methodLink RX11 120 yX4_add, Cond.instanceMethod yX4_add, Cond.selects RX4 yX4_add yX4_add, Cond.code yX4_add cX4_add 4 (some .int), Cond.methodLink RX4 32 arraycopyName, Cond.native arraycopyName, Cond.static arraycopyName, Cond.initialized "java/lang/System"] ++ wsX110 ++ wsX90 ++ wsX40)
set_option maxRecDepth 20000 in
theorem gw_wsX11_name : wsX11_name.all goodWord = true := by decide +kernel
noncomputable def wsX11_number : List Cond := Cond.code yX11_number cX11_number 3 (some .int) :: ([Cond.fieldLink RX11 19 "SeatsRound" "nameList" "LSeatsRound$NameList;", Cond.methodLink RX11 123 yX4_has, Cond.instanceMethod yX4_has, Cond.selects RX4 yX4_has yX4_has, Cond.initialized RX4, Cond.code yX4_has cX4_has 2 (some .boolean), Cond.fieldLink RX4 24 "SeatsRound$NameList" "count" "I", Cond.methodLink RX11 127 yX4_placeOf, Cond.instanceMethod yX4_placeOf, Cond.selects RX4 yX4_placeOf yX4_placeOf, Cond.code yX4_placeOf cX4_placeOf 5 (some .int), Cond.fieldLink RX4 16 "SeatsRound$NameList" "size" "[I", Cond.fieldLink RX4 11 "SeatsRound$NameList" "bytes" "[[B", Cond.constant RX4 38 (16777619)] ++ wsX110 ++ wsX40)
set_option maxRecDepth 20000 in
theorem gw_wsX11_number : wsX11_number.all goodWord = true := by decide +kernel
noncomputable def wsX11_isStrength : List Cond := Cond.code yX11_isStrength cX11_isStrength 1 (some .boolean) :: ([])
set_option maxRecDepth 20000 in
theorem gw_wsX11_isStrength : wsX11_isStrength.all goodWord = true := by decide +kernel
noncomputable def wsX11_keeper : List Cond := Cond.code yX11_keeper cX11_keeper 3 (some .int) :: ([Cond.fieldLink RX11 26 "SeatsRound" "keepers" "LSeatsRound$Keepers;", Cond.fieldLink RX11 134 "SeatsRound$Keepers" "count" "I", Cond.methodLink RX11 131 yX11_isStrength, Cond.static yX11_isStrength, Cond.initialized RX11, Cond.code yX11_isStrength cX11_isStrength 1 (some .boolean), Cond.methodLink RX11 135 yX2_add, Cond.instanceMethod yX2_add, Cond.selects RX2 yX2_add yX2_add, Cond.initialized RX2, Cond.code yX2_add cX2_add 3 (some .int), Cond.fieldLink RX2 9 "SeatsRound$Keepers" "kind" "[I", Cond.fieldLink RX2 28 "SeatsRound$Keepers" "count" "I", Cond.fieldLink RX2 15 "SeatsRound$Keepers" "street" "[I", Cond.fieldLink RX2 18 "SeatsRound$Keepers" "strength" "[I", Cond.fieldLink RX2 21 "SeatsRound$Keepers" "table" "[I"] ++ wsX110 ++ wsX20)
set_option maxRecDepth 20000 in
theorem gw_wsX11_keeper : wsX11_keeper.all goodWord = true := by decide +kernel
noncomputable def wsX11_isKind : List Cond := Cond.code yX11_isKind cX11_isKind 1 (some .boolean) :: ([])
set_option maxRecDepth 20000 in
theorem gw_wsX11_isKind : wsX11_isKind.all goodWord = true := by decide +kernel
noncomputable def wsX11_become_r1 : List Cond := [Cond.fieldLink RX11 26 "SeatsRound" "keepers" "LSeatsRound$Keepers;", Cond.fieldLink RX11 141 "SeatsRound$Keepers" "kind" "[I", Cond.fieldLink RX11 66 "SeatsRound" "parcels" "LSeatsRound$Parcels;", Cond.methodLink RX11 137 yX2_has, Cond.instanceMethod yX2_has, Cond.selects RX2 yX2_has yX2_has, Cond.initialized RX2, Cond.code yX2_has cX2_has 2 (some .boolean), Cond.fieldLink RX2 28 "SeatsRound$Keepers" "count" "I", Cond.methodLink RX11 138 yX11_isKind, Cond.static yX11_isKind, Cond.initialized RX11, Cond.code yX11_isKind cX11_isKind 1 (some .boolean), Cond.methodLink RX11 145 yX6_handBack, Cond.instanceMethod yX6_handBack, Cond.selects RX6 yX6_handBack yX6_handBack, Cond.initialized RX6, Cond.code yX6_handBack cX6_handBack 4 none, Cond.fieldLink RX6 42 "SeatsRound$Parcels" "keepers" "LSeatsRound$Keepers;", Cond.fieldLink RX6 120 "SeatsRound$Keepers" "count" "I", Cond.fieldLink RX6 46 "SeatsRound$Parcels" "nameList" "LSeatsRound$NameList;", Cond.fieldLink RX6 123 "SeatsRound$NameList" "count" "I", Cond.fieldLink RX6 16 "SeatsRound$Parcels" "kept" "[[I", Cond.fieldLink RX6 19 "SeatsRound$Parcels" "keptFor" "[[I"]
noncomputable def wsX11_become_r2 : List Cond := [Cond.methodLink RX6 100 yX6_takesGreater, Cond.instanceMethod yX6_takesGreater, Cond.selects RX6 yX6_takesGreater yX6_takesGreater, Cond.code yX6_takesGreater cX6_takesGreater 4 (some .boolean), Cond.fieldLink RX6 11 "SeatsRound$Parcels" "version" "[[I"]
noncomputable def wsX11_become : List Cond := Cond.code yX11_become cX11_become 4 (some .int) :: ((wsX11_become_r1 ++ wsX11_become_r2) ++ wsX110 ++ wsX20 ++ wsX60 ++ wsX40)
set_option maxRecDepth 20000 in
theorem gw_wsX11_become : wsX11_become.all goodWord = true := by decide +kernel
noncomputable def wsX11_strength : List Cond := Cond.code yX11_strength cX11_strength 4 (some .int) :: ([Cond.fieldLink RX11 26 "SeatsRound" "keepers" "LSeatsRound$Keepers;", Cond.fieldLink RX11 149 "SeatsRound$Keepers" "strength" "[I", Cond.methodLink RX11 137 yX2_has, Cond.instanceMethod yX2_has, Cond.selects RX2 yX2_has yX2_has, Cond.initialized RX2, Cond.code yX2_has cX2_has 2 (some .boolean), Cond.fieldLink RX2 28 "SeatsRound$Keepers" "count" "I", Cond.methodLink RX11 131 yX11_isStrength, Cond.static yX11_isStrength, Cond.initialized RX11, Cond.code yX11_isStrength cX11_isStrength 1 (some .boolean)] ++ wsX110 ++ wsX20)
set_option maxRecDepth 20000 in
theorem gw_wsX11_strength : wsX11_strength.all goodWord = true := by decide +kernel
noncomputable def wsX11_ofKeeper_r1 : List Cond := [Cond.fieldLink RX11 26 "SeatsRound" "keepers" "LSeatsRound$Keepers;", Cond.constant RX11 152 (-2000000000), Cond.fieldLink RX11 141 "SeatsRound$Keepers" "kind" "[I", Cond.fieldLink RX11 153 "SeatsRound$Keepers" "street" "[I", Cond.fieldLink RX11 149 "SeatsRound$Keepers" "strength" "[I", Cond.fieldLink RX11 160 "SeatsRound$Keepers" "table" "[I", Cond.fieldLink RX11 66 "SeatsRound" "parcels" "LSeatsRound$Parcels;", Cond.fieldLink RX11 169 "SeatsRound$Keepers" "fallen" "[Z", Cond.methodLink RX11 137 yX2_has, Cond.instanceMethod yX2_has, Cond.selects RX2 yX2_has yX2_has, Cond.initialized RX2, Cond.code yX2_has cX2_has 2 (some .boolean), Cond.fieldLink RX2 28 "SeatsRound$Keepers" "count" "I", Cond.methodLink RX11 156 yX2_counting, Cond.instanceMethod yX2_counting, Cond.selects RX2 yX2_counting yX2_counting, Cond.code yX2_counting cX2_counting 3 (some .int), Cond.fieldLink RX2 9 "SeatsRound$Keepers" "kind" "[I", Cond.fieldLink RX2 18 "SeatsRound$Keepers" "strength" "[I", Cond.methodLink RX11 163 yX6_copiesOn, Cond.instanceMethod yX6_copiesOn, Cond.selects RX6 yX6_copiesOn yX6_copiesOn, Cond.initialized RX6]
noncomputable def wsX11_ofKeeper_r2 : List Cond := [Cond.code yX6_copiesOn cX6_copiesOn 2 (some .int), Cond.fieldLink RX6 11 "SeatsRound$Parcels" "version" "[[I", Cond.methodLink RX6 141 yX6_filled, Cond.static yX6_filled, Cond.code yX6_filled cX6_filled 6 (some .int), Cond.methodLink RX11 166 yX6_keptBy, Cond.instanceMethod yX6_keptBy, Cond.selects RX6 yX6_keptBy yX6_keptBy, Cond.code yX6_keptBy cX6_keptBy 2 (some .int), Cond.fieldLink RX6 16 "SeatsRound$Parcels" "kept" "[[I"]
noncomputable def wsX11_ofKeeper : List Cond := Cond.code yX11_ofKeeper cX11_ofKeeper 3 (some .int) :: ((wsX11_ofKeeper_r1 ++ wsX11_ofKeeper_r2) ++ wsX110 ++ wsX20 ++ wsX60)
set_option maxRecDepth 20000 in
theorem gw_wsX11_ofKeeper : wsX11_ofKeeper.all goodWord = true := by decide +kernel
noncomputable def wsX11_table_r1 : List Cond := [Cond.fieldLink RX11 26 "SeatsRound" "keepers" "LSeatsRound$Keepers;", Cond.fieldLink RX11 134 "SeatsRound$Keepers" "count" "I", Cond.fieldLink RX11 52 "SeatsRound" "tableCount" "I", Cond.fieldLink RX11 57 "SeatsRound" "draft" "LSeatsRound$Table;", Cond.fieldLink RX11 10 "SeatsRound" "tape" "LSeatsRound$Tape;", Cond.fieldLink RX11 109 "SeatsRound$Tape" "bytes" "[B", Cond.fieldLink RX11 102 "SeatsRound$Tape" "length" "I", Cond.fieldLink RX11 33 "SeatsRound" "law" "LSeatsRound$Law;", Cond.classLink RX11 46 RX8, Cond.instantiable RX8 13, Cond.initialized RX8, Cond.fieldLink RX11 48 "SeatsRound" "tables" "[LSeatsRound$Table;", Cond.methodLink RX11 173 yX8_takeMembers, Cond.instanceMethod yX8_takeMembers, Cond.selects RX8 yX8_takeMembers yX8_takeMembers, Cond.code yX8_takeMembers cX8_takeMembers 4 none, Cond.fieldLink RX8 9 "SeatsRound$Table" "members" "I", Cond.fieldLink RX8 37 "SeatsRound$Table" "weight" "[I", Cond.methodLink RX8 55 yX2_counting, Cond.instanceMethod yX2_counting, Cond.selects RX2 yX2_counting yX2_counting, Cond.initialized RX2, Cond.code yX2_counting cX2_counting 3 (some .int), Cond.fieldLink RX2 9 "SeatsRound$Keepers" "kind" "[I"]
noncomputable def wsX11_table_r2 : List Cond := [Cond.fieldLink RX2 18 "SeatsRound$Keepers" "strength" "[I", Cond.methodLink RX11 177 yX8_takeLaw, Cond.instanceMethod yX8_takeLaw, Cond.selects RX8 yX8_takeLaw yX8_takeLaw, Cond.code yX8_takeLaw cX8_takeLaw 3 none, Cond.methodLink RX8 61 Lib.Math.min.name, Cond.static Lib.Math.min.name, Cond.initialized "java/lang/Math", Cond.code Lib.Math.min.name Lib.Math.min.code 2 (some .int), Cond.methodLink RX8 67 Lib.Math.max.name, Cond.static Lib.Math.max.name, Cond.code Lib.Math.max.name Lib.Math.max.code 2 (some .int), Cond.fieldLink RX8 30 "SeatsRound$Table" "lawLength" "I", Cond.fieldLink RX8 44 "SeatsRound$Table" "law" "[B", Cond.methodLink RX8 70 arraycopyName, Cond.native arraycopyName, Cond.static arraycopyName, Cond.initialized "java/lang/System", Cond.methodLink RX11 181 yX3_workOut, Cond.instanceMethod yX3_workOut, Cond.selects RX3 yX3_workOut yX3_workOut, Cond.initialized RX3, Cond.code yX3_workOut cX3_workOut 5 (some .int), Cond.fieldLink RX3 37 "SeatsRound$Table" "law" "[B"]
noncomputable def wsX11_table_r3 : List Cond := [Cond.fieldLink RX3 9 "SeatsRound$Law" "text" "[B", Cond.fieldLink RX3 42 "SeatsRound$Table" "lawLength" "I", Cond.fieldLink RX3 15 "SeatsRound$Law" "length" "I", Cond.fieldLink RX3 19 "SeatsRound$Law" "at" "I", Cond.fieldLink RX3 22 "SeatsRound$Law" "fault" "I", Cond.fieldLink RX3 49 "SeatsRound$Table" "copies" "I", Cond.fieldLink RX3 52 "SeatsRound$Table" "streets" "I", Cond.fieldLink RX3 55 "SeatsRound$Table" "way" "I", Cond.methodLink RX3 45 yX3_look, Cond.instanceMethod yX3_look, Cond.selects RX3 yX3_look yX3_look, Cond.code yX3_look cX3_look 5 none, Cond.fieldLink RX3 66 "SeatsRound$Table" "members" "I", Cond.fieldLink RX3 25 "SeatsRound$Law" "members" "I", Cond.fieldLink RX3 31 "SeatsRound$Law" "weights" "I", Cond.fieldLink RX3 34 "SeatsRound$Law" "greatest" "I", Cond.fieldLink RX3 73 "SeatsRound$Keepers" "street" "[I", Cond.fieldLink RX3 79 "SeatsRound$Table" "weight" "[I", Cond.methodLink RX3 82 Lib.Math.max.name, Cond.fieldLink RX3 28 "SeatsRound$Law" "streetsIn" "I", Cond.methodLink RX3 67 yJ6_bitCount_0f7a4, Cond.static yJ6_bitCount_0f7a4, Cond.initialized RJ6, Cond.code yJ6_bitCount_0f7a4 cJ6_bitCount_0f7a4 1 (some .int)]
noncomputable def wsX11_table_r4 : List Cond := [Cond.constant RJ6 265 (1431655765), Cond.constant RJ6 266 (858993459), Cond.constant RJ6 267 (252645135), Cond.methodLink RX3 58 yX3_readPart, Cond.instanceMethod yX3_readPart, Cond.selects RX3 yX3_readPart yX3_readPart, Cond.code yX3_readPart cX3_readPart 5 (some .int), Cond.methodLink RX3 62 yX3_sign, Cond.instanceMethod yX3_sign, Cond.selects RX3 yX3_sign yX3_sign, Cond.code yX3_sign cX3_sign 1 (some .int), Cond.methodLink RX3 88 yX3_readSum, Cond.instanceMethod yX3_readSum, Cond.selects RX3 yX3_readSum yX3_readSum, Cond.code yX3_readSum cX3_readSum 6 (some .int), Cond.methodLink RX3 100 yX3_readProduct, Cond.instanceMethod yX3_readProduct, Cond.selects RX3 yX3_readProduct yX3_readProduct, Cond.code yX3_readBracket cX3_readBracket 3 (some .int), Cond.code yX3_readOperand cX3_readOperand 4 (some .int), Cond.methodLink RX3 106 yX3_isDigit, Cond.static yX3_isDigit, Cond.code yX3_isDigit cX3_isDigit 1 (some .boolean), Cond.methodLink RX3 110 yX3_readNumber]
noncomputable def wsX11_table_r5 : List Cond := [Cond.instanceMethod yX3_readNumber, Cond.selects RX3 yX3_readNumber yX3_readNumber, Cond.code yX3_readNumber cX3_readNumber 3 (some .int), Cond.methodLink RX3 113 yX3_readBracket, Cond.instanceMethod yX3_readBracket, Cond.selects RX3 yX3_readBracket yX3_readBracket, Cond.code yX3_readProduct cX3_readProduct 6 (some .int), Cond.methodLink RX3 103 yX3_readOperand, Cond.instanceMethod yX3_readOperand, Cond.selects RX3 yX3_readOperand yX3_readOperand, Cond.methodLink RX3 91 yX3_heldWithin, Cond.static yX3_heldWithin, Cond.code yX3_heldWithin cX3_heldWithin 1 (some .int), Cond.methodLink RX3 97 Lib.Math.min.name, Cond.methodLink RX3 94 yX3_readWay, Cond.instanceMethod yX3_readWay, Cond.selects RX3 yX3_readWay yX3_readWay, Cond.code yX3_readWay cX3_readWay 2 (some .int), Cond.instanceMethod yX8_init, Cond.code yX8_init cX8_init 1 none, Cond.methodLink RX8 3 objectInit, Cond.instanceMethod objectInit, Cond.code objectInit ⟨#[0xb1]⟩ 1 none, Cond.fieldLink RX8 15 "SeatsRound$Table" "turn" "I"]
noncomputable def wsX11_table_r6 : List Cond := [Cond.fieldLink RX8 18 "SeatsRound$Table" "copies" "I", Cond.fieldLink RX8 21 "SeatsRound$Table" "streets" "I", Cond.fieldLink RX8 24 "SeatsRound$Table" "way" "I", Cond.fieldLink RX8 27 "SeatsRound$Table" "seats" "I", Cond.fieldLink RX8 33 "SeatsRound$Table" "oddsCounted" "Z", Cond.arrayClass .int, Cond.fieldLink RX8 41 "SeatsRound$Table" "odds" "[I", Cond.arrayClass .byte, Cond.fieldLink RX8 48 "SeatsRound$Table" "owner" "[B", Cond.arrayClass .short, Cond.fieldLink RX8 51 "SeatsRound$Table" "ahead" "[S", Cond.methodLink RX11 185 yX8_takeAll, Cond.instanceMethod yX8_takeAll, Cond.selects RX8 yX8_takeAll yX8_takeAll, Cond.code yX8_takeAll cX8_takeAll 2 none, Cond.methodLink RX8 76 yX8_takeLaw, Cond.methodLink RX11 189 yX8_seatAll, Cond.instanceMethod yX8_seatAll, Cond.selects RX8 yX8_seatAll yX8_seatAll, Cond.code yX8_seatAll cX8_seatAll 4 none, Cond.constant RX8 86 (104729), Cond.methodLink RX8 80 yJ7_fill_031fb, Cond.static yJ7_fill_031fb, Cond.initialized RJ7]
noncomputable def wsX11_table_r7 : List Cond := [Cond.code yJ7_fill_031fb cJ7_fill_031fb 4 none, Cond.static yX11_strewn, Cond.initialized RX11, Cond.code yX11_strewn cX11_strewn 1 (some .int), Cond.constant RX11 423 (1103515245), Cond.methodLink RX8 90 yX8_freeFrom, Cond.instanceMethod yX8_freeFrom, Cond.selects RX8 yX8_freeFrom yX8_freeFrom, Cond.code yX8_freeFrom cX8_freeFrom 4 (some .int), Cond.static yX11_placeBehind, Cond.code yX11_placeBehind cX11_placeBehind 1 (some .int), Cond.methodLink RX8 93 yX8_linkPlaces, Cond.instanceMethod yX8_linkPlaces, Cond.selects RX8 yX8_linkPlaces yX8_linkPlaces, Cond.code yX8_linkPlaces cX8_linkPlaces 4 none]
noncomputable def wsX11_table : List Cond := Cond.code yX11_table cX11_table 6 (some .int) :: ((wsX11_table_r1 ++ (wsX11_table_r2 ++ (wsX11_table_r3 ++ (wsX11_table_r4 ++ (wsX11_table_r5 ++ (wsX11_table_r6 ++ wsX11_table_r7)))))) ++ wsX110 ++ wsX20 ++ wsX90 ++ wsX80 ++ wsX30)
set_option maxRecDepth 20000 in
theorem gw_wsX11_table : wsX11_table.all goodWord = true := by decide +kernel
noncomputable def wsX11_tableAt : List Cond := Cond.code yX11_tableAt cX11_tableAt 2 (some (.object "SeatsRound$Table")) :: ([Cond.fieldLink RX11 52 "SeatsRound" "tableCount" "I", Cond.fieldLink RX11 48 "SeatsRound" "tables" "[LSeatsRound$Table;"] ++ wsX110)
set_option maxRecDepth 20000 in
theorem gw_wsX11_tableAt : wsX11_tableAt.all goodWord = true := by decide +kernel
noncomputable def wsX11_ofTable_r1 : List Cond := [Cond.fieldLink RX11 196 "SeatsRound$Table" "members" "I", Cond.fieldLink RX11 199 "SeatsRound$Table" "seats" "I", Cond.fieldLink RX11 202 "SeatsRound$Table" "copies" "I", Cond.fieldLink RX11 205 "SeatsRound$Table" "streets" "I", Cond.fieldLink RX11 208 "SeatsRound$Table" "way" "I", Cond.methodLink RX11 192 yX11_tableAt, Cond.instanceMethod yX11_tableAt, Cond.selects RX11 yX11_tableAt yX11_tableAt, Cond.initialized RX11, Cond.code yX11_tableAt cX11_tableAt 2 (some (.object "SeatsRound$Table")), Cond.fieldLink RX11 52 "SeatsRound" "tableCount" "I", Cond.fieldLink RX11 48 "SeatsRound" "tables" "[LSeatsRound$Table;", Cond.methodLink RX11 211 yX8_unevenness, Cond.instanceMethod yX8_unevenness, Cond.selects RX8 yX8_unevenness yX8_unevenness, Cond.initialized RX8, Cond.code yX8_unevenness cX8_unevenness 4 (some .int), Cond.fieldLink RX8 9 "SeatsRound$Table" "members" "I", Cond.fieldLink RX8 41 "SeatsRound$Table" "odds" "[I", Cond.methodLink RX8 61 Lib.Math.min.name, Cond.static Lib.Math.min.name, Cond.initialized "java/lang/Math", Cond.code Lib.Math.min.name Lib.Math.min.code 2 (some .int), Cond.methodLink RX8 67 Lib.Math.max.name]
noncomputable def wsX11_ofTable_r2 : List Cond := [Cond.static Lib.Math.max.name, Cond.code Lib.Math.max.name Lib.Math.max.code 2 (some .int), Cond.methodLink RX8 108 yX8_countOdds, Cond.instanceMethod yX8_countOdds, Cond.selects RX8 yX8_countOdds yX8_countOdds, Cond.code yX8_countOdds cX8_countOdds 3 none, Cond.fieldLink RX8 33 "SeatsRound$Table" "oddsCounted" "Z", Cond.methodLink RX8 102 yJ7_fill_53178, Cond.static yJ7_fill_53178, Cond.initialized RJ7, Cond.code yJ7_fill_53178 cJ7_fill_53178 4 none, Cond.methodLink RX8 105 yX8_firstFor, Cond.instanceMethod yX8_firstFor, Cond.selects RX8 yX8_firstFor yX8_firstFor, Cond.code yX8_firstFor cX8_firstFor 6 (some .int), Cond.fieldLink RX8 24 "SeatsRound$Table" "way" "I", Cond.fieldLink RX8 48 "SeatsRound$Table" "owner" "[B", Cond.fieldLink RX8 51 "SeatsRound$Table" "ahead" "[S", Cond.methodLink RX8 99 yX8_sumOf, Cond.instanceMethod yX8_sumOf, Cond.selects RX8 yX8_sumOf yX8_sumOf, Cond.code yX8_sumOf cX8_sumOf 3 (some .int), Cond.constant RX8 86 (104729), Cond.fieldLink RX8 15 "SeatsRound$Table" "turn" "I"]
noncomputable def wsX11_ofTable_r3 : List Cond := [Cond.fieldLink RX8 37 "SeatsRound$Table" "weight" "[I", Cond.static yX11_strewn, Cond.code yX11_strewn cX11_strewn 1 (some .int), Cond.constant RX11 423 (1103515245)]
noncomputable def wsX11_ofTable : List Cond := Cond.code yX11_ofTable cX11_ofTable 4 (some .int) :: ((wsX11_ofTable_r1 ++ (wsX11_ofTable_r2 ++ wsX11_ofTable_r3)) ++ wsX80 ++ wsX110)
set_option maxRecDepth 20000 in
theorem gw_wsX11_ofTable : wsX11_ofTable.all goodWord = true := by decide +kernel
noncomputable def wsX11_isPlace : List Cond := Cond.code yX11_isPlace cX11_isPlace 1 (some .boolean) :: ([])
set_option maxRecDepth 20000 in
theorem gw_wsX11_isPlace : wsX11_isPlace.all goodWord = true := by decide +kernel
noncomputable def wsX11_seat : List Cond := Cond.code yX11_seat cX11_seat 4 (some .int) :: ([Cond.fieldLink RX11 218 "SeatsRound$Table" "owner" "[B", Cond.methodLink RX11 192 yX11_tableAt, Cond.instanceMethod yX11_tableAt, Cond.selects RX11 yX11_tableAt yX11_tableAt, Cond.initialized RX11, Cond.code yX11_tableAt cX11_tableAt 2 (some (.object "SeatsRound$Table")), Cond.fieldLink RX11 52 "SeatsRound" "tableCount" "I", Cond.fieldLink RX11 48 "SeatsRound" "tables" "[LSeatsRound$Table;", Cond.methodLink RX11 215 yX11_isPlace, Cond.static yX11_isPlace, Cond.code yX11_isPlace cX11_isPlace 1 (some .boolean)] ++ wsX80 ++ wsX110)
set_option maxRecDepth 20000 in
theorem gw_wsX11_seat : wsX11_seat.all goodWord = true := by decide +kernel
noncomputable def wsX11_picked_r1 : List Cond := [Cond.fieldLink RX11 42 "SeatsRound" "choice" "LSeatsRound$Choice;", Cond.fieldLink RX11 225 "SeatsRound$Choice" "pickCount" "I", Cond.fieldLink RX11 228 "SeatsRound$Choice" "picks" "[I", Cond.methodLink RX11 192 yX11_tableAt, Cond.instanceMethod yX11_tableAt, Cond.selects RX11 yX11_tableAt yX11_tableAt, Cond.initialized RX11, Cond.code yX11_tableAt cX11_tableAt 2 (some (.object "SeatsRound$Table")), Cond.fieldLink RX11 52 "SeatsRound" "tableCount" "I", Cond.fieldLink RX11 48 "SeatsRound" "tables" "[LSeatsRound$Table;", Cond.methodLink RX11 215 yX11_isPlace, Cond.static yX11_isPlace, Cond.code yX11_isPlace cX11_isPlace 1 (some .boolean), Cond.methodLink RX11 221 yX1_pick, Cond.instanceMethod yX1_pick, Cond.selects RX1 yX1_pick yX1_pick, Cond.initialized RX1, Cond.code yX1_pick cX1_pick 3 none, Cond.fieldLink RX1 18 "SeatsRound$Choice" "pickCount" "I", Cond.fieldLink RX1 31 "SeatsRound$Choice" "pickBits" "I", Cond.fieldLink RX1 41 "SeatsRound$Table" "way" "I", Cond.methodLink RX1 46 yX1_pickBySums, Cond.instanceMethod yX1_pickBySums, Cond.selects RX1 yX1_pickBySums yX1_pickBySums]
noncomputable def wsX11_picked_r2 : List Cond := [Cond.code yX1_pickBySums cX1_pickBySums 7 none, Cond.fieldLink RX1 59 "SeatsRound$Table" "members" "I", Cond.fieldLink RX1 34 "SeatsRound$Choice" "sums" "[I", Cond.fieldLink RX1 9 "SeatsRound$Choice" "picks" "[I", Cond.methodLink RX1 85 yX8_sumOf, Cond.instanceMethod yX8_sumOf, Cond.selects RX8 yX8_sumOf yX8_sumOf, Cond.initialized RX8, Cond.code yX8_sumOf cX8_sumOf 3 (some .int), Cond.constant RX8 86 (104729), Cond.fieldLink RX8 15 "SeatsRound$Table" "turn" "I", Cond.fieldLink RX8 37 "SeatsRound$Table" "weight" "[I", Cond.static yX11_strewn, Cond.code yX11_strewn cX11_strewn 1 (some .int), Cond.constant RX11 423 (1103515245), Cond.methodLink RX1 50 yX1_pickByJumps, Cond.instanceMethod yX1_pickByJumps, Cond.selects RX1 yX1_pickByJumps yX1_pickByJumps, Cond.code yX1_pickByJumps cX1_pickByJumps 4 none, Cond.methodLink RX1 82 yX1_pickFirstFrom, Cond.instanceMethod yX1_pickFirstFrom, Cond.selects RX1 yX1_pickFirstFrom yX1_pickFirstFrom, Cond.code yX1_pickFirstFrom cX1_pickFirstFrom 5 none, Cond.fieldLink RX1 56 "SeatsRound$Table" "seats" "I"]
noncomputable def wsX11_picked_r3 : List Cond := [Cond.fieldLink RX1 62 "SeatsRound$Table" "ahead" "[S", Cond.fieldLink RX1 66 "SeatsRound$Table" "owner" "[B", Cond.methodLink RX1 70 yX1_isPicked, Cond.instanceMethod yX1_isPicked, Cond.selects RX1 yX1_isPicked yX1_isPicked, Cond.code yX1_isPicked cX1_isPicked 2 (some .boolean), Cond.methodLink RX1 74 yX1_takePick, Cond.instanceMethod yX1_takePick, Cond.selects RX1 yX1_takePick yX1_takePick, Cond.code yX1_takePick cX1_takePick 2 none, Cond.static yX11_placeBehind, Cond.code yX11_placeBehind cX11_placeBehind 1 (some .int), Cond.methodLink RX1 53 yX1_pickRound, Cond.instanceMethod yX1_pickRound, Cond.selects RX1 yX1_pickRound yX1_pickRound, Cond.code yX1_pickRound cX1_pickRound 5 none]
noncomputable def wsX11_picked : List Cond := Cond.code yX11_picked cX11_picked 5 (some .int) :: ((wsX11_picked_r1 ++ (wsX11_picked_r2 ++ wsX11_picked_r3)) ++ wsX110 ++ wsX10 ++ wsX80)
set_option maxRecDepth 20000 in
theorem gw_wsX11_picked : wsX11_picked.all goodWord = true := by decide +kernel
noncomputable def wsX11_keeperOf_r1 : List Cond := [Cond.fieldLink RX11 19 "SeatsRound" "nameList" "LSeatsRound$NameList;", Cond.fieldLink RX11 42 "SeatsRound" "choice" "LSeatsRound$Choice;", Cond.fieldLink RX11 231 "SeatsRound$Table" "turn" "I", Cond.fieldLink RX11 237 "SeatsRound$Choice" "chosenCount" "I", Cond.fieldLink RX11 240 "SeatsRound$Choice" "chosen" "[I", Cond.methodLink RX11 192 yX11_tableAt, Cond.instanceMethod yX11_tableAt, Cond.selects RX11 yX11_tableAt yX11_tableAt, Cond.initialized RX11, Cond.code yX11_tableAt cX11_tableAt 2 (some (.object "SeatsRound$Table")), Cond.fieldLink RX11 52 "SeatsRound" "tableCount" "I", Cond.fieldLink RX11 48 "SeatsRound" "tables" "[LSeatsRound$Table;", Cond.methodLink RX11 123 yX4_has, Cond.instanceMethod yX4_has, Cond.selects RX4 yX4_has yX4_has, Cond.initialized RX4, Cond.code yX4_has cX4_has 2 (some .boolean), Cond.fieldLink RX4 24 "SeatsRound$NameList" "count" "I", Cond.methodLink RX11 127 yX4_placeOf, Cond.instanceMethod yX4_placeOf, Cond.selects RX4 yX4_placeOf yX4_placeOf, Cond.code yX4_placeOf cX4_placeOf 5 (some .int), Cond.fieldLink RX4 16 "SeatsRound$NameList" "size" "[I", Cond.fieldLink RX4 11 "SeatsRound$NameList" "bytes" "[[B"]
noncomputable def wsX11_keeperOf_r2 : List Cond := [Cond.constant RX4 38 (16777619), Cond.methodLink RX11 234 yX1_choose, Cond.instanceMethod yX1_choose, Cond.selects RX1 yX1_choose yX1_choose, Cond.initialized RX1, Cond.code yX1_choose cX1_choose 4 none, Cond.fieldLink RX1 22 "SeatsRound$Choice" "chosenCount" "I", Cond.fieldLink RX1 25 "SeatsRound$Choice" "chosenBits" "I", Cond.fieldLink RX1 28 "SeatsRound$Choice" "streetBits" "I", Cond.fieldLink RX1 18 "SeatsRound$Choice" "pickCount" "I", Cond.fieldLink RX1 92 "SeatsRound$Table" "copies" "I", Cond.fieldLink RX1 95 "SeatsRound$Table" "streets" "I", Cond.methodLink RX1 98 Lib.Math.min.name, Cond.static Lib.Math.min.name, Cond.initialized "java/lang/Math", Cond.code Lib.Math.min.name Lib.Math.min.code 2 (some .int), Cond.fieldLink RX1 37 "SeatsRound$Choice" "keepers" "LSeatsRound$Keepers;", Cond.fieldLink RX1 103 "SeatsRound$Keepers" "street" "[I", Cond.fieldLink RX1 9 "SeatsRound$Choice" "picks" "[I", Cond.methodLink RX1 89 yX1_pick, Cond.instanceMethod yX1_pick, Cond.selects RX1 yX1_pick yX1_pick, Cond.code yX1_pick cX1_pick 3 none, Cond.fieldLink RX1 31 "SeatsRound$Choice" "pickBits" "I"]
noncomputable def wsX11_keeperOf_r3 : List Cond := [Cond.fieldLink RX1 41 "SeatsRound$Table" "way" "I", Cond.methodLink RX1 46 yX1_pickBySums, Cond.instanceMethod yX1_pickBySums, Cond.selects RX1 yX1_pickBySums yX1_pickBySums, Cond.code yX1_pickBySums cX1_pickBySums 7 none, Cond.fieldLink RX1 59 "SeatsRound$Table" "members" "I", Cond.fieldLink RX1 34 "SeatsRound$Choice" "sums" "[I", Cond.methodLink RX1 85 yX8_sumOf, Cond.instanceMethod yX8_sumOf, Cond.selects RX8 yX8_sumOf yX8_sumOf, Cond.initialized RX8, Cond.code yX8_sumOf cX8_sumOf 3 (some .int), Cond.constant RX8 86 (104729), Cond.fieldLink RX8 15 "SeatsRound$Table" "turn" "I", Cond.fieldLink RX8 37 "SeatsRound$Table" "weight" "[I", Cond.static yX11_strewn, Cond.code yX11_strewn cX11_strewn 1 (some .int), Cond.constant RX11 423 (1103515245), Cond.methodLink RX1 50 yX1_pickByJumps, Cond.instanceMethod yX1_pickByJumps, Cond.selects RX1 yX1_pickByJumps yX1_pickByJumps, Cond.code yX1_pickByJumps cX1_pickByJumps 4 none, Cond.methodLink RX1 82 yX1_pickFirstFrom, Cond.instanceMethod yX1_pickFirstFrom]
noncomputable def wsX11_keeperOf_r4 : List Cond := [Cond.selects RX1 yX1_pickFirstFrom yX1_pickFirstFrom, Cond.code yX1_pickFirstFrom cX1_pickFirstFrom 5 none, Cond.fieldLink RX1 56 "SeatsRound$Table" "seats" "I", Cond.fieldLink RX1 62 "SeatsRound$Table" "ahead" "[S", Cond.fieldLink RX1 66 "SeatsRound$Table" "owner" "[B", Cond.methodLink RX1 70 yX1_isPicked, Cond.instanceMethod yX1_isPicked, Cond.selects RX1 yX1_isPicked yX1_isPicked, Cond.code yX1_isPicked cX1_isPicked 2 (some .boolean), Cond.methodLink RX1 74 yX1_takePick, Cond.instanceMethod yX1_takePick, Cond.selects RX1 yX1_takePick yX1_takePick, Cond.code yX1_takePick cX1_takePick 2 none, Cond.static yX11_placeBehind, Cond.code yX11_placeBehind cX11_placeBehind 1 (some .int), Cond.methodLink RX1 53 yX1_pickRound, Cond.instanceMethod yX1_pickRound, Cond.selects RX1 yX1_pickRound yX1_pickRound, Cond.code yX1_pickRound cX1_pickRound 5 none, Cond.methodLink RX1 108 yX1_takeChosen, Cond.instanceMethod yX1_takeChosen, Cond.selects RX1 yX1_takeChosen yX1_takeChosen, Cond.code yX1_takeChosen cX1_takeChosen 2 none, Cond.fieldLink RX1 15 "SeatsRound$Choice" "chosen" "[I"]
noncomputable def wsX11_keeperOf_r5 : List Cond := [Cond.methodLink RX1 111 yX1_isChosen, Cond.instanceMethod yX1_isChosen, Cond.selects RX1 yX1_isChosen yX1_isChosen, Cond.code yX1_isChosen cX1_isChosen 2 (some .boolean)]
noncomputable def wsX11_keeperOf : List Cond := Cond.code yX11_keeperOf cX11_keeperOf 5 (some .int) :: ((wsX11_keeperOf_r1 ++ (wsX11_keeperOf_r2 ++ (wsX11_keeperOf_r3 ++ (wsX11_keeperOf_r4 ++ wsX11_keeperOf_r5)))) ++ wsX110 ++ wsX80 ++ wsX10 ++ wsX40 ++ wsX20)
set_option maxRecDepth 20000 in
theorem gw_wsX11_keeperOf : wsX11_keeperOf.all goodWord = true := by decide +kernel
noncomputable def wsX11_tooFew_r1 : List Cond := [Cond.fieldLink RX11 19 "SeatsRound" "nameList" "LSeatsRound$NameList;", Cond.fieldLink RX11 117 "SeatsRound$NameList" "count" "I", Cond.fieldLink RX11 42 "SeatsRound" "choice" "LSeatsRound$Choice;", Cond.fieldLink RX11 231 "SeatsRound$Table" "turn" "I", Cond.fieldLink RX11 243 "SeatsRound$Choice" "streetBits" "I", Cond.fieldLink RX11 205 "SeatsRound$Table" "streets" "I", Cond.methodLink RX11 192 yX11_tableAt, Cond.instanceMethod yX11_tableAt, Cond.selects RX11 yX11_tableAt yX11_tableAt, Cond.initialized RX11, Cond.code yX11_tableAt cX11_tableAt 2 (some (.object "SeatsRound$Table")), Cond.fieldLink RX11 52 "SeatsRound" "tableCount" "I", Cond.fieldLink RX11 48 "SeatsRound" "tables" "[LSeatsRound$Table;", Cond.methodLink RX11 127 yX4_placeOf, Cond.instanceMethod yX4_placeOf, Cond.selects RX4 yX4_placeOf yX4_placeOf, Cond.initialized RX4, Cond.code yX4_placeOf cX4_placeOf 5 (some .int), Cond.fieldLink RX4 16 "SeatsRound$NameList" "size" "[I", Cond.fieldLink RX4 11 "SeatsRound$NameList" "bytes" "[[B", Cond.constant RX4 38 (16777619), Cond.methodLink RX11 234 yX1_choose, Cond.instanceMethod yX1_choose, Cond.selects RX1 yX1_choose yX1_choose]
noncomputable def wsX11_tooFew_r2 : List Cond := [Cond.initialized RX1, Cond.code yX1_choose cX1_choose 4 none, Cond.fieldLink RX1 22 "SeatsRound$Choice" "chosenCount" "I", Cond.fieldLink RX1 25 "SeatsRound$Choice" "chosenBits" "I", Cond.fieldLink RX1 28 "SeatsRound$Choice" "streetBits" "I", Cond.fieldLink RX1 18 "SeatsRound$Choice" "pickCount" "I", Cond.fieldLink RX1 92 "SeatsRound$Table" "copies" "I", Cond.fieldLink RX1 95 "SeatsRound$Table" "streets" "I", Cond.methodLink RX1 98 Lib.Math.min.name, Cond.static Lib.Math.min.name, Cond.initialized "java/lang/Math", Cond.code Lib.Math.min.name Lib.Math.min.code 2 (some .int), Cond.fieldLink RX1 37 "SeatsRound$Choice" "keepers" "LSeatsRound$Keepers;", Cond.fieldLink RX1 103 "SeatsRound$Keepers" "street" "[I", Cond.fieldLink RX1 9 "SeatsRound$Choice" "picks" "[I", Cond.methodLink RX1 89 yX1_pick, Cond.instanceMethod yX1_pick, Cond.selects RX1 yX1_pick yX1_pick, Cond.code yX1_pick cX1_pick 3 none, Cond.fieldLink RX1 31 "SeatsRound$Choice" "pickBits" "I", Cond.fieldLink RX1 41 "SeatsRound$Table" "way" "I", Cond.methodLink RX1 46 yX1_pickBySums, Cond.instanceMethod yX1_pickBySums, Cond.selects RX1 yX1_pickBySums yX1_pickBySums]
noncomputable def wsX11_tooFew_r3 : List Cond := [Cond.code yX1_pickBySums cX1_pickBySums 7 none, Cond.fieldLink RX1 59 "SeatsRound$Table" "members" "I", Cond.fieldLink RX1 34 "SeatsRound$Choice" "sums" "[I", Cond.methodLink RX1 85 yX8_sumOf, Cond.instanceMethod yX8_sumOf, Cond.selects RX8 yX8_sumOf yX8_sumOf, Cond.initialized RX8, Cond.code yX8_sumOf cX8_sumOf 3 (some .int), Cond.constant RX8 86 (104729), Cond.fieldLink RX8 15 "SeatsRound$Table" "turn" "I", Cond.fieldLink RX8 37 "SeatsRound$Table" "weight" "[I", Cond.static yX11_strewn, Cond.code yX11_strewn cX11_strewn 1 (some .int), Cond.constant RX11 423 (1103515245), Cond.methodLink RX1 50 yX1_pickByJumps, Cond.instanceMethod yX1_pickByJumps, Cond.selects RX1 yX1_pickByJumps yX1_pickByJumps, Cond.code yX1_pickByJumps cX1_pickByJumps 4 none, Cond.methodLink RX1 82 yX1_pickFirstFrom, Cond.instanceMethod yX1_pickFirstFrom, Cond.selects RX1 yX1_pickFirstFrom yX1_pickFirstFrom, Cond.code yX1_pickFirstFrom cX1_pickFirstFrom 5 none, Cond.fieldLink RX1 56 "SeatsRound$Table" "seats" "I", Cond.fieldLink RX1 62 "SeatsRound$Table" "ahead" "[S"]
noncomputable def wsX11_tooFew_r4 : List Cond := [Cond.fieldLink RX1 66 "SeatsRound$Table" "owner" "[B", Cond.methodLink RX1 70 yX1_isPicked, Cond.instanceMethod yX1_isPicked, Cond.selects RX1 yX1_isPicked yX1_isPicked, Cond.code yX1_isPicked cX1_isPicked 2 (some .boolean), Cond.methodLink RX1 74 yX1_takePick, Cond.instanceMethod yX1_takePick, Cond.selects RX1 yX1_takePick yX1_takePick, Cond.code yX1_takePick cX1_takePick 2 none, Cond.static yX11_placeBehind, Cond.code yX11_placeBehind cX11_placeBehind 1 (some .int), Cond.methodLink RX1 53 yX1_pickRound, Cond.instanceMethod yX1_pickRound, Cond.selects RX1 yX1_pickRound yX1_pickRound, Cond.code yX1_pickRound cX1_pickRound 5 none, Cond.methodLink RX1 108 yX1_takeChosen, Cond.instanceMethod yX1_takeChosen, Cond.selects RX1 yX1_takeChosen yX1_takeChosen, Cond.code yX1_takeChosen cX1_takeChosen 2 none, Cond.fieldLink RX1 15 "SeatsRound$Choice" "chosen" "[I", Cond.methodLink RX1 111 yX1_isChosen, Cond.instanceMethod yX1_isChosen, Cond.selects RX1 yX1_isChosen yX1_isChosen, Cond.code yX1_isChosen cX1_isChosen 2 (some .boolean)]
noncomputable def wsX11_tooFew_r5 : List Cond := [Cond.methodLink RX11 246 yJ6_bitCount_0f7a4, Cond.static yJ6_bitCount_0f7a4, Cond.initialized RJ6, Cond.code yJ6_bitCount_0f7a4 cJ6_bitCount_0f7a4 1 (some .int), Cond.constant RJ6 265 (1431655765), Cond.constant RJ6 266 (858993459), Cond.constant RJ6 267 (252645135)]
noncomputable def wsX11_tooFew : List Cond := Cond.code yX11_tooFew cX11_tooFew 5 (some .int) :: ((wsX11_tooFew_r1 ++ (wsX11_tooFew_r2 ++ (wsX11_tooFew_r3 ++ (wsX11_tooFew_r4 ++ wsX11_tooFew_r5)))) ++ wsX110 ++ wsX40 ++ wsX80 ++ wsX10 ++ wsX20)
set_option maxRecDepth 20000 in
theorem gw_wsX11_tooFew : wsX11_tooFew.all goodWord = true := by decide +kernel
noncomputable def wsX11_share_r1 : List Cond := [Cond.fieldLink RX11 26 "SeatsRound" "keepers" "LSeatsRound$Keepers;", Cond.fieldLink RX11 254 "SeatsRound$Table" "odds" "[I", Cond.fieldLink RX11 19 "SeatsRound" "nameList" "LSeatsRound$NameList;", Cond.fieldLink RX11 117 "SeatsRound$NameList" "count" "I", Cond.fieldLink RX11 231 "SeatsRound$Table" "turn" "I", Cond.methodLink RX11 192 yX11_tableAt, Cond.instanceMethod yX11_tableAt, Cond.selects RX11 yX11_tableAt yX11_tableAt, Cond.initialized RX11, Cond.code yX11_tableAt cX11_tableAt 2 (some (.object "SeatsRound$Table")), Cond.fieldLink RX11 52 "SeatsRound" "tableCount" "I", Cond.fieldLink RX11 48 "SeatsRound" "tables" "[LSeatsRound$Table;", Cond.methodLink RX11 137 yX2_has, Cond.instanceMethod yX2_has, Cond.selects RX2 yX2_has yX2_has, Cond.initialized RX2, Cond.code yX2_has cX2_has 2 (some .boolean), Cond.fieldLink RX2 28 "SeatsRound$Keepers" "count" "I", Cond.methodLink RX11 251 yX8_countOdds, Cond.instanceMethod yX8_countOdds, Cond.selects RX8 yX8_countOdds yX8_countOdds, Cond.initialized RX8, Cond.code yX8_countOdds cX8_countOdds 3 none, Cond.fieldLink RX8 33 "SeatsRound$Table" "oddsCounted" "Z"]
noncomputable def wsX11_share_r2 : List Cond := [Cond.fieldLink RX8 41 "SeatsRound$Table" "odds" "[I", Cond.methodLink RX8 102 yJ7_fill_53178, Cond.static yJ7_fill_53178, Cond.initialized RJ7, Cond.code yJ7_fill_53178 cJ7_fill_53178 4 none, Cond.methodLink RX8 105 yX8_firstFor, Cond.instanceMethod yX8_firstFor, Cond.selects RX8 yX8_firstFor yX8_firstFor, Cond.code yX8_firstFor cX8_firstFor 6 (some .int), Cond.fieldLink RX8 24 "SeatsRound$Table" "way" "I", Cond.fieldLink RX8 48 "SeatsRound$Table" "owner" "[B", Cond.fieldLink RX8 51 "SeatsRound$Table" "ahead" "[S", Cond.fieldLink RX8 9 "SeatsRound$Table" "members" "I", Cond.methodLink RX8 99 yX8_sumOf, Cond.instanceMethod yX8_sumOf, Cond.selects RX8 yX8_sumOf yX8_sumOf, Cond.code yX8_sumOf cX8_sumOf 3 (some .int), Cond.constant RX8 86 (104729), Cond.fieldLink RX8 15 "SeatsRound$Table" "turn" "I", Cond.fieldLink RX8 37 "SeatsRound$Table" "weight" "[I", Cond.static yX11_strewn, Cond.code yX11_strewn cX11_strewn 1 (some .int), Cond.constant RX11 423 (1103515245), Cond.methodLink RX11 127 yX4_placeOf]
noncomputable def wsX11_share_r3 : List Cond := [Cond.instanceMethod yX4_placeOf, Cond.selects RX4 yX4_placeOf yX4_placeOf, Cond.initialized RX4, Cond.code yX4_placeOf cX4_placeOf 5 (some .int), Cond.fieldLink RX4 16 "SeatsRound$NameList" "size" "[I", Cond.fieldLink RX4 11 "SeatsRound$NameList" "bytes" "[[B", Cond.constant RX4 38 (16777619), Cond.methodLink RX11 257 yX8_firstFor]
noncomputable def wsX11_share : List Cond := Cond.code yX11_share cX11_share 7 (some .int) :: ((wsX11_share_r1 ++ (wsX11_share_r2 ++ wsX11_share_r3)) ++ wsX110 ++ wsX80 ++ wsX40 ++ wsX20)
set_option maxRecDepth 20000 in
theorem gw_wsX11_share : wsX11_share.all goodWord = true := by decide +kernel
noncomputable def wsX11_moves_r1 : List Cond := [Cond.fieldLink RX11 19 "SeatsRound" "nameList" "LSeatsRound$NameList;", Cond.fieldLink RX11 117 "SeatsRound$NameList" "count" "I", Cond.fieldLink RX11 42 "SeatsRound" "choice" "LSeatsRound$Choice;", Cond.fieldLink RX11 231 "SeatsRound$Table" "turn" "I", Cond.fieldLink RX11 264 "SeatsRound$Choice" "chosenBits" "I", Cond.methodLink RX11 192 yX11_tableAt, Cond.instanceMethod yX11_tableAt, Cond.selects RX11 yX11_tableAt yX11_tableAt, Cond.initialized RX11, Cond.code yX11_tableAt cX11_tableAt 2 (some (.object "SeatsRound$Table")), Cond.fieldLink RX11 52 "SeatsRound" "tableCount" "I", Cond.fieldLink RX11 48 "SeatsRound" "tables" "[LSeatsRound$Table;", Cond.methodLink RX11 260 yX8_alikeIn, Cond.instanceMethod yX8_alikeIn, Cond.selects RX8 yX8_alikeIn yX8_alikeIn, Cond.initialized RX8, Cond.code yX8_alikeIn cX8_alikeIn 4 (some .int), Cond.fieldLink RX8 9 "SeatsRound$Table" "members" "I", Cond.fieldLink RX8 37 "SeatsRound$Table" "weight" "[I", Cond.methodLink RX11 127 yX4_placeOf, Cond.instanceMethod yX4_placeOf, Cond.selects RX4 yX4_placeOf yX4_placeOf, Cond.initialized RX4, Cond.code yX4_placeOf cX4_placeOf 5 (some .int)]
noncomputable def wsX11_moves_r2 : List Cond := [Cond.fieldLink RX4 16 "SeatsRound$NameList" "size" "[I", Cond.fieldLink RX4 11 "SeatsRound$NameList" "bytes" "[[B", Cond.constant RX4 38 (16777619), Cond.methodLink RX11 234 yX1_choose, Cond.instanceMethod yX1_choose, Cond.selects RX1 yX1_choose yX1_choose, Cond.initialized RX1, Cond.code yX1_choose cX1_choose 4 none, Cond.fieldLink RX1 22 "SeatsRound$Choice" "chosenCount" "I", Cond.fieldLink RX1 25 "SeatsRound$Choice" "chosenBits" "I", Cond.fieldLink RX1 28 "SeatsRound$Choice" "streetBits" "I", Cond.fieldLink RX1 18 "SeatsRound$Choice" "pickCount" "I", Cond.fieldLink RX1 92 "SeatsRound$Table" "copies" "I", Cond.fieldLink RX1 95 "SeatsRound$Table" "streets" "I", Cond.methodLink RX1 98 Lib.Math.min.name, Cond.static Lib.Math.min.name, Cond.initialized "java/lang/Math", Cond.code Lib.Math.min.name Lib.Math.min.code 2 (some .int), Cond.fieldLink RX1 37 "SeatsRound$Choice" "keepers" "LSeatsRound$Keepers;", Cond.fieldLink RX1 103 "SeatsRound$Keepers" "street" "[I", Cond.fieldLink RX1 9 "SeatsRound$Choice" "picks" "[I", Cond.methodLink RX1 89 yX1_pick, Cond.instanceMethod yX1_pick, Cond.selects RX1 yX1_pick yX1_pick]
noncomputable def wsX11_moves_r3 : List Cond := [Cond.code yX1_pick cX1_pick 3 none, Cond.fieldLink RX1 31 "SeatsRound$Choice" "pickBits" "I", Cond.fieldLink RX1 41 "SeatsRound$Table" "way" "I", Cond.methodLink RX1 46 yX1_pickBySums, Cond.instanceMethod yX1_pickBySums, Cond.selects RX1 yX1_pickBySums yX1_pickBySums, Cond.code yX1_pickBySums cX1_pickBySums 7 none, Cond.fieldLink RX1 59 "SeatsRound$Table" "members" "I", Cond.fieldLink RX1 34 "SeatsRound$Choice" "sums" "[I", Cond.methodLink RX1 85 yX8_sumOf, Cond.instanceMethod yX8_sumOf, Cond.selects RX8 yX8_sumOf yX8_sumOf, Cond.code yX8_sumOf cX8_sumOf 3 (some .int), Cond.constant RX8 86 (104729), Cond.fieldLink RX8 15 "SeatsRound$Table" "turn" "I", Cond.static yX11_strewn, Cond.code yX11_strewn cX11_strewn 1 (some .int), Cond.constant RX11 423 (1103515245), Cond.methodLink RX1 50 yX1_pickByJumps, Cond.instanceMethod yX1_pickByJumps, Cond.selects RX1 yX1_pickByJumps yX1_pickByJumps, Cond.code yX1_pickByJumps cX1_pickByJumps 4 none, Cond.methodLink RX1 82 yX1_pickFirstFrom, Cond.instanceMethod yX1_pickFirstFrom]
noncomputable def wsX11_moves_r4 : List Cond := [Cond.selects RX1 yX1_pickFirstFrom yX1_pickFirstFrom, Cond.code yX1_pickFirstFrom cX1_pickFirstFrom 5 none, Cond.fieldLink RX1 56 "SeatsRound$Table" "seats" "I", Cond.fieldLink RX1 62 "SeatsRound$Table" "ahead" "[S", Cond.fieldLink RX1 66 "SeatsRound$Table" "owner" "[B", Cond.methodLink RX1 70 yX1_isPicked, Cond.instanceMethod yX1_isPicked, Cond.selects RX1 yX1_isPicked yX1_isPicked, Cond.code yX1_isPicked cX1_isPicked 2 (some .boolean), Cond.methodLink RX1 74 yX1_takePick, Cond.instanceMethod yX1_takePick, Cond.selects RX1 yX1_takePick yX1_takePick, Cond.code yX1_takePick cX1_takePick 2 none, Cond.static yX11_placeBehind, Cond.code yX11_placeBehind cX11_placeBehind 1 (some .int), Cond.methodLink RX1 53 yX1_pickRound, Cond.instanceMethod yX1_pickRound, Cond.selects RX1 yX1_pickRound yX1_pickRound, Cond.code yX1_pickRound cX1_pickRound 5 none, Cond.methodLink RX1 108 yX1_takeChosen, Cond.instanceMethod yX1_takeChosen, Cond.selects RX1 yX1_takeChosen yX1_takeChosen, Cond.code yX1_takeChosen cX1_takeChosen 2 none, Cond.fieldLink RX1 15 "SeatsRound$Choice" "chosen" "[I"]
noncomputable def wsX11_moves_r5 : List Cond := [Cond.methodLink RX1 111 yX1_isChosen, Cond.instanceMethod yX1_isChosen, Cond.selects RX1 yX1_isChosen yX1_isChosen, Cond.code yX1_isChosen cX1_isChosen 2 (some .boolean), Cond.methodLink RX11 246 yJ6_bitCount_0f7a4, Cond.static yJ6_bitCount_0f7a4, Cond.initialized RJ6, Cond.code yJ6_bitCount_0f7a4 cJ6_bitCount_0f7a4 1 (some .int), Cond.constant RJ6 265 (1431655765), Cond.constant RJ6 266 (858993459), Cond.constant RJ6 267 (252645135)]
noncomputable def wsX11_moves : List Cond := Cond.code yX11_moves cX11_moves 11 (some .int) :: ((wsX11_moves_r1 ++ (wsX11_moves_r2 ++ (wsX11_moves_r3 ++ (wsX11_moves_r4 ++ wsX11_moves_r5)))) ++ wsX110 ++ wsX40 ++ wsX80 ++ wsX10 ++ wsX20)
set_option maxRecDepth 20000 in
theorem gw_wsX11_moves : wsX11_moves.all goodWord = true := by decide +kernel
noncomputable def wsX11_knows : List Cond := Cond.code yX11_knows cX11_knows 4 (some .int) :: ([Cond.fieldLink RX11 26 "SeatsRound" "keepers" "LSeatsRound$Keepers;", Cond.fieldLink RX11 52 "SeatsRound" "tableCount" "I", Cond.constant RX11 152 (-2000000000), Cond.fieldLink RX11 160 "SeatsRound$Keepers" "table" "[I", Cond.methodLink RX11 137 yX2_has, Cond.instanceMethod yX2_has, Cond.selects RX2 yX2_has yX2_has, Cond.initialized RX2, Cond.code yX2_has cX2_has 2 (some .boolean), Cond.fieldLink RX2 28 "SeatsRound$Keepers" "count" "I"] ++ wsX110 ++ wsX20)
set_option maxRecDepth 20000 in
theorem gw_wsX11_knows : wsX11_knows.all goodWord = true := by decide +kernel
noncomputable def wsX11_write_r1 : List Cond := [Cond.fieldLink RX11 26 "SeatsRound" "keepers" "LSeatsRound$Keepers;", Cond.fieldLink RX11 19 "SeatsRound" "nameList" "LSeatsRound$NameList;", Cond.fieldLink RX11 160 "SeatsRound$Keepers" "table" "[I", Cond.fieldLink RX11 66 "SeatsRound" "parcels" "LSeatsRound$Parcels;", Cond.methodLink RX11 137 yX2_has, Cond.instanceMethod yX2_has, Cond.selects RX2 yX2_has yX2_has, Cond.initialized RX2, Cond.code yX2_has cX2_has 2 (some .boolean), Cond.fieldLink RX2 28 "SeatsRound$Keepers" "count" "I", Cond.methodLink RX11 123 yX4_has, Cond.instanceMethod yX4_has, Cond.selects RX4 yX4_has yX4_has, Cond.initialized RX4, Cond.code yX4_has cX4_has 2 (some .boolean), Cond.fieldLink RX4 24 "SeatsRound$NameList" "count" "I", Cond.methodLink RX11 192 yX11_tableAt, Cond.instanceMethod yX11_tableAt, Cond.selects RX11 yX11_tableAt yX11_tableAt, Cond.initialized RX11, Cond.code yX11_tableAt cX11_tableAt 2 (some (.object "SeatsRound$Table")), Cond.fieldLink RX11 52 "SeatsRound" "tableCount" "I", Cond.fieldLink RX11 48 "SeatsRound" "tables" "[LSeatsRound$Table;", Cond.methodLink RX11 267 yX2_isUp]
noncomputable def wsX11_write_r2 : List Cond := [Cond.instanceMethod yX2_isUp, Cond.selects RX2 yX2_isUp yX2_isUp, Cond.code yX2_isUp cX2_isUp 2 (some .boolean), Cond.fieldLink RX2 24 "SeatsRound$Keepers" "fallen" "[Z", Cond.fieldLink RX2 9 "SeatsRound$Keepers" "kind" "[I", Cond.methodLink RX11 270 yX6_spread, Cond.instanceMethod yX6_spread, Cond.selects RX6 yX6_spread yX6_spread, Cond.initialized RX6, Cond.code yX6_spread cX6_spread 5 (some .int), Cond.fieldLink RX6 38 "SeatsRound$Parcels" "writings" "I", Cond.fieldLink RX6 28 "SeatsRound$Parcels" "latest" "[I", Cond.fieldLink RX6 50 "SeatsRound$Parcels" "choice" "LSeatsRound$Choice;", Cond.fieldLink RX6 46 "SeatsRound$Parcels" "nameList" "LSeatsRound$NameList;", Cond.fieldLink RX6 54 "SeatsRound$Table" "turn" "I", Cond.fieldLink RX6 71 "SeatsRound$Choice" "chosenCount" "I", Cond.fieldLink RX6 74 "SeatsRound$Choice" "chosen" "[I", Cond.methodLink RX6 59 yX4_placeOf, Cond.instanceMethod yX4_placeOf, Cond.selects RX4 yX4_placeOf yX4_placeOf, Cond.code yX4_placeOf cX4_placeOf 5 (some .int), Cond.fieldLink RX4 16 "SeatsRound$NameList" "size" "[I", Cond.fieldLink RX4 11 "SeatsRound$NameList" "bytes" "[[B", Cond.constant RX4 38 (16777619)]
noncomputable def wsX11_write_r3 : List Cond := [Cond.methodLink RX6 65 yX1_choose, Cond.instanceMethod yX1_choose, Cond.selects RX1 yX1_choose yX1_choose, Cond.initialized RX1, Cond.code yX1_choose cX1_choose 4 none, Cond.fieldLink RX1 22 "SeatsRound$Choice" "chosenCount" "I", Cond.fieldLink RX1 25 "SeatsRound$Choice" "chosenBits" "I", Cond.fieldLink RX1 28 "SeatsRound$Choice" "streetBits" "I", Cond.fieldLink RX1 18 "SeatsRound$Choice" "pickCount" "I", Cond.fieldLink RX1 92 "SeatsRound$Table" "copies" "I", Cond.fieldLink RX1 95 "SeatsRound$Table" "streets" "I", Cond.methodLink RX1 98 Lib.Math.min.name, Cond.static Lib.Math.min.name, Cond.initialized "java/lang/Math", Cond.code Lib.Math.min.name Lib.Math.min.code 2 (some .int), Cond.fieldLink RX1 37 "SeatsRound$Choice" "keepers" "LSeatsRound$Keepers;", Cond.fieldLink RX1 103 "SeatsRound$Keepers" "street" "[I", Cond.fieldLink RX1 9 "SeatsRound$Choice" "picks" "[I", Cond.methodLink RX1 89 yX1_pick, Cond.instanceMethod yX1_pick, Cond.selects RX1 yX1_pick yX1_pick, Cond.code yX1_pick cX1_pick 3 none, Cond.fieldLink RX1 31 "SeatsRound$Choice" "pickBits" "I", Cond.fieldLink RX1 41 "SeatsRound$Table" "way" "I"]
noncomputable def wsX11_write_r4 : List Cond := [Cond.methodLink RX1 46 yX1_pickBySums, Cond.instanceMethod yX1_pickBySums, Cond.selects RX1 yX1_pickBySums yX1_pickBySums, Cond.code yX1_pickBySums cX1_pickBySums 7 none, Cond.fieldLink RX1 59 "SeatsRound$Table" "members" "I", Cond.fieldLink RX1 34 "SeatsRound$Choice" "sums" "[I", Cond.methodLink RX1 85 yX8_sumOf, Cond.instanceMethod yX8_sumOf, Cond.selects RX8 yX8_sumOf yX8_sumOf, Cond.initialized RX8, Cond.code yX8_sumOf cX8_sumOf 3 (some .int), Cond.constant RX8 86 (104729), Cond.fieldLink RX8 15 "SeatsRound$Table" "turn" "I", Cond.fieldLink RX8 37 "SeatsRound$Table" "weight" "[I", Cond.static yX11_strewn, Cond.code yX11_strewn cX11_strewn 1 (some .int), Cond.constant RX11 423 (1103515245), Cond.methodLink RX1 50 yX1_pickByJumps, Cond.instanceMethod yX1_pickByJumps, Cond.selects RX1 yX1_pickByJumps yX1_pickByJumps, Cond.code yX1_pickByJumps cX1_pickByJumps 4 none, Cond.methodLink RX1 82 yX1_pickFirstFrom, Cond.instanceMethod yX1_pickFirstFrom, Cond.selects RX1 yX1_pickFirstFrom yX1_pickFirstFrom]
noncomputable def wsX11_write_r5 : List Cond := [Cond.code yX1_pickFirstFrom cX1_pickFirstFrom 5 none, Cond.fieldLink RX1 56 "SeatsRound$Table" "seats" "I", Cond.fieldLink RX1 62 "SeatsRound$Table" "ahead" "[S", Cond.fieldLink RX1 66 "SeatsRound$Table" "owner" "[B", Cond.methodLink RX1 70 yX1_isPicked, Cond.instanceMethod yX1_isPicked, Cond.selects RX1 yX1_isPicked yX1_isPicked, Cond.code yX1_isPicked cX1_isPicked 2 (some .boolean), Cond.methodLink RX1 74 yX1_takePick, Cond.instanceMethod yX1_takePick, Cond.selects RX1 yX1_takePick yX1_takePick, Cond.code yX1_takePick cX1_takePick 2 none, Cond.static yX11_placeBehind, Cond.code yX11_placeBehind cX11_placeBehind 1 (some .int), Cond.methodLink RX1 53 yX1_pickRound, Cond.instanceMethod yX1_pickRound, Cond.selects RX1 yX1_pickRound yX1_pickRound, Cond.code yX1_pickRound cX1_pickRound 5 none, Cond.methodLink RX1 108 yX1_takeChosen, Cond.instanceMethod yX1_takeChosen, Cond.selects RX1 yX1_takeChosen yX1_takeChosen, Cond.code yX1_takeChosen cX1_takeChosen 2 none, Cond.fieldLink RX1 15 "SeatsRound$Choice" "chosen" "[I", Cond.methodLink RX1 111 yX1_isChosen]
noncomputable def wsX11_write_r6 : List Cond := [Cond.instanceMethod yX1_isChosen, Cond.selects RX1 yX1_isChosen yX1_isChosen, Cond.code yX1_isChosen cX1_isChosen 2 (some .boolean), Cond.methodLink RX6 77 yX6_reaches, Cond.instanceMethod yX6_reaches, Cond.selects RX6 yX6_reaches yX6_reaches, Cond.code yX6_reaches cX6_reaches 3 (some .boolean), Cond.fieldLink RX6 42 "SeatsRound$Parcels" "keepers" "LSeatsRound$Keepers;", Cond.fieldLink RX6 81 "SeatsRound$Keepers" "fallen" "[Z", Cond.fieldLink RX6 87 "SeatsRound$Keepers" "kind" "[I", Cond.methodLink RX6 90 yX6_isKeptFor, Cond.instanceMethod yX6_isKeptFor, Cond.selects RX6 yX6_isKeptFor yX6_isKeptFor, Cond.code yX6_isKeptFor cX6_isKeptFor 5 (some .boolean), Cond.fieldLink RX6 107 "SeatsRound$Choice" "pickCount" "I", Cond.fieldLink RX6 110 "SeatsRound$Choice" "picks" "[I", Cond.fieldLink RX6 16 "SeatsRound$Parcels" "kept" "[[I", Cond.fieldLink RX6 19 "SeatsRound$Parcels" "keptFor" "[[I", Cond.methodLink RX6 113 yX1_isChosen, Cond.methodLink RX6 117 yX2_isUp, Cond.methodLink RX6 93 yX6_receives, Cond.instanceMethod yX6_receives, Cond.selects RX6 yX6_receives yX6_receives, Cond.code yX6_receives cX6_receives 4 (some .boolean)]
noncomputable def wsX11_write_r7 : List Cond := [Cond.methodLink RX6 97 yX6_hasRoom, Cond.instanceMethod yX6_hasRoom, Cond.selects RX6 yX6_hasRoom yX6_hasRoom, Cond.code yX6_hasRoom cX6_hasRoom 3 (some .boolean), Cond.fieldLink RX6 11 "SeatsRound$Parcels" "version" "[[I", Cond.methodLink RX6 103 yX6_copiesOn, Cond.instanceMethod yX6_copiesOn, Cond.selects RX6 yX6_copiesOn yX6_copiesOn, Cond.code yX6_copiesOn cX6_copiesOn 2 (some .int), Cond.methodLink RX6 141 yX6_filled, Cond.static yX6_filled, Cond.code yX6_filled cX6_filled 6 (some .int), Cond.methodLink RX6 100 yX6_takesGreater, Cond.instanceMethod yX6_takesGreater, Cond.selects RX6 yX6_takesGreater yX6_takesGreater, Cond.code yX6_takesGreater cX6_takesGreater 4 (some .boolean)]
noncomputable def wsX11_write : List Cond := Cond.code yX11_write cX11_write 4 (some .int) :: ((wsX11_write_r1 ++ (wsX11_write_r2 ++ (wsX11_write_r3 ++ (wsX11_write_r4 ++ (wsX11_write_r5 ++ (wsX11_write_r6 ++ wsX11_write_r7)))))) ++ wsX110 ++ wsX20 ++ wsX40 ++ wsX60 ++ wsX80 ++ wsX10)
set_option maxRecDepth 20000 in
theorem gw_wsX11_write : wsX11_write.all goodWord = true := by decide +kernel
noncomputable def wsX11_read_r1 : List Cond := [Cond.fieldLink RX11 26 "SeatsRound" "keepers" "LSeatsRound$Keepers;", Cond.fieldLink RX11 19 "SeatsRound" "nameList" "LSeatsRound$NameList;", Cond.fieldLink RX11 160 "SeatsRound$Keepers" "table" "[I", Cond.fieldLink RX11 66 "SeatsRound" "parcels" "LSeatsRound$Parcels;", Cond.methodLink RX11 137 yX2_has, Cond.instanceMethod yX2_has, Cond.selects RX2 yX2_has yX2_has, Cond.initialized RX2, Cond.code yX2_has cX2_has 2 (some .boolean), Cond.fieldLink RX2 28 "SeatsRound$Keepers" "count" "I", Cond.methodLink RX11 123 yX4_has, Cond.instanceMethod yX4_has, Cond.selects RX4 yX4_has yX4_has, Cond.initialized RX4, Cond.code yX4_has cX4_has 2 (some .boolean), Cond.fieldLink RX4 24 "SeatsRound$NameList" "count" "I", Cond.methodLink RX11 192 yX11_tableAt, Cond.instanceMethod yX11_tableAt, Cond.selects RX11 yX11_tableAt yX11_tableAt, Cond.initialized RX11, Cond.code yX11_tableAt cX11_tableAt 2 (some (.object "SeatsRound$Table")), Cond.fieldLink RX11 52 "SeatsRound" "tableCount" "I", Cond.fieldLink RX11 48 "SeatsRound" "tables" "[LSeatsRound$Table;", Cond.methodLink RX11 267 yX2_isUp]
noncomputable def wsX11_read_r2 : List Cond := [Cond.instanceMethod yX2_isUp, Cond.selects RX2 yX2_isUp yX2_isUp, Cond.code yX2_isUp cX2_isUp 2 (some .boolean), Cond.fieldLink RX2 24 "SeatsRound$Keepers" "fallen" "[Z", Cond.fieldLink RX2 9 "SeatsRound$Keepers" "kind" "[I", Cond.methodLink RX11 274 yX6_greatestFor, Cond.instanceMethod yX6_greatestFor, Cond.selects RX6 yX6_greatestFor yX6_greatestFor, Cond.initialized RX6, Cond.code yX6_greatestFor cX6_greatestFor 6 (some .int), Cond.fieldLink RX6 50 "SeatsRound$Parcels" "choice" "LSeatsRound$Choice;", Cond.fieldLink RX6 46 "SeatsRound$Parcels" "nameList" "LSeatsRound$NameList;", Cond.fieldLink RX6 54 "SeatsRound$Table" "turn" "I", Cond.fieldLink RX6 71 "SeatsRound$Choice" "chosenCount" "I", Cond.fieldLink RX6 74 "SeatsRound$Choice" "chosen" "[I", Cond.fieldLink RX6 42 "SeatsRound$Parcels" "keepers" "LSeatsRound$Keepers;", Cond.fieldLink RX6 11 "SeatsRound$Parcels" "version" "[[I", Cond.methodLink RX6 130 Lib.Math.max.name, Cond.static Lib.Math.max.name, Cond.initialized "java/lang/Math", Cond.code Lib.Math.max.name Lib.Math.max.code 2 (some .int), Cond.methodLink RX6 59 yX4_placeOf, Cond.instanceMethod yX4_placeOf, Cond.selects RX4 yX4_placeOf yX4_placeOf]
noncomputable def wsX11_read_r3 : List Cond := [Cond.code yX4_placeOf cX4_placeOf 5 (some .int), Cond.fieldLink RX4 16 "SeatsRound$NameList" "size" "[I", Cond.fieldLink RX4 11 "SeatsRound$NameList" "bytes" "[[B", Cond.constant RX4 38 (16777619), Cond.methodLink RX6 65 yX1_choose, Cond.instanceMethod yX1_choose, Cond.selects RX1 yX1_choose yX1_choose, Cond.initialized RX1, Cond.code yX1_choose cX1_choose 4 none, Cond.fieldLink RX1 22 "SeatsRound$Choice" "chosenCount" "I", Cond.fieldLink RX1 25 "SeatsRound$Choice" "chosenBits" "I", Cond.fieldLink RX1 28 "SeatsRound$Choice" "streetBits" "I", Cond.fieldLink RX1 18 "SeatsRound$Choice" "pickCount" "I", Cond.fieldLink RX1 92 "SeatsRound$Table" "copies" "I", Cond.fieldLink RX1 95 "SeatsRound$Table" "streets" "I", Cond.methodLink RX1 98 Lib.Math.min.name, Cond.static Lib.Math.min.name, Cond.code Lib.Math.min.name Lib.Math.min.code 2 (some .int), Cond.fieldLink RX1 37 "SeatsRound$Choice" "keepers" "LSeatsRound$Keepers;", Cond.fieldLink RX1 103 "SeatsRound$Keepers" "street" "[I", Cond.fieldLink RX1 9 "SeatsRound$Choice" "picks" "[I", Cond.methodLink RX1 89 yX1_pick, Cond.instanceMethod yX1_pick, Cond.selects RX1 yX1_pick yX1_pick]
noncomputable def wsX11_read_r4 : List Cond := [Cond.code yX1_pick cX1_pick 3 none, Cond.fieldLink RX1 31 "SeatsRound$Choice" "pickBits" "I", Cond.fieldLink RX1 41 "SeatsRound$Table" "way" "I", Cond.methodLink RX1 46 yX1_pickBySums, Cond.instanceMethod yX1_pickBySums, Cond.selects RX1 yX1_pickBySums yX1_pickBySums, Cond.code yX1_pickBySums cX1_pickBySums 7 none, Cond.fieldLink RX1 59 "SeatsRound$Table" "members" "I", Cond.fieldLink RX1 34 "SeatsRound$Choice" "sums" "[I", Cond.methodLink RX1 85 yX8_sumOf, Cond.instanceMethod yX8_sumOf, Cond.selects RX8 yX8_sumOf yX8_sumOf, Cond.initialized RX8, Cond.code yX8_sumOf cX8_sumOf 3 (some .int), Cond.constant RX8 86 (104729), Cond.fieldLink RX8 15 "SeatsRound$Table" "turn" "I", Cond.fieldLink RX8 37 "SeatsRound$Table" "weight" "[I", Cond.static yX11_strewn, Cond.code yX11_strewn cX11_strewn 1 (some .int), Cond.constant RX11 423 (1103515245), Cond.methodLink RX1 50 yX1_pickByJumps, Cond.instanceMethod yX1_pickByJumps, Cond.selects RX1 yX1_pickByJumps yX1_pickByJumps, Cond.code yX1_pickByJumps cX1_pickByJumps 4 none]
noncomputable def wsX11_read_r5 : List Cond := [Cond.methodLink RX1 82 yX1_pickFirstFrom, Cond.instanceMethod yX1_pickFirstFrom, Cond.selects RX1 yX1_pickFirstFrom yX1_pickFirstFrom, Cond.code yX1_pickFirstFrom cX1_pickFirstFrom 5 none, Cond.fieldLink RX1 56 "SeatsRound$Table" "seats" "I", Cond.fieldLink RX1 62 "SeatsRound$Table" "ahead" "[S", Cond.fieldLink RX1 66 "SeatsRound$Table" "owner" "[B", Cond.methodLink RX1 70 yX1_isPicked, Cond.instanceMethod yX1_isPicked, Cond.selects RX1 yX1_isPicked yX1_isPicked, Cond.code yX1_isPicked cX1_isPicked 2 (some .boolean), Cond.methodLink RX1 74 yX1_takePick, Cond.instanceMethod yX1_takePick, Cond.selects RX1 yX1_takePick yX1_takePick, Cond.code yX1_takePick cX1_takePick 2 none, Cond.static yX11_placeBehind, Cond.code yX11_placeBehind cX11_placeBehind 1 (some .int), Cond.methodLink RX1 53 yX1_pickRound, Cond.instanceMethod yX1_pickRound, Cond.selects RX1 yX1_pickRound yX1_pickRound, Cond.code yX1_pickRound cX1_pickRound 5 none, Cond.methodLink RX1 108 yX1_takeChosen, Cond.instanceMethod yX1_takeChosen, Cond.selects RX1 yX1_takeChosen yX1_takeChosen]
noncomputable def wsX11_read_r6 : List Cond := [Cond.code yX1_takeChosen cX1_takeChosen 2 none, Cond.fieldLink RX1 15 "SeatsRound$Choice" "chosen" "[I", Cond.methodLink RX1 111 yX1_isChosen, Cond.instanceMethod yX1_isChosen, Cond.selects RX1 yX1_isChosen yX1_isChosen, Cond.code yX1_isChosen cX1_isChosen 2 (some .boolean), Cond.methodLink RX6 117 yX2_isUp]
noncomputable def wsX11_read : List Cond := Cond.code yX11_read cX11_read 4 (some .int) :: ((wsX11_read_r1 ++ (wsX11_read_r2 ++ (wsX11_read_r3 ++ (wsX11_read_r4 ++ (wsX11_read_r5 ++ wsX11_read_r6))))) ++ wsX110 ++ wsX20 ++ wsX40 ++ wsX60 ++ wsX80 ++ wsX10)
set_option maxRecDepth 20000 in
theorem gw_wsX11_read : wsX11_read.all goodWord = true := by decide +kernel
noncomputable def wsX11_onShelf : List Cond := Cond.code yX11_onShelf cX11_onShelf 4 (some .int) :: ([Cond.fieldLink RX11 26 "SeatsRound" "keepers" "LSeatsRound$Keepers;", Cond.fieldLink RX11 19 "SeatsRound" "nameList" "LSeatsRound$NameList;", Cond.fieldLink RX11 66 "SeatsRound" "parcels" "LSeatsRound$Parcels;", Cond.fieldLink RX11 277 "SeatsRound$Parcels" "version" "[[I", Cond.fieldLink RX11 281 "SeatsRound$Parcels" "kept" "[[I", Cond.fieldLink RX11 284 "SeatsRound$Parcels" "keptFor" "[[I", Cond.fieldLink RX11 287 "SeatsRound$Parcels" "pieces" "[[I", Cond.methodLink RX11 137 yX2_has, Cond.instanceMethod yX2_has, Cond.selects RX2 yX2_has yX2_has, Cond.initialized RX2, Cond.code yX2_has cX2_has 2 (some .boolean), Cond.fieldLink RX2 28 "SeatsRound$Keepers" "count" "I", Cond.methodLink RX11 123 yX4_has, Cond.instanceMethod yX4_has, Cond.selects RX4 yX4_has yX4_has, Cond.initialized RX4, Cond.code yX4_has cX4_has 2 (some .boolean), Cond.fieldLink RX4 24 "SeatsRound$NameList" "count" "I"] ++ wsX110 ++ wsX60 ++ wsX20 ++ wsX40)
set_option maxRecDepth 20000 in
theorem gw_wsX11_onShelf : wsX11_onShelf.all goodWord = true := by decide +kernel
noncomputable def wsX11_fall : List Cond := Cond.code yX11_fall cX11_fall 4 (some .int) :: ([Cond.fieldLink RX11 26 "SeatsRound" "keepers" "LSeatsRound$Keepers;", Cond.fieldLink RX11 169 "SeatsRound$Keepers" "fallen" "[Z", Cond.fieldLink RX11 66 "SeatsRound" "parcels" "LSeatsRound$Parcels;", Cond.methodLink RX11 137 yX2_has, Cond.instanceMethod yX2_has, Cond.selects RX2 yX2_has yX2_has, Cond.initialized RX2, Cond.code yX2_has cX2_has 2 (some .boolean), Cond.fieldLink RX2 28 "SeatsRound$Keepers" "count" "I", Cond.methodLink RX11 290 yX6_empty, Cond.instanceMethod yX6_empty, Cond.selects RX6 yX6_empty yX6_empty, Cond.initialized RX6, Cond.code yX6_empty cX6_empty 2 none, Cond.fieldLink RX6 11 "SeatsRound$Parcels" "version" "[[I", Cond.fieldLink RX6 16 "SeatsRound$Parcels" "kept" "[[I", Cond.methodLink RX6 124 yJ7_fill_53178, Cond.static yJ7_fill_53178, Cond.initialized RJ7, Cond.code yJ7_fill_53178 cJ7_fill_53178 4 none] ++ wsX110 ++ wsX20 ++ wsX60)
set_option maxRecDepth 20000 in
theorem gw_wsX11_fall : wsX11_fall.all goodWord = true := by decide +kernel
noncomputable def wsX11_half_r1 : List Cond := [Cond.fieldLink RX11 19 "SeatsRound" "nameList" "LSeatsRound$NameList;", Cond.fieldLink RX11 26 "SeatsRound" "keepers" "LSeatsRound$Keepers;", Cond.fieldLink RX11 66 "SeatsRound" "parcels" "LSeatsRound$Parcels;", Cond.fieldLink RX11 277 "SeatsRound$Parcels" "version" "[[I", Cond.methodLink RX11 123 yX4_has, Cond.instanceMethod yX4_has, Cond.selects RX4 yX4_has yX4_has, Cond.initialized RX4, Cond.code yX4_has cX4_has 2 (some .boolean), Cond.fieldLink RX4 24 "SeatsRound$NameList" "count" "I", Cond.methodLink RX11 137 yX2_has, Cond.instanceMethod yX2_has, Cond.selects RX2 yX2_has yX2_has, Cond.initialized RX2, Cond.code yX2_has cX2_has 2 (some .boolean), Cond.fieldLink RX2 28 "SeatsRound$Keepers" "count" "I", Cond.methodLink RX11 293 yX6_movePiece, Cond.instanceMethod yX6_movePiece, Cond.selects RX6 yX6_movePiece yX6_movePiece, Cond.initialized RX6, Cond.code yX6_movePiece cX6_movePiece 4 (some .int), Cond.fieldLink RX6 42 "SeatsRound$Parcels" "keepers" "LSeatsRound$Keepers;", Cond.fieldLink RX6 22 "SeatsRound$Parcels" "pieces" "[[I", Cond.fieldLink RX6 25 "SeatsRound$Parcels" "pieceTo" "[[I"]
noncomputable def wsX11_half_r2 : List Cond := [Cond.fieldLink RX6 11 "SeatsRound$Parcels" "version" "[[I", Cond.methodLink RX6 117 yX2_isUp, Cond.instanceMethod yX2_isUp, Cond.selects RX2 yX2_isUp yX2_isUp, Cond.code yX2_isUp cX2_isUp 2 (some .boolean), Cond.fieldLink RX2 24 "SeatsRound$Keepers" "fallen" "[Z", Cond.fieldLink RX2 9 "SeatsRound$Keepers" "kind" "[I", Cond.methodLink RX6 100 yX6_takesGreater, Cond.instanceMethod yX6_takesGreater, Cond.selects RX6 yX6_takesGreater yX6_takesGreater, Cond.code yX6_takesGreater cX6_takesGreater 4 (some .boolean)]
noncomputable def wsX11_half : List Cond := Cond.code yX11_half cX11_half 4 (some .int) :: ((wsX11_half_r1 ++ wsX11_half_r2) ++ wsX110 ++ wsX60 ++ wsX40 ++ wsX20)
set_option maxRecDepth 20000 in
theorem gw_wsX11_half : wsX11_half.all goodWord = true := by decide +kernel
noncomputable def wsX11_mend_r1 : List Cond := [Cond.fieldLink RX11 66 "SeatsRound" "parcels" "LSeatsRound$Parcels;", Cond.methodLink RX11 192 yX11_tableAt, Cond.instanceMethod yX11_tableAt, Cond.selects RX11 yX11_tableAt yX11_tableAt, Cond.initialized RX11, Cond.code yX11_tableAt cX11_tableAt 2 (some (.object "SeatsRound$Table")), Cond.fieldLink RX11 52 "SeatsRound" "tableCount" "I", Cond.fieldLink RX11 48 "SeatsRound" "tables" "[LSeatsRound$Table;", Cond.methodLink RX11 297 yX6_mendAll, Cond.instanceMethod yX6_mendAll, Cond.selects RX6 yX6_mendAll yX6_mendAll, Cond.initialized RX6, Cond.code yX6_mendAll cX6_mendAll 7 (some .int), Cond.fieldLink RX6 46 "SeatsRound$Parcels" "nameList" "LSeatsRound$NameList;", Cond.fieldLink RX6 123 "SeatsRound$NameList" "count" "I", Cond.fieldLink RX6 50 "SeatsRound$Parcels" "choice" "LSeatsRound$Choice;", Cond.fieldLink RX6 54 "SeatsRound$Table" "turn" "I", Cond.fieldLink RX6 71 "SeatsRound$Choice" "chosenCount" "I", Cond.fieldLink RX6 74 "SeatsRound$Choice" "chosen" "[I", Cond.fieldLink RX6 42 "SeatsRound$Parcels" "keepers" "LSeatsRound$Keepers;", Cond.methodLink RX6 135 yX6_greatestAnywhere, Cond.instanceMethod yX6_greatestAnywhere, Cond.selects RX6 yX6_greatestAnywhere yX6_greatestAnywhere, Cond.code yX6_greatestAnywhere cX6_greatestAnywhere 4 (some .int)]
noncomputable def wsX11_mend_r2 : List Cond := [Cond.fieldLink RX6 120 "SeatsRound$Keepers" "count" "I", Cond.fieldLink RX6 81 "SeatsRound$Keepers" "fallen" "[Z", Cond.fieldLink RX6 11 "SeatsRound$Parcels" "version" "[[I", Cond.methodLink RX6 130 Lib.Math.max.name, Cond.static Lib.Math.max.name, Cond.initialized "java/lang/Math", Cond.code Lib.Math.max.name Lib.Math.max.code 2 (some .int), Cond.methodLink RX6 59 yX4_placeOf, Cond.instanceMethod yX4_placeOf, Cond.selects RX4 yX4_placeOf yX4_placeOf, Cond.initialized RX4, Cond.code yX4_placeOf cX4_placeOf 5 (some .int), Cond.fieldLink RX4 16 "SeatsRound$NameList" "size" "[I", Cond.fieldLink RX4 11 "SeatsRound$NameList" "bytes" "[[B", Cond.constant RX4 38 (16777619), Cond.methodLink RX6 65 yX1_choose, Cond.instanceMethod yX1_choose, Cond.selects RX1 yX1_choose yX1_choose, Cond.initialized RX1, Cond.code yX1_choose cX1_choose 4 none, Cond.fieldLink RX1 22 "SeatsRound$Choice" "chosenCount" "I", Cond.fieldLink RX1 25 "SeatsRound$Choice" "chosenBits" "I", Cond.fieldLink RX1 28 "SeatsRound$Choice" "streetBits" "I", Cond.fieldLink RX1 18 "SeatsRound$Choice" "pickCount" "I"]
noncomputable def wsX11_mend_r3 : List Cond := [Cond.fieldLink RX1 92 "SeatsRound$Table" "copies" "I", Cond.fieldLink RX1 95 "SeatsRound$Table" "streets" "I", Cond.methodLink RX1 98 Lib.Math.min.name, Cond.static Lib.Math.min.name, Cond.code Lib.Math.min.name Lib.Math.min.code 2 (some .int), Cond.fieldLink RX1 37 "SeatsRound$Choice" "keepers" "LSeatsRound$Keepers;", Cond.fieldLink RX1 103 "SeatsRound$Keepers" "street" "[I", Cond.fieldLink RX1 9 "SeatsRound$Choice" "picks" "[I", Cond.methodLink RX1 89 yX1_pick, Cond.instanceMethod yX1_pick, Cond.selects RX1 yX1_pick yX1_pick, Cond.code yX1_pick cX1_pick 3 none, Cond.fieldLink RX1 31 "SeatsRound$Choice" "pickBits" "I", Cond.fieldLink RX1 41 "SeatsRound$Table" "way" "I", Cond.methodLink RX1 46 yX1_pickBySums, Cond.instanceMethod yX1_pickBySums, Cond.selects RX1 yX1_pickBySums yX1_pickBySums, Cond.code yX1_pickBySums cX1_pickBySums 7 none, Cond.fieldLink RX1 59 "SeatsRound$Table" "members" "I", Cond.fieldLink RX1 34 "SeatsRound$Choice" "sums" "[I", Cond.methodLink RX1 85 yX8_sumOf, Cond.instanceMethod yX8_sumOf, Cond.selects RX8 yX8_sumOf yX8_sumOf, Cond.initialized RX8]
noncomputable def wsX11_mend_r4 : List Cond := [Cond.code yX8_sumOf cX8_sumOf 3 (some .int), Cond.constant RX8 86 (104729), Cond.fieldLink RX8 15 "SeatsRound$Table" "turn" "I", Cond.fieldLink RX8 37 "SeatsRound$Table" "weight" "[I", Cond.static yX11_strewn, Cond.code yX11_strewn cX11_strewn 1 (some .int), Cond.constant RX11 423 (1103515245), Cond.methodLink RX1 50 yX1_pickByJumps, Cond.instanceMethod yX1_pickByJumps, Cond.selects RX1 yX1_pickByJumps yX1_pickByJumps, Cond.code yX1_pickByJumps cX1_pickByJumps 4 none, Cond.methodLink RX1 82 yX1_pickFirstFrom, Cond.instanceMethod yX1_pickFirstFrom, Cond.selects RX1 yX1_pickFirstFrom yX1_pickFirstFrom, Cond.code yX1_pickFirstFrom cX1_pickFirstFrom 5 none, Cond.fieldLink RX1 56 "SeatsRound$Table" "seats" "I", Cond.fieldLink RX1 62 "SeatsRound$Table" "ahead" "[S", Cond.fieldLink RX1 66 "SeatsRound$Table" "owner" "[B", Cond.methodLink RX1 70 yX1_isPicked, Cond.instanceMethod yX1_isPicked, Cond.selects RX1 yX1_isPicked yX1_isPicked, Cond.code yX1_isPicked cX1_isPicked 2 (some .boolean), Cond.methodLink RX1 74 yX1_takePick, Cond.instanceMethod yX1_takePick]
noncomputable def wsX11_mend_r5 : List Cond := [Cond.selects RX1 yX1_takePick yX1_takePick, Cond.code yX1_takePick cX1_takePick 2 none, Cond.static yX11_placeBehind, Cond.code yX11_placeBehind cX11_placeBehind 1 (some .int), Cond.methodLink RX1 53 yX1_pickRound, Cond.instanceMethod yX1_pickRound, Cond.selects RX1 yX1_pickRound yX1_pickRound, Cond.code yX1_pickRound cX1_pickRound 5 none, Cond.methodLink RX1 108 yX1_takeChosen, Cond.instanceMethod yX1_takeChosen, Cond.selects RX1 yX1_takeChosen yX1_takeChosen, Cond.code yX1_takeChosen cX1_takeChosen 2 none, Cond.fieldLink RX1 15 "SeatsRound$Choice" "chosen" "[I", Cond.methodLink RX1 111 yX1_isChosen, Cond.instanceMethod yX1_isChosen, Cond.selects RX1 yX1_isChosen yX1_isChosen, Cond.code yX1_isChosen cX1_isChosen 2 (some .boolean), Cond.methodLink RX6 117 yX2_isUp, Cond.instanceMethod yX2_isUp, Cond.selects RX2 yX2_isUp yX2_isUp, Cond.initialized RX2, Cond.code yX2_isUp cX2_isUp 2 (some .boolean), Cond.fieldLink RX2 24 "SeatsRound$Keepers" "fallen" "[Z", Cond.fieldLink RX2 9 "SeatsRound$Keepers" "kind" "[I"]
noncomputable def wsX11_mend_r6 : List Cond := [Cond.methodLink RX6 93 yX6_receives, Cond.instanceMethod yX6_receives, Cond.selects RX6 yX6_receives yX6_receives, Cond.code yX6_receives cX6_receives 4 (some .boolean), Cond.methodLink RX6 97 yX6_hasRoom, Cond.instanceMethod yX6_hasRoom, Cond.selects RX6 yX6_hasRoom yX6_hasRoom, Cond.code yX6_hasRoom cX6_hasRoom 3 (some .boolean), Cond.fieldLink RX6 87 "SeatsRound$Keepers" "kind" "[I", Cond.methodLink RX6 103 yX6_copiesOn, Cond.instanceMethod yX6_copiesOn, Cond.selects RX6 yX6_copiesOn yX6_copiesOn, Cond.code yX6_copiesOn cX6_copiesOn 2 (some .int), Cond.methodLink RX6 141 yX6_filled, Cond.static yX6_filled, Cond.code yX6_filled cX6_filled 6 (some .int), Cond.methodLink RX6 100 yX6_takesGreater, Cond.instanceMethod yX6_takesGreater, Cond.selects RX6 yX6_takesGreater yX6_takesGreater, Cond.code yX6_takesGreater cX6_takesGreater 4 (some .boolean)]
noncomputable def wsX11_mend : List Cond := Cond.code yX11_mend cX11_mend 3 (some .int) :: ((wsX11_mend_r1 ++ (wsX11_mend_r2 ++ (wsX11_mend_r3 ++ (wsX11_mend_r4 ++ (wsX11_mend_r5 ++ wsX11_mend_r6))))) ++ wsX110 ++ wsX60 ++ wsX40 ++ wsX80 ++ wsX10 ++ wsX20)
set_option maxRecDepth 20000 in
theorem gw_wsX11_mend : wsX11_mend.all goodWord = true := by decide +kernel
noncomputable def wsX11_trees_r1 : List Cond := [Cond.fieldLink RX11 26 "SeatsRound" "keepers" "LSeatsRound$Keepers;", Cond.fieldLink RX11 66 "SeatsRound" "parcels" "LSeatsRound$Parcels;", Cond.methodLink RX11 137 yX2_has, Cond.instanceMethod yX2_has, Cond.selects RX2 yX2_has yX2_has, Cond.initialized RX2, Cond.code yX2_has cX2_has 2 (some .boolean), Cond.fieldLink RX2 28 "SeatsRound$Keepers" "count" "I", Cond.methodLink RX11 300 yX6_compare, Cond.instanceMethod yX6_compare, Cond.selects RX6 yX6_compare yX6_compare, Cond.initialized RX6, Cond.code yX6_compare cX6_compare 3 none, Cond.fieldLink RX6 32 "SeatsRound$Parcels" "oneTree" "[I", Cond.fieldLink RX6 35 "SeatsRound$Parcels" "otherTree" "[I", Cond.methodLink RX6 138 yX6_grow, Cond.instanceMethod yX6_grow, Cond.selects RX6 yX6_grow yX6_grow, Cond.code yX6_grow cX6_grow 4 none, Cond.fieldLink RX6 46 "SeatsRound$Parcels" "nameList" "LSeatsRound$NameList;", Cond.fieldLink RX6 123 "SeatsRound$NameList" "count" "I", Cond.fieldLink RX6 11 "SeatsRound$Parcels" "version" "[[I", Cond.methodLink RX6 124 yJ7_fill_53178, Cond.static yJ7_fill_53178]
noncomputable def wsX11_trees_r2 : List Cond := [Cond.initialized RJ7, Cond.code yJ7_fill_53178 cJ7_fill_53178 4 none, Cond.methodLink RX11 303 yX6_wordsAsked, Cond.instanceMethod yX6_wordsAsked, Cond.selects RX6 yX6_wordsAsked yX6_wordsAsked, Cond.code yX6_wordsAsked cX6_wordsAsked 4 (some .int), Cond.methodLink RX11 306 yX6_unlikeLeaves, Cond.instanceMethod yX6_unlikeLeaves, Cond.selects RX6 yX6_unlikeLeaves yX6_unlikeLeaves, Cond.code yX6_unlikeLeaves cX6_unlikeLeaves 3 (some .int)]
noncomputable def wsX11_trees : List Cond := Cond.code yX11_trees cX11_trees 4 (some .int) :: ((wsX11_trees_r1 ++ wsX11_trees_r2) ++ wsX110 ++ wsX20 ++ wsX60 ++ wsX40)
set_option maxRecDepth 20000 in
theorem gw_wsX11_trees : wsX11_trees.all goodWord = true := by decide +kernel
noncomputable def wsX11_noon : List Cond := Cond.code yX11_noon cX11_noon 7 (some .int) :: ([Cond.fieldLink RX11 196 "SeatsRound$Table" "members" "I", Cond.methodLink RX11 192 yX11_tableAt, Cond.instanceMethod yX11_tableAt, Cond.selects RX11 yX11_tableAt yX11_tableAt, Cond.initialized RX11, Cond.code yX11_tableAt cX11_tableAt 2 (some (.object "SeatsRound$Table")), Cond.fieldLink RX11 52 "SeatsRound" "tableCount" "I", Cond.fieldLink RX11 48 "SeatsRound" "tables" "[LSeatsRound$Table;", Cond.methodLink RX11 246 yJ6_bitCount_0f7a4, Cond.static yJ6_bitCount_0f7a4, Cond.initialized RJ6, Cond.code yJ6_bitCount_0f7a4 cJ6_bitCount_0f7a4 1 (some .int), Cond.constant RJ6 265 (1431655765), Cond.constant RJ6 266 (858993459), Cond.constant RJ6 267 (252645135), Cond.methodLink RX11 309 yX11_upward, Cond.static yX11_upward, Cond.code yX11_upward cX11_upward 2 (some .int)] ++ wsX80 ++ wsX110)
set_option maxRecDepth 20000 in
theorem gw_wsX11_noon : wsX11_noon.all goodWord = true := by decide +kernel
noncomputable def wsX11_lies : List Cond := Cond.code yX11_lies cX11_lies 7 (some .int) :: ([Cond.fieldLink RX11 26 "SeatsRound" "keepers" "LSeatsRound$Keepers;", Cond.fieldLink RX11 149 "SeatsRound$Keepers" "strength" "[I", Cond.methodLink RX11 312 Lib.Math.max.name, Cond.static Lib.Math.max.name, Cond.initialized "java/lang/Math", Cond.code Lib.Math.max.name Lib.Math.max.code 2 (some .int), Cond.methodLink RX11 137 yX2_has, Cond.instanceMethod yX2_has, Cond.selects RX2 yX2_has yX2_has, Cond.initialized RX2, Cond.code yX2_has cX2_has 2 (some .boolean), Cond.fieldLink RX2 28 "SeatsRound$Keepers" "count" "I", Cond.methodLink RX11 309 yX11_upward, Cond.static yX11_upward, Cond.initialized RX11, Cond.code yX11_upward cX11_upward 2 (some .int)] ++ wsX110 ++ wsX20)
set_option maxRecDepth 20000 in
theorem gw_wsX11_lies : wsX11_lies.all goodWord = true := by decide +kernel
noncomputable def wsX11_comes : List Cond := Cond.code yX11_comes cX11_comes 2 (some .int) :: ([Cond.fieldLink RX11 26 "SeatsRound" "keepers" "LSeatsRound$Keepers;", Cond.fieldLink RX11 75 "SeatsRound" "orders" "LSeatsRound$Orders;", Cond.fieldLink RX11 320 "SeatsRound$Orders" "toldCount" "I", Cond.fieldLink RX11 323 "SeatsRound$Orders" "told" "[I", Cond.methodLink RX11 137 yX2_has, Cond.instanceMethod yX2_has, Cond.selects RX2 yX2_has yX2_has, Cond.initialized RX2, Cond.code yX2_has cX2_has 2 (some .boolean), Cond.fieldLink RX2 28 "SeatsRound$Keepers" "count" "I", Cond.methodLink RX11 317 yX5_isTold, Cond.instanceMethod yX5_isTold, Cond.selects RX5 yX5_isTold yX5_isTold, Cond.initialized RX5, Cond.code yX5_isTold cX5_isTold 3 (some .boolean), Cond.fieldLink RX5 15 "SeatsRound$Orders" "toldCount" "I", Cond.fieldLink RX5 9 "SeatsRound$Orders" "told" "[I"] ++ wsX110 ++ wsX50 ++ wsX20)
set_option maxRecDepth 20000 in
theorem gw_wsX11_comes : wsX11_comes.all goodWord = true := by decide +kernel
noncomputable def wsX11_order_r1 : List Cond := [Cond.fieldLink RX11 75 "SeatsRound" "orders" "LSeatsRound$Orders;", Cond.fieldLink RX11 320 "SeatsRound$Orders" "toldCount" "I", Cond.fieldLink RX11 57 "SeatsRound" "draft" "LSeatsRound$Table;", Cond.methodLink RX11 192 yX11_tableAt, Cond.instanceMethod yX11_tableAt, Cond.selects RX11 yX11_tableAt yX11_tableAt, Cond.initialized RX11, Cond.code yX11_tableAt cX11_tableAt 2 (some (.object "SeatsRound$Table")), Cond.fieldLink RX11 52 "SeatsRound" "tableCount" "I", Cond.fieldLink RX11 48 "SeatsRound" "tables" "[LSeatsRound$Table;", Cond.methodLink RX11 326 yX5_leastFrom, Cond.instanceMethod yX5_leastFrom, Cond.selects RX5 yX5_leastFrom yX5_leastFrom, Cond.initialized RX5, Cond.code yX5_leastFrom cX5_leastFrom 5 (some .int), Cond.fieldLink RX5 15 "SeatsRound$Orders" "toldCount" "I", Cond.fieldLink RX5 30 "SeatsRound$Orders" "least" "[I", Cond.methodLink RX5 49 yX5_seatSet, Cond.instanceMethod yX5_seatSet, Cond.selects RX5 yX5_seatSet yX5_seatSet, Cond.code yX5_seatSet cX5_seatSet 6 (some .boolean), Cond.fieldLink RX5 9 "SeatsRound$Orders" "told" "[I", Cond.fieldLink RX5 67 "SeatsRound$Table" "members" "I", Cond.fieldLink RX5 70 "SeatsRound$Table" "weight" "[I"]
noncomputable def wsX11_order_r2 : List Cond := [Cond.fieldLink RX5 33 "SeatsRound$Orders" "keepers" "LSeatsRound$Keepers;", Cond.fieldLink RX5 45 "SeatsRound$Orders" "law" "LSeatsRound$Law;", Cond.fieldLink RX5 84 "SeatsRound$Table" "turn" "I", Cond.fieldLink RX5 37 "SeatsRound$Orders" "nameList" "LSeatsRound$NameList;", Cond.fieldLink RX5 90 "SeatsRound$NameList" "count" "I", Cond.fieldLink RX5 41 "SeatsRound$Orders" "choice" "LSeatsRound$Choice;", Cond.fieldLink RX5 27 "SeatsRound$Orders" "holders" "[[I", Cond.fieldLink RX5 105 "SeatsRound$Choice" "chosenBits" "I", Cond.methodLink RX5 61 yX8_takeAll, Cond.instanceMethod yX8_takeAll, Cond.selects RX8 yX8_takeAll yX8_takeAll, Cond.initialized RX8, Cond.code yX8_takeAll cX8_takeAll 2 none, Cond.fieldLink RX8 9 "SeatsRound$Table" "members" "I", Cond.fieldLink RX8 37 "SeatsRound$Table" "weight" "[I", Cond.methodLink RX8 70 arraycopyName, Cond.native arraycopyName, Cond.static arraycopyName, Cond.initialized "java/lang/System", Cond.fieldLink RX8 44 "SeatsRound$Table" "law" "[B", Cond.fieldLink RX8 30 "SeatsRound$Table" "lawLength" "I", Cond.fieldLink RX8 18 "SeatsRound$Table" "copies" "I", Cond.fieldLink RX8 21 "SeatsRound$Table" "streets" "I", Cond.fieldLink RX8 24 "SeatsRound$Table" "way" "I"]
noncomputable def wsX11_order_r3 : List Cond := [Cond.methodLink RX8 76 yX8_takeLaw, Cond.instanceMethod yX8_takeLaw, Cond.selects RX8 yX8_takeLaw yX8_takeLaw, Cond.code yX8_takeLaw cX8_takeLaw 3 none, Cond.methodLink RX8 61 Lib.Math.min.name, Cond.static Lib.Math.min.name, Cond.initialized "java/lang/Math", Cond.code Lib.Math.min.name Lib.Math.min.code 2 (some .int), Cond.methodLink RX8 67 Lib.Math.max.name, Cond.static Lib.Math.max.name, Cond.code Lib.Math.max.name Lib.Math.max.code 2 (some .int), Cond.methodLink RX5 73 yX2_counting, Cond.instanceMethod yX2_counting, Cond.selects RX2 yX2_counting yX2_counting, Cond.initialized RX2, Cond.code yX2_counting cX2_counting 3 (some .int), Cond.fieldLink RX2 9 "SeatsRound$Keepers" "kind" "[I", Cond.fieldLink RX2 18 "SeatsRound$Keepers" "strength" "[I", Cond.methodLink RX5 78 yX3_workOut, Cond.instanceMethod yX3_workOut, Cond.selects RX3 yX3_workOut yX3_workOut, Cond.initialized RX3, Cond.code yX3_workOut cX3_workOut 5 (some .int), Cond.fieldLink RX3 37 "SeatsRound$Table" "law" "[B"]
noncomputable def wsX11_order_r4 : List Cond := [Cond.fieldLink RX3 9 "SeatsRound$Law" "text" "[B", Cond.fieldLink RX3 42 "SeatsRound$Table" "lawLength" "I", Cond.fieldLink RX3 15 "SeatsRound$Law" "length" "I", Cond.fieldLink RX3 19 "SeatsRound$Law" "at" "I", Cond.fieldLink RX3 22 "SeatsRound$Law" "fault" "I", Cond.fieldLink RX3 49 "SeatsRound$Table" "copies" "I", Cond.fieldLink RX3 52 "SeatsRound$Table" "streets" "I", Cond.fieldLink RX3 55 "SeatsRound$Table" "way" "I", Cond.methodLink RX3 45 yX3_look, Cond.instanceMethod yX3_look, Cond.selects RX3 yX3_look yX3_look, Cond.code yX3_look cX3_look 5 none, Cond.fieldLink RX3 66 "SeatsRound$Table" "members" "I", Cond.fieldLink RX3 25 "SeatsRound$Law" "members" "I", Cond.fieldLink RX3 31 "SeatsRound$Law" "weights" "I", Cond.fieldLink RX3 34 "SeatsRound$Law" "greatest" "I", Cond.fieldLink RX3 73 "SeatsRound$Keepers" "street" "[I", Cond.fieldLink RX3 79 "SeatsRound$Table" "weight" "[I", Cond.methodLink RX3 82 Lib.Math.max.name, Cond.fieldLink RX3 28 "SeatsRound$Law" "streetsIn" "I", Cond.methodLink RX3 67 yJ6_bitCount_0f7a4, Cond.static yJ6_bitCount_0f7a4, Cond.initialized RJ6, Cond.code yJ6_bitCount_0f7a4 cJ6_bitCount_0f7a4 1 (some .int)]
noncomputable def wsX11_order_r5 : List Cond := [Cond.constant RJ6 265 (1431655765), Cond.constant RJ6 266 (858993459), Cond.constant RJ6 267 (252645135), Cond.methodLink RX3 58 yX3_readPart, Cond.instanceMethod yX3_readPart, Cond.selects RX3 yX3_readPart yX3_readPart, Cond.code yX3_readPart cX3_readPart 5 (some .int), Cond.methodLink RX3 62 yX3_sign, Cond.instanceMethod yX3_sign, Cond.selects RX3 yX3_sign yX3_sign, Cond.code yX3_sign cX3_sign 1 (some .int), Cond.methodLink RX3 88 yX3_readSum, Cond.instanceMethod yX3_readSum, Cond.selects RX3 yX3_readSum yX3_readSum, Cond.code yX3_readSum cX3_readSum 6 (some .int), Cond.methodLink RX3 100 yX3_readProduct, Cond.instanceMethod yX3_readProduct, Cond.selects RX3 yX3_readProduct yX3_readProduct, Cond.code yX3_readBracket cX3_readBracket 3 (some .int), Cond.code yX3_readOperand cX3_readOperand 4 (some .int), Cond.methodLink RX3 106 yX3_isDigit, Cond.static yX3_isDigit, Cond.code yX3_isDigit cX3_isDigit 1 (some .boolean), Cond.methodLink RX3 110 yX3_readNumber]
noncomputable def wsX11_order_r6 : List Cond := [Cond.instanceMethod yX3_readNumber, Cond.selects RX3 yX3_readNumber yX3_readNumber, Cond.code yX3_readNumber cX3_readNumber 3 (some .int), Cond.methodLink RX3 113 yX3_readBracket, Cond.instanceMethod yX3_readBracket, Cond.selects RX3 yX3_readBracket yX3_readBracket, Cond.code yX3_readProduct cX3_readProduct 6 (some .int), Cond.methodLink RX3 103 yX3_readOperand, Cond.instanceMethod yX3_readOperand, Cond.selects RX3 yX3_readOperand yX3_readOperand, Cond.methodLink RX3 91 yX3_heldWithin, Cond.static yX3_heldWithin, Cond.code yX3_heldWithin cX3_heldWithin 1 (some .int), Cond.methodLink RX3 97 Lib.Math.min.name, Cond.methodLink RX3 94 yX3_readWay, Cond.instanceMethod yX3_readWay, Cond.selects RX3 yX3_readWay yX3_readWay, Cond.code yX3_readWay cX3_readWay 2 (some .int), Cond.methodLink RX5 87 yX8_seatAll, Cond.instanceMethod yX8_seatAll, Cond.selects RX8 yX8_seatAll yX8_seatAll, Cond.code yX8_seatAll cX8_seatAll 4 none, Cond.fieldLink RX8 15 "SeatsRound$Table" "turn" "I", Cond.fieldLink RX8 27 "SeatsRound$Table" "seats" "I"]
noncomputable def wsX11_order_r7 : List Cond := [Cond.fieldLink RX8 33 "SeatsRound$Table" "oddsCounted" "Z", Cond.fieldLink RX8 48 "SeatsRound$Table" "owner" "[B", Cond.constant RX8 86 (104729), Cond.methodLink RX8 80 yJ7_fill_031fb, Cond.static yJ7_fill_031fb, Cond.initialized RJ7, Cond.code yJ7_fill_031fb cJ7_fill_031fb 4 none, Cond.static yX11_strewn, Cond.code yX11_strewn cX11_strewn 1 (some .int), Cond.constant RX11 423 (1103515245), Cond.methodLink RX8 90 yX8_freeFrom, Cond.instanceMethod yX8_freeFrom, Cond.selects RX8 yX8_freeFrom yX8_freeFrom, Cond.code yX8_freeFrom cX8_freeFrom 4 (some .int), Cond.static yX11_placeBehind, Cond.code yX11_placeBehind cX11_placeBehind 1 (some .int), Cond.methodLink RX8 93 yX8_linkPlaces, Cond.instanceMethod yX8_linkPlaces, Cond.selects RX8 yX8_linkPlaces yX8_linkPlaces, Cond.code yX8_linkPlaces cX8_linkPlaces 4 none, Cond.fieldLink RX8 51 "SeatsRound$Table" "ahead" "[S", Cond.methodLink RX5 95 yX4_placeOf, Cond.instanceMethod yX4_placeOf, Cond.selects RX4 yX4_placeOf yX4_placeOf]
noncomputable def wsX11_order_r8 : List Cond := [Cond.initialized RX4, Cond.code yX4_placeOf cX4_placeOf 5 (some .int), Cond.fieldLink RX4 16 "SeatsRound$NameList" "size" "[I", Cond.fieldLink RX4 11 "SeatsRound$NameList" "bytes" "[[B", Cond.constant RX4 38 (16777619), Cond.methodLink RX5 99 yX1_choose, Cond.instanceMethod yX1_choose, Cond.selects RX1 yX1_choose yX1_choose, Cond.initialized RX1, Cond.code yX1_choose cX1_choose 4 none, Cond.fieldLink RX1 22 "SeatsRound$Choice" "chosenCount" "I", Cond.fieldLink RX1 25 "SeatsRound$Choice" "chosenBits" "I", Cond.fieldLink RX1 28 "SeatsRound$Choice" "streetBits" "I", Cond.fieldLink RX1 18 "SeatsRound$Choice" "pickCount" "I", Cond.fieldLink RX1 92 "SeatsRound$Table" "copies" "I", Cond.fieldLink RX1 95 "SeatsRound$Table" "streets" "I", Cond.methodLink RX1 98 Lib.Math.min.name, Cond.fieldLink RX1 37 "SeatsRound$Choice" "keepers" "LSeatsRound$Keepers;", Cond.fieldLink RX1 103 "SeatsRound$Keepers" "street" "[I", Cond.fieldLink RX1 9 "SeatsRound$Choice" "picks" "[I", Cond.methodLink RX1 89 yX1_pick, Cond.instanceMethod yX1_pick, Cond.selects RX1 yX1_pick yX1_pick, Cond.code yX1_pick cX1_pick 3 none]
noncomputable def wsX11_order_r9 : List Cond := [Cond.fieldLink RX1 31 "SeatsRound$Choice" "pickBits" "I", Cond.fieldLink RX1 41 "SeatsRound$Table" "way" "I", Cond.methodLink RX1 46 yX1_pickBySums, Cond.instanceMethod yX1_pickBySums, Cond.selects RX1 yX1_pickBySums yX1_pickBySums, Cond.code yX1_pickBySums cX1_pickBySums 7 none, Cond.fieldLink RX1 59 "SeatsRound$Table" "members" "I", Cond.fieldLink RX1 34 "SeatsRound$Choice" "sums" "[I", Cond.methodLink RX1 85 yX8_sumOf, Cond.instanceMethod yX8_sumOf, Cond.selects RX8 yX8_sumOf yX8_sumOf, Cond.code yX8_sumOf cX8_sumOf 3 (some .int), Cond.methodLink RX1 50 yX1_pickByJumps, Cond.instanceMethod yX1_pickByJumps, Cond.selects RX1 yX1_pickByJumps yX1_pickByJumps, Cond.code yX1_pickByJumps cX1_pickByJumps 4 none, Cond.methodLink RX1 82 yX1_pickFirstFrom, Cond.instanceMethod yX1_pickFirstFrom, Cond.selects RX1 yX1_pickFirstFrom yX1_pickFirstFrom, Cond.code yX1_pickFirstFrom cX1_pickFirstFrom 5 none, Cond.fieldLink RX1 56 "SeatsRound$Table" "seats" "I", Cond.fieldLink RX1 62 "SeatsRound$Table" "ahead" "[S", Cond.fieldLink RX1 66 "SeatsRound$Table" "owner" "[B", Cond.methodLink RX1 70 yX1_isPicked]
noncomputable def wsX11_order_r10 : List Cond := [Cond.instanceMethod yX1_isPicked, Cond.selects RX1 yX1_isPicked yX1_isPicked, Cond.code yX1_isPicked cX1_isPicked 2 (some .boolean), Cond.methodLink RX1 74 yX1_takePick, Cond.instanceMethod yX1_takePick, Cond.selects RX1 yX1_takePick yX1_takePick, Cond.code yX1_takePick cX1_takePick 2 none, Cond.methodLink RX1 53 yX1_pickRound, Cond.instanceMethod yX1_pickRound, Cond.selects RX1 yX1_pickRound yX1_pickRound, Cond.code yX1_pickRound cX1_pickRound 5 none, Cond.methodLink RX1 108 yX1_takeChosen, Cond.instanceMethod yX1_takeChosen, Cond.selects RX1 yX1_takeChosen yX1_takeChosen, Cond.code yX1_takeChosen cX1_takeChosen 2 none, Cond.fieldLink RX1 15 "SeatsRound$Choice" "chosen" "[I", Cond.methodLink RX1 111 yX1_isChosen, Cond.instanceMethod yX1_isChosen, Cond.selects RX1 yX1_isChosen yX1_isChosen, Cond.code yX1_isChosen cX1_isChosen 2 (some .boolean), Cond.methodLink RX5 53 yX5_leastOnward, Cond.instanceMethod yX5_leastOnward, Cond.selects RX5 yX5_leastOnward yX5_leastOnward, Cond.code yX5_leastOnward cX5_leastOnward 5 (some .int)]
noncomputable def wsX11_order_r11 : List Cond := [Cond.methodLink RX5 108 yX5_sumOver, Cond.instanceMethod yX5_sumOver, Cond.selects RX5 yX5_sumOver yX5_sumOver, Cond.code yX5_sumOver cX5_sumOver 6 (some .int), Cond.methodLink RX5 111 yJ6_bitCount_0f7a4, Cond.methodLink RX5 57 yX5_walk, Cond.instanceMethod yX5_walk, Cond.selects RX5 yX5_walk yX5_walk, Cond.code yX5_walk cX5_walk 5 none, Cond.fieldLink RX5 22 "SeatsRound$Orders" "pathLength" "I", Cond.fieldLink RX5 19 "SeatsRound$Orders" "path" "[I", Cond.methodLink RX5 116 yX5_nextOf, Cond.instanceMethod yX5_nextOf, Cond.selects RX5 yX5_nextOf yX5_nextOf, Cond.code yX5_nextOf cX5_nextOf 3 (some .int)]
noncomputable def wsX11_order : List Cond := Cond.code yX11_order cX11_order 4 (some .int) :: ((wsX11_order_r1 ++ (wsX11_order_r2 ++ (wsX11_order_r3 ++ (wsX11_order_r4 ++ (wsX11_order_r5 ++ (wsX11_order_r6 ++ (wsX11_order_r7 ++ (wsX11_order_r8 ++ (wsX11_order_r9 ++ (wsX11_order_r10 ++ wsX11_order_r11)))))))))) ++ wsX110 ++ wsX50 ++ wsX80 ++ wsX40 ++ wsX10 ++ wsX20 ++ wsX30)
set_option maxRecDepth 20000 in
theorem gw_wsX11_order : wsX11_order.all goodWord = true := by decide +kernel
noncomputable def wsX11_ordered : List Cond := Cond.code yX11_ordered cX11_ordered 2 (some .int) :: ([Cond.fieldLink RX11 75 "SeatsRound" "orders" "LSeatsRound$Orders;", Cond.fieldLink RX11 330 "SeatsRound$Orders" "pathLength" "I", Cond.fieldLink RX11 333 "SeatsRound$Orders" "path" "[I"] ++ wsX110 ++ wsX50)
set_option maxRecDepth 20000 in
theorem gw_wsX11_ordered : wsX11_ordered.all goodWord = true := by decide +kernel
noncomputable def wsX11_turning : List Cond := Cond.code yX11_turning cX11_turning 2 (some .int) :: ([Cond.fieldLink RX11 84 "SeatsRound" "turnings" "LSeatsRound$Turnings;", Cond.fieldLink RX11 336 "SeatsRound$Turnings" "count" "I", Cond.fieldLink RX11 337 "SeatsRound$Turnings" "told" "[I"] ++ wsX110 ++ wsX100)
set_option maxRecDepth 20000 in
theorem gw_wsX11_turning : wsX11_turning.all goodWord = true := by decide +kernel
noncomputable def wsX11_harm_r1 : List Cond := [Cond.fieldLink RX11 84 "SeatsRound" "turnings" "LSeatsRound$Turnings;", Cond.fieldLink RX11 336 "SeatsRound$Turnings" "count" "I", Cond.fieldLink RX11 57 "SeatsRound" "draft" "LSeatsRound$Table;", Cond.methodLink RX11 192 yX11_tableAt, Cond.instanceMethod yX11_tableAt, Cond.selects RX11 yX11_tableAt yX11_tableAt, Cond.initialized RX11, Cond.code yX11_tableAt cX11_tableAt 2 (some (.object "SeatsRound$Table")), Cond.fieldLink RX11 52 "SeatsRound" "tableCount" "I", Cond.fieldLink RX11 48 "SeatsRound" "tables" "[LSeatsRound$Table;", Cond.methodLink RX11 338 yX10_leastHarm, Cond.instanceMethod yX10_leastHarm, Cond.selects RX10 yX10_leastHarm yX10_leastHarm, Cond.initialized RX10, Cond.code yX10_leastHarm cX10_leastHarm 6 (some .int), Cond.fieldLink RX10 15 "SeatsRound$Turnings" "count" "I", Cond.fieldLink RX10 9 "SeatsRound$Turnings" "told" "[I", Cond.fieldLink RX10 19 "SeatsRound$Turnings" "greatest" "I", Cond.methodLink RX10 29 yX8_takeAll, Cond.instanceMethod yX8_takeAll, Cond.selects RX8 yX8_takeAll yX8_takeAll, Cond.initialized RX8, Cond.code yX8_takeAll cX8_takeAll 2 none, Cond.fieldLink RX8 9 "SeatsRound$Table" "members" "I"]
noncomputable def wsX11_harm_r2 : List Cond := [Cond.fieldLink RX8 37 "SeatsRound$Table" "weight" "[I", Cond.methodLink RX8 70 arraycopyName, Cond.native arraycopyName, Cond.static arraycopyName, Cond.initialized "java/lang/System", Cond.fieldLink RX8 44 "SeatsRound$Table" "law" "[B", Cond.fieldLink RX8 30 "SeatsRound$Table" "lawLength" "I", Cond.fieldLink RX8 18 "SeatsRound$Table" "copies" "I", Cond.fieldLink RX8 21 "SeatsRound$Table" "streets" "I", Cond.fieldLink RX8 24 "SeatsRound$Table" "way" "I", Cond.methodLink RX8 76 yX8_takeLaw, Cond.instanceMethod yX8_takeLaw, Cond.selects RX8 yX8_takeLaw yX8_takeLaw, Cond.code yX8_takeLaw cX8_takeLaw 3 none, Cond.methodLink RX8 61 Lib.Math.min.name, Cond.static Lib.Math.min.name, Cond.initialized "java/lang/Math", Cond.code Lib.Math.min.name Lib.Math.min.code 2 (some .int), Cond.methodLink RX8 67 Lib.Math.max.name, Cond.static Lib.Math.max.name, Cond.code Lib.Math.max.name Lib.Math.max.code 2 (some .int), Cond.methodLink RX10 35 yX8_seatAll, Cond.instanceMethod yX8_seatAll, Cond.selects RX8 yX8_seatAll yX8_seatAll]
noncomputable def wsX11_harm_r3 : List Cond := [Cond.code yX8_seatAll cX8_seatAll 4 none, Cond.fieldLink RX8 15 "SeatsRound$Table" "turn" "I", Cond.fieldLink RX8 27 "SeatsRound$Table" "seats" "I", Cond.fieldLink RX8 33 "SeatsRound$Table" "oddsCounted" "Z", Cond.fieldLink RX8 48 "SeatsRound$Table" "owner" "[B", Cond.constant RX8 86 (104729), Cond.methodLink RX8 80 yJ7_fill_031fb, Cond.static yJ7_fill_031fb, Cond.initialized RJ7, Cond.code yJ7_fill_031fb cJ7_fill_031fb 4 none, Cond.static yX11_strewn, Cond.code yX11_strewn cX11_strewn 1 (some .int), Cond.constant RX11 423 (1103515245), Cond.methodLink RX8 90 yX8_freeFrom, Cond.instanceMethod yX8_freeFrom, Cond.selects RX8 yX8_freeFrom yX8_freeFrom, Cond.code yX8_freeFrom cX8_freeFrom 4 (some .int), Cond.static yX11_placeBehind, Cond.code yX11_placeBehind cX11_placeBehind 1 (some .int), Cond.methodLink RX8 93 yX8_linkPlaces, Cond.instanceMethod yX8_linkPlaces, Cond.selects RX8 yX8_linkPlaces yX8_linkPlaces, Cond.code yX8_linkPlaces cX8_linkPlaces 4 none, Cond.fieldLink RX8 51 "SeatsRound$Table" "ahead" "[S"]
noncomputable def wsX11_harm_r4 : List Cond := [Cond.methodLink RX10 39 yX10_greatestShare, Cond.instanceMethod yX10_greatestShare, Cond.selects RX10 yX10_greatestShare yX10_greatestShare, Cond.code yX10_greatestShare cX10_greatestShare 5 (some .int), Cond.fieldLink RX10 22 "SeatsRound$Turnings" "shares" "[I", Cond.fieldLink RX10 25 "SeatsRound$Turnings" "nameList" "LSeatsRound$NameList;", Cond.fieldLink RX10 49 "SeatsRound$NameList" "count" "I", Cond.fieldLink RX10 52 "SeatsRound$Table" "turn" "I", Cond.methodLink RX10 63 Lib.Math.max.name, Cond.methodLink RX10 43 yJ7_fill_53178, Cond.static yJ7_fill_53178, Cond.code yJ7_fill_53178 cJ7_fill_53178 4 none, Cond.methodLink RX10 55 yX4_placeOf, Cond.instanceMethod yX4_placeOf, Cond.selects RX4 yX4_placeOf yX4_placeOf, Cond.initialized RX4, Cond.code yX4_placeOf cX4_placeOf 5 (some .int), Cond.fieldLink RX4 16 "SeatsRound$NameList" "size" "[I", Cond.fieldLink RX4 11 "SeatsRound$NameList" "bytes" "[[B", Cond.constant RX4 38 (16777619), Cond.methodLink RX10 59 yX8_firstFor, Cond.instanceMethod yX8_firstFor, Cond.selects RX8 yX8_firstFor yX8_firstFor, Cond.code yX8_firstFor cX8_firstFor 6 (some .int)]
noncomputable def wsX11_harm_r5 : List Cond := [Cond.methodLink RX8 99 yX8_sumOf, Cond.instanceMethod yX8_sumOf, Cond.selects RX8 yX8_sumOf yX8_sumOf, Cond.code yX8_sumOf cX8_sumOf 3 (some .int)]
noncomputable def wsX11_harm : List Cond := Cond.code yX11_harm cX11_harm 3 (some .int) :: ((wsX11_harm_r1 ++ (wsX11_harm_r2 ++ (wsX11_harm_r3 ++ (wsX11_harm_r4 ++ wsX11_harm_r5)))) ++ wsX110 ++ wsX100 ++ wsX80 ++ wsX40)
set_option maxRecDepth 20000 in
theorem gw_wsX11_harm : wsX11_harm.all goodWord = true := by decide +kernel
noncomputable def wsX11_harmed : List Cond := Cond.code yX11_harmed cX11_harmed 1 (some .int) :: ([Cond.fieldLink RX11 84 "SeatsRound" "turnings" "LSeatsRound$Turnings;", Cond.fieldLink RX11 341 "SeatsRound$Turnings" "greatest" "I"] ++ wsX110 ++ wsX100)
set_option maxRecDepth 20000 in
theorem gw_wsX11_harmed : wsX11_harmed.all goodWord = true := by decide +kernel
noncomputable def wsX11_act_r1 : List Cond := [Cond.fieldLink RX11 91 "SeatsRound" "acts" "LSeatsRound$Acts;", Cond.fieldLink RX11 344 "SeatsRound$Acts" "ran" "I", Cond.fieldLink RX11 26 "SeatsRound" "keepers" "LSeatsRound$Keepers;", Cond.fieldLink RX11 149 "SeatsRound$Keepers" "strength" "[I", Cond.fieldLink RX11 141 "SeatsRound$Keepers" "kind" "[I", Cond.methodLink RX11 137 yX2_has, Cond.instanceMethod yX2_has, Cond.selects RX2 yX2_has yX2_has, Cond.initialized RX2, Cond.code yX2_has cX2_has 2 (some .boolean), Cond.fieldLink RX2 28 "SeatsRound$Keepers" "count" "I", Cond.methodLink RX11 347 yX0_run, Cond.instanceMethod yX0_run, Cond.selects RX0 yX0_run yX0_run, Cond.initialized RX0, Cond.code yX0_run cX0_run 6 (some .int), Cond.fieldLink RX0 22 "SeatsRound$Acts" "number" "I", Cond.fieldLink RX0 25 "SeatsRound$Acts" "strength" "I", Cond.fieldLink RX0 19 "SeatsRound$Acts" "own" "I", Cond.methodLink RX0 28 yX0_findsFrom, Cond.instanceMethod yX0_findsFrom, Cond.selects RX0 yX0_findsFrom yX0_findsFrom, Cond.code yX0_findsFrom cX0_findsFrom 3 (some .int), Cond.methodLink RX0 41 yX0_begin]
noncomputable def wsX11_act_r2 : List Cond := [Cond.instanceMethod yX0_begin, Cond.selects RX0 yX0_begin yX0_begin, Cond.code yX0_begin cX0_begin 2 none, Cond.fieldLink RX0 15 "SeatsRound$Acts" "ran" "I", Cond.fieldLink RX0 9 "SeatsRound$Acts" "bodies" "[I", Cond.methodLink RX0 32 yX0_keepsFrom, Cond.instanceMethod yX0_keepsFrom, Cond.selects RX0 yX0_keepsFrom yX0_keepsFrom, Cond.code yX0_keepsFrom cX0_keepsFrom 4 (some .int), Cond.methodLink RX0 35 yX0_movesFrom, Cond.instanceMethod yX0_movesFrom, Cond.selects RX0 yX0_movesFrom yX0_movesFrom, Cond.code yX0_movesFrom cX0_movesFrom 4 (some .int), Cond.methodLink RX0 38 yX0_tellsFrom, Cond.instanceMethod yX0_tellsFrom, Cond.selects RX0 yX0_tellsFrom yX0_tellsFrom, Cond.code yX0_tellsFrom cX0_tellsFrom 4 (some .int)]
noncomputable def wsX11_act : List Cond := Cond.code yX11_act cX11_act 4 (some .int) :: ((wsX11_act_r1 ++ wsX11_act_r2) ++ wsX110 ++ wsX00 ++ wsX20)
set_option maxRecDepth 20000 in
theorem gw_wsX11_act : wsX11_act.all goodWord = true := by decide +kernel
noncomputable def wsX11_trace : List Cond := Cond.code yX11_trace cX11_trace 2 (some .int) :: ([Cond.fieldLink RX11 91 "SeatsRound" "acts" "LSeatsRound$Acts;", Cond.fieldLink RX11 344 "SeatsRound$Acts" "ran" "I", Cond.fieldLink RX11 351 "SeatsRound$Acts" "bodies" "[I"] ++ wsX110 ++ wsX00)
set_option maxRecDepth 20000 in
theorem gw_wsX11_trace : wsX11_trace.all goodWord = true := by decide +kernel
noncomputable def wsX11_isShelf : List Cond := Cond.code yX11_isShelf cX11_isShelf 1 (some .boolean) :: ([])
set_option maxRecDepth 20000 in
theorem gw_wsX11_isShelf : wsX11_isShelf.all goodWord = true := by decide +kernel
noncomputable def wsX11_keep : List Cond := Cond.code yX11_keep cX11_keep 3 (some .int) :: ([Cond.fieldLink RX11 26 "SeatsRound" "keepers" "LSeatsRound$Keepers;", Cond.fieldLink RX11 98 "SeatsRound" "rows" "LSeatsRound$Rows;", Cond.methodLink RX11 354 yX11_isShelf, Cond.static yX11_isShelf, Cond.initialized RX11, Cond.code yX11_isShelf cX11_isShelf 1 (some .boolean), Cond.methodLink RX11 137 yX2_has, Cond.instanceMethod yX2_has, Cond.selects RX2 yX2_has yX2_has, Cond.initialized RX2, Cond.code yX2_has cX2_has 2 (some .boolean), Cond.fieldLink RX2 28 "SeatsRound$Keepers" "count" "I", Cond.methodLink RX11 357 yX7_holdKeeper, Cond.instanceMethod yX7_holdKeeper, Cond.selects RX7 yX7_holdKeeper yX7_holdKeeper, Cond.initialized RX7, Cond.code yX7_holdKeeper cX7_holdKeeper 3 none, Cond.fieldLink RX7 9 "SeatsRound$Rows" "keeper" "[I", Cond.fieldLink RX7 15 "SeatsRound$Rows" "sort" "[I", Cond.fieldLink RX7 18 "SeatsRound$Rows" "length" "[I"] ++ wsX110 ++ wsX20 ++ wsX70)
set_option maxRecDepth 20000 in
theorem gw_wsX11_keep : wsX11_keep.all goodWord = true := by decide +kernel
noncomputable def wsX11_row : List Cond := Cond.code yX11_row cX11_row 4 (some .int) :: ([Cond.fieldLink RX11 98 "SeatsRound" "rows" "LSeatsRound$Rows;", Cond.methodLink RX11 354 yX11_isShelf, Cond.static yX11_isShelf, Cond.initialized RX11, Cond.code yX11_isShelf cX11_isShelf 1 (some .boolean), Cond.methodLink RX11 360 yX7_holdRow, Cond.instanceMethod yX7_holdRow, Cond.selects RX7 yX7_holdRow yX7_holdRow, Cond.initialized RX7, Cond.code yX7_holdRow cX7_holdRow 4 none, Cond.fieldLink RX7 9 "SeatsRound$Rows" "keeper" "[I", Cond.fieldLink RX7 15 "SeatsRound$Rows" "sort" "[I", Cond.fieldLink RX7 18 "SeatsRound$Rows" "length" "[I", Cond.fieldLink RX7 23 "SeatsRound$Rows" "elements" "[[J", Cond.methodLink RX7 32 yJ7_fill_d0a16, Cond.static yJ7_fill_d0a16, Cond.initialized RJ7, Cond.code yJ7_fill_d0a16 cJ7_fill_d0a16 5 none] ++ wsX110 ++ wsX70)
set_option maxRecDepth 20000 in
theorem gw_wsX11_row : wsX11_row.all goodWord = true := by decide +kernel
noncomputable def wsX11_put_r1 : List Cond := [Cond.fieldLink RX11 98 "SeatsRound" "rows" "LSeatsRound$Rows;", Cond.fieldLink RX11 367 "SeatsRound$Rows" "elements" "[[J", Cond.fieldLink RX11 371 "SeatsRound$Rows" "sort" "[I", Cond.methodLink RX11 354 yX11_isShelf, Cond.static yX11_isShelf, Cond.initialized RX11, Cond.code yX11_isShelf cX11_isShelf 1 (some .boolean), Cond.methodLink RX11 364 yX7_refusalAt, Cond.instanceMethod yX7_refusalAt, Cond.selects RX7 yX7_refusalAt yX7_refusalAt, Cond.initialized RX7, Cond.code yX7_refusalAt cX7_refusalAt 3 (some .int), Cond.fieldLink RX7 18 "SeatsRound$Rows" "length" "[I", Cond.methodLink RX7 35 yX7_isEmpty, Cond.instanceMethod yX7_isEmpty, Cond.selects RX7 yX7_isEmpty yX7_isEmpty, Cond.code yX7_isEmpty cX7_isEmpty 2 (some .boolean), Cond.fieldLink RX7 15 "SeatsRound$Rows" "sort" "[I", Cond.fieldLink RX7 9 "SeatsRound$Rows" "keeper" "[I", Cond.methodLink RX7 39 yX7_isRow, Cond.instanceMethod yX7_isRow, Cond.selects RX7 yX7_isRow yX7_isRow, Cond.code yX7_isRow cX7_isRow 2 (some .boolean), Cond.methodLink RX11 374 yX7_lowest]
noncomputable def wsX11_put_r2 : List Cond := [Cond.static yX7_lowest, Cond.code yX7_lowest cX7_lowest 3 (some .long)]
noncomputable def wsX11_put : List Cond := Cond.code yX11_put cX11_put 6 (some .int) :: ((wsX11_put_r1 ++ wsX11_put_r2) ++ wsX110 ++ wsX70)
set_option maxRecDepth 20000 in
theorem gw_wsX11_put : wsX11_put.all goodWord = true := by decide +kernel
noncomputable def wsX11_element : List Cond := Cond.code yX11_element cX11_element 3 (some .long) :: ([Cond.fieldLink RX11 98 "SeatsRound" "rows" "LSeatsRound$Rows;", Cond.constantLong RX11 380 (-9223372036854775808), Cond.fieldLink RX11 367 "SeatsRound$Rows" "elements" "[[J", Cond.methodLink RX11 354 yX11_isShelf, Cond.static yX11_isShelf, Cond.initialized RX11, Cond.code yX11_isShelf cX11_isShelf 1 (some .boolean), Cond.methodLink RX11 364 yX7_refusalAt, Cond.instanceMethod yX7_refusalAt, Cond.selects RX7 yX7_refusalAt yX7_refusalAt, Cond.initialized RX7, Cond.code yX7_refusalAt cX7_refusalAt 3 (some .int), Cond.fieldLink RX7 18 "SeatsRound$Rows" "length" "[I", Cond.methodLink RX7 35 yX7_isEmpty, Cond.instanceMethod yX7_isEmpty, Cond.selects RX7 yX7_isEmpty yX7_isEmpty, Cond.code yX7_isEmpty cX7_isEmpty 2 (some .boolean), Cond.fieldLink RX7 15 "SeatsRound$Rows" "sort" "[I", Cond.fieldLink RX7 9 "SeatsRound$Rows" "keeper" "[I", Cond.methodLink RX7 39 yX7_isRow, Cond.instanceMethod yX7_isRow, Cond.selects RX7 yX7_isRow yX7_isRow, Cond.code yX7_isRow cX7_isRow 2 (some .boolean)] ++ wsX110 ++ wsX70)
set_option maxRecDepth 20000 in
theorem gw_wsX11_element : wsX11_element.all goodWord = true := by decide +kernel
noncomputable def wsX11_shift_r1 : List Cond := [Cond.fieldLink RX11 98 "SeatsRound" "rows" "LSeatsRound$Rows;", Cond.fieldLink RX11 371 "SeatsRound$Rows" "sort" "[I", Cond.fieldLink RX11 367 "SeatsRound$Rows" "elements" "[[J", Cond.methodLink RX11 392 arraycopyName, Cond.native arraycopyName, Cond.static arraycopyName, Cond.initialized "java/lang/System", Cond.methodLink RX11 354 yX11_isShelf, Cond.static yX11_isShelf, Cond.initialized RX11, Cond.code yX11_isShelf cX11_isShelf 1 (some .boolean), Cond.methodLink RX11 382 yX7_isEmpty, Cond.instanceMethod yX7_isEmpty, Cond.selects RX7 yX7_isEmpty yX7_isEmpty, Cond.initialized RX7, Cond.code yX7_isEmpty cX7_isEmpty 2 (some .boolean), Cond.fieldLink RX7 15 "SeatsRound$Rows" "sort" "[I", Cond.fieldLink RX7 9 "SeatsRound$Rows" "keeper" "[I", Cond.methodLink RX11 385 yX7_isRow, Cond.instanceMethod yX7_isRow, Cond.selects RX7 yX7_isRow yX7_isRow, Cond.code yX7_isRow cX7_isRow 2 (some .boolean), Cond.methodLink RX11 388 yX7_spans, Cond.instanceMethod yX7_spans]
noncomputable def wsX11_shift_r2 : List Cond := [Cond.selects RX7 yX7_spans yX7_spans, Cond.code yX7_spans cX7_spans 4 (some .boolean), Cond.fieldLink RX7 18 "SeatsRound$Rows" "length" "[I"]
noncomputable def wsX11_shift : List Cond := Cond.code yX11_shift cX11_shift 6 (some .int) :: ((wsX11_shift_r1 ++ wsX11_shift_r2) ++ wsX110 ++ wsX70)
set_option maxRecDepth 20000 in
theorem gw_wsX11_shift : wsX11_shift.all goodWord = true := by decide +kernel
noncomputable def wsX11_taken_r1 : List Cond := [Cond.fieldLink RX11 98 "SeatsRound" "rows" "LSeatsRound$Rows;", Cond.fieldLink RX11 398 "SeatsRound$Rows" "keeper" "[I", Cond.fieldLink RX11 26 "SeatsRound" "keepers" "LSeatsRound$Keepers;", Cond.fieldLink RX11 141 "SeatsRound$Keepers" "kind" "[I", Cond.methodLink RX11 354 yX11_isShelf, Cond.static yX11_isShelf, Cond.initialized RX11, Cond.code yX11_isShelf cX11_isShelf 1 (some .boolean), Cond.methodLink RX11 138 yX11_isKind, Cond.static yX11_isKind, Cond.code yX11_isKind cX11_isKind 1 (some .boolean), Cond.methodLink RX11 382 yX7_isEmpty, Cond.instanceMethod yX7_isEmpty, Cond.selects RX7 yX7_isEmpty yX7_isEmpty, Cond.initialized RX7, Cond.code yX7_isEmpty cX7_isEmpty 2 (some .boolean), Cond.fieldLink RX7 15 "SeatsRound$Rows" "sort" "[I", Cond.fieldLink RX7 9 "SeatsRound$Rows" "keeper" "[I", Cond.methodLink RX11 137 yX2_has, Cond.instanceMethod yX2_has, Cond.selects RX2 yX2_has yX2_has, Cond.initialized RX2, Cond.code yX2_has cX2_has 2 (some .boolean), Cond.fieldLink RX2 28 "SeatsRound$Keepers" "count" "I"]
noncomputable def wsX11_taken_r2 : List Cond := [Cond.methodLink RX11 401 yX11_isUnder, Cond.static yX11_isUnder, Cond.code yX11_isUnder cX11_isUnder 4 (some .boolean), Cond.fieldLink RX11 420 "SeatsRound" "KIND_ABOVE" "[I"]
noncomputable def wsX11_taken : List Cond := Cond.code yX11_taken cX11_taken 5 (some .int) :: ((wsX11_taken_r1 ++ wsX11_taken_r2) ++ wsX110 ++ wsX70 ++ wsX20)
set_option maxRecDepth 20000 in
theorem gw_wsX11_taken : wsX11_taken.all goodWord = true := by decide +kernel
noncomputable def wsX11_names_r1 : List Cond := [Cond.fieldLink RX11 98 "SeatsRound" "rows" "LSeatsRound$Rows;", Cond.fieldLink RX11 371 "SeatsRound$Rows" "sort" "[I", Cond.fieldLink RX11 19 "SeatsRound" "nameList" "LSeatsRound$NameList;", Cond.fieldLink RX11 367 "SeatsRound$Rows" "elements" "[[J", Cond.fieldLink RX11 405 "SeatsRound$Rows" "length" "[I", Cond.methodLink RX11 354 yX11_isShelf, Cond.static yX11_isShelf, Cond.initialized RX11, Cond.code yX11_isShelf cX11_isShelf 1 (some .boolean), Cond.methodLink RX11 382 yX7_isEmpty, Cond.instanceMethod yX7_isEmpty, Cond.selects RX7 yX7_isEmpty yX7_isEmpty, Cond.initialized RX7, Cond.code yX7_isEmpty cX7_isEmpty 2 (some .boolean), Cond.fieldLink RX7 15 "SeatsRound$Rows" "sort" "[I", Cond.fieldLink RX7 9 "SeatsRound$Rows" "keeper" "[I", Cond.methodLink RX11 385 yX7_isRow, Cond.instanceMethod yX7_isRow, Cond.selects RX7 yX7_isRow yX7_isRow, Cond.code yX7_isRow cX7_isRow 2 (some .boolean), Cond.methodLink RX11 407 yX4_addFrom, Cond.instanceMethod yX4_addFrom, Cond.selects RX4 yX4_addFrom yX4_addFrom, Cond.initialized RX4]
noncomputable def wsX11_names_r2 : List Cond := [Cond.code yX4_addFrom cX4_addFrom 12 (some .int), Cond.constantLong RX4 39 (6), Cond.fieldLink RX4 20 "SeatsRound$NameList" "read" "[B", Cond.methodLink RX4 41 yX4_find, Cond.instanceMethod yX4_find, Cond.selects RX4 yX4_find yX4_find, Cond.code yX4_find cX4_find 5 (some .int), Cond.fieldLink RX4 24 "SeatsRound$NameList" "count" "I", Cond.fieldLink RX4 16 "SeatsRound$NameList" "size" "[I", Cond.fieldLink RX4 11 "SeatsRound$NameList" "bytes" "[[B", Cond.methodLink RX4 28 yX4_isAlike, Cond.static yX4_isAlike, Cond.code yX4_isAlike cX4_isAlike 5 (some .boolean), Cond.methodLink RX4 45 yX4_add, Cond.instanceMethod yX4_add, Cond.selects RX4 yX4_add yX4_add, Cond.code yX4_add cX4_add 4 (some .int), Cond.methodLink RX4 32 arraycopyName, Cond.native arraycopyName, Cond.static arraycopyName, Cond.initialized "java/lang/System"]
noncomputable def wsX11_names : List Cond := Cond.code yX11_names cX11_names 4 (some .int) :: ((wsX11_names_r1 ++ wsX11_names_r2) ++ wsX110 ++ wsX70 ++ wsX40)
set_option maxRecDepth 20000 in
theorem gw_wsX11_names : wsX11_names.all goodWord = true := by decide +kernel
noncomputable def wsX11_count_r1 : List Cond := [Cond.fieldLink RX11 19 "SeatsRound" "nameList" "LSeatsRound$NameList;", Cond.fieldLink RX11 117 "SeatsRound$NameList" "count" "I", Cond.fieldLink RX11 26 "SeatsRound" "keepers" "LSeatsRound$Keepers;", Cond.fieldLink RX11 134 "SeatsRound$Keepers" "count" "I", Cond.fieldLink RX11 52 "SeatsRound" "tableCount" "I", Cond.fieldLink RX11 10 "SeatsRound" "tape" "LSeatsRound$Tape;", Cond.fieldLink RX11 102 "SeatsRound$Tape" "length" "I", Cond.fieldLink RX11 66 "SeatsRound" "parcels" "LSeatsRound$Parcels;", Cond.fieldLink RX11 417 "SeatsRound$Parcels" "writings" "I", Cond.fieldLink RX11 91 "SeatsRound" "acts" "LSeatsRound$Acts;", Cond.fieldLink RX11 344 "SeatsRound$Acts" "ran" "I", Cond.methodLink RX11 411 yX6_allCopies, Cond.instanceMethod yX6_allCopies, Cond.selects RX6 yX6_allCopies yX6_allCopies, Cond.initialized RX6, Cond.code yX6_allCopies cX6_allCopies 3 (some .int), Cond.fieldLink RX6 42 "SeatsRound$Parcels" "keepers" "LSeatsRound$Keepers;", Cond.fieldLink RX6 120 "SeatsRound$Keepers" "count" "I", Cond.methodLink RX6 103 yX6_copiesOn, Cond.instanceMethod yX6_copiesOn, Cond.selects RX6 yX6_copiesOn yX6_copiesOn, Cond.code yX6_copiesOn cX6_copiesOn 2 (some .int), Cond.fieldLink RX6 11 "SeatsRound$Parcels" "version" "[[I", Cond.methodLink RX6 141 yX6_filled]
noncomputable def wsX11_count_r2 : List Cond := [Cond.static yX6_filled, Cond.code yX6_filled cX6_filled 6 (some .int), Cond.methodLink RX11 414 yX6_allKept, Cond.instanceMethod yX6_allKept, Cond.selects RX6 yX6_allKept yX6_allKept, Cond.code yX6_allKept cX6_allKept 3 (some .int), Cond.methodLink RX6 145 yX6_keptBy, Cond.instanceMethod yX6_keptBy, Cond.selects RX6 yX6_keptBy yX6_keptBy, Cond.code yX6_keptBy cX6_keptBy 2 (some .int), Cond.fieldLink RX6 16 "SeatsRound$Parcels" "kept" "[[I"]
noncomputable def wsX11_count : List Cond := Cond.code yX11_count cX11_count 2 (some .int) :: ((wsX11_count_r1 ++ wsX11_count_r2) ++ wsX110 ++ wsX40 ++ wsX20 ++ wsX90 ++ wsX60 ++ wsX00)
set_option maxRecDepth 20000 in
theorem gw_wsX11_count : wsX11_count.all goodWord = true := by decide +kernel
noncomputable def wsX12_init_r1 : List Cond := [Cond.methodLink RX12 1 objectInit, Cond.instanceMethod objectInit, Cond.code objectInit ⟨#[0xb1]⟩ 1 none, Cond.arrayClass .int, Cond.fieldLink RX12 7 "SeatsRoundModel" "nameSize" "[I", Cond.fieldLink RX12 13 "SeatsRoundModel" "nameByte" "[I", Cond.fieldLink RX12 16 "SeatsRoundModel" "street" "[I", Cond.fieldLink RX12 19 "SeatsRoundModel" "strength" "[I", Cond.fieldLink RX12 22 "SeatsRoundModel" "kind" "[I", Cond.fieldLink RX12 25 "SeatsRoundModel" "known" "[I", Cond.arrayClass .boolean, Cond.fieldLink RX12 28 "SeatsRoundModel" "isFallen" "[Z", Cond.fieldLink RX12 32 "SeatsRoundModel" "tableOf" "[I", Cond.fieldLink RX12 35 "SeatsRoundModel" "tableZ" "[I", Cond.fieldLink RX12 38 "SeatsRoundModel" "copies" "[I", Cond.fieldLink RX12 41 "SeatsRoundModel" "streets" "[I", Cond.fieldLink RX12 44 "SeatsRoundModel" "picks" "[I", Cond.fieldLink RX12 47 "SeatsRoundModel" "lawSize" "[I", Cond.fieldLink RX12 50 "SeatsRoundModel" "lawByte" "[I", Cond.fieldLink RX12 53 "SeatsRoundModel" "counts" "[I", Cond.fieldLink RX12 56 "SeatsRoundModel" "streetIn" "[I", Cond.fieldLink RX12 59 "SeatsRoundModel" "seatMany" "[I", Cond.fieldLink RX12 62 "SeatsRoundModel" "seats" "[I", Cond.fieldLink RX12 65 "SeatsRoundModel" "tape" "[I"]
noncomputable def wsX12_init_r2 : List Cond := [Cond.fieldLink RX12 68 "SeatsRoundModel" "version" "[I", Cond.fieldLink RX12 71 "SeatsRoundModel" "kept" "[I", Cond.fieldLink RX12 74 "SeatsRoundModel" "keptFor" "[I", Cond.fieldLink RX12 77 "SeatsRoundModel" "pieces" "[I", Cond.fieldLink RX12 80 "SeatsRoundModel" "piecesTo" "[I", Cond.fieldLink RX12 83 "SeatsRoundModel" "written" "[I", Cond.fieldLink RX12 86 "SeatsRoundModel" "comer" "[I", Cond.fieldLink RX12 89 "SeatsRoundModel" "orderTold" "[I", Cond.fieldLink RX12 92 "SeatsRoundModel" "turning" "[I", Cond.fieldLink RX12 95 "SeatsRoundModel" "harmShare" "I", Cond.fieldLink RX12 99 "SeatsRoundModel" "trace" "[I", Cond.fieldLink RX12 102 "SeatsRoundModel" "shelfIs" "[I", Cond.fieldLink RX12 105 "SeatsRoundModel" "shelfSort" "[I", Cond.fieldLink RX12 108 "SeatsRoundModel" "shelfSize" "[I", Cond.arrayClass .long, Cond.fieldLink RX12 111 "SeatsRoundModel" "elements" "[J", Cond.fieldLink RX12 115 "SeatsRoundModel" "told" "[I", Cond.fieldLink RX12 118 "SeatsRoundModel" "picked" "[I", Cond.fieldLink RX12 121 "SeatsRoundModel" "chosen" "[I", Cond.fieldLink RX12 124 "SeatsRoundModel" "odds" "[I", Cond.fieldLink RX12 127 "SeatsRoundModel" "keepsBy" "[I", Cond.fieldLink RX12 130 "SeatsRoundModel" "tried" "[I"]
noncomputable def wsX12_init : List Cond := Cond.code yX12_init cX12_init 2 none :: ((wsX12_init_r1 ++ wsX12_init_r2) ++ wsX120)
set_option maxRecDepth 20000 in
theorem gw_wsX12_init : wsX12_init.all goodWord = true := by decide +kernel
noncomputable def wsX12_in : List Cond := Cond.code yX12_in cX12_in 3 (some .boolean) :: ([])
set_option maxRecDepth 20000 in
theorem gw_wsX12_in : wsX12_in.all goodWord = true := by decide +kernel
noncomputable def wsX12_isName : List Cond := Cond.code yX12_isName cX12_isName 2 (some .boolean) :: ([Cond.fieldLink RX12 133 "SeatsRoundModel" "names" "I", Cond.methodLink RX12 136 yX12_in, Cond.static yX12_in, Cond.initialized RX12, Cond.code yX12_in cX12_in 3 (some .boolean)] ++ wsX120)
set_option maxRecDepth 20000 in
theorem gw_wsX12_isName : wsX12_isName.all goodWord = true := by decide +kernel
noncomputable def wsX12_isKeeper : List Cond := Cond.code yX12_isKeeper cX12_isKeeper 2 (some .boolean) :: ([Cond.fieldLink RX12 140 "SeatsRoundModel" "keepers" "I", Cond.methodLink RX12 136 yX12_in, Cond.static yX12_in, Cond.initialized RX12, Cond.code yX12_in cX12_in 3 (some .boolean)] ++ wsX120)
set_option maxRecDepth 20000 in
theorem gw_wsX12_isKeeper : wsX12_isKeeper.all goodWord = true := by decide +kernel
noncomputable def wsX12_isTable : List Cond := Cond.code yX12_isTable cX12_isTable 2 (some .boolean) :: ([Cond.fieldLink RX12 143 "SeatsRoundModel" "tables" "I", Cond.methodLink RX12 136 yX12_in, Cond.static yX12_in, Cond.initialized RX12, Cond.code yX12_in cX12_in 3 (some .boolean)] ++ wsX120)
set_option maxRecDepth 20000 in
theorem gw_wsX12_isTable : wsX12_isTable.all goodWord = true := by decide +kernel
noncomputable def wsX12_feed : List Cond := Cond.code yX12_feed cX12_feed 4 (some .int) :: ([Cond.fieldLink RX12 146 "SeatsRoundModel" "taped" "I", Cond.fieldLink RX12 65 "SeatsRoundModel" "tape" "[I", Cond.methodLink RX12 136 yX12_in, Cond.static yX12_in, Cond.initialized RX12, Cond.code yX12_in cX12_in 3 (some .boolean)] ++ wsX120)
set_option maxRecDepth 20000 in
theorem gw_wsX12_feed : wsX12_feed.all goodWord = true := by decide +kernel
noncomputable def wsX12_name : List Cond := Cond.code yX12_name cX12_name 2 (some .int) :: ([Cond.fieldLink RX12 146 "SeatsRoundModel" "taped" "I", Cond.fieldLink RX12 115 "SeatsRoundModel" "told" "[I", Cond.fieldLink RX12 65 "SeatsRoundModel" "tape" "[I", Cond.fieldLink RX12 133 "SeatsRoundModel" "names" "I", Cond.methodLink RX12 136 yX12_in, Cond.static yX12_in, Cond.initialized RX12, Cond.code yX12_in cX12_in 3 (some .boolean), Cond.methodLink RX12 149 yX12_found, Cond.instanceMethod yX12_found, Cond.selects RX12 yX12_found yX12_found, Cond.code yX12_found cX12_found 5 (some .int), Cond.fieldLink RX12 7 "SeatsRoundModel" "nameSize" "[I", Cond.fieldLink RX12 13 "SeatsRoundModel" "nameByte" "[I", Cond.methodLink RX12 153 yX12_comesName, Cond.instanceMethod yX12_comesName, Cond.selects RX12 yX12_comesName yX12_comesName, Cond.code yX12_comesName cX12_comesName 3 none] ++ wsX120)
set_option maxRecDepth 20000 in
theorem gw_wsX12_name : wsX12_name.all goodWord = true := by decide +kernel
noncomputable def wsX12_number : List Cond := Cond.code yX12_number cX12_number 3 (some .int) :: ([Cond.methodLink RX12 158 yX12_isName, Cond.instanceMethod yX12_isName, Cond.selects RX12 yX12_isName yX12_isName, Cond.initialized RX12, Cond.code yX12_isName cX12_isName 2 (some .boolean), Cond.fieldLink RX12 133 "SeatsRoundModel" "names" "I", Cond.methodLink RX12 136 yX12_in, Cond.static yX12_in, Cond.code yX12_in cX12_in 3 (some .boolean), Cond.methodLink RX12 162 yX12_numberOf, Cond.instanceMethod yX12_numberOf, Cond.selects RX12 yX12_numberOf yX12_numberOf, Cond.code yX12_numberOf cX12_numberOf 5 (some .int), Cond.fieldLink RX12 7 "SeatsRoundModel" "nameSize" "[I", Cond.fieldLink RX12 13 "SeatsRoundModel" "nameByte" "[I", Cond.constant RX12 157 (16777619)] ++ wsX120)
set_option maxRecDepth 20000 in
theorem gw_wsX12_number : wsX12_number.all goodWord = true := by decide +kernel
noncomputable def wsX12_keeper : List Cond := Cond.code yX12_keeper cX12_keeper 3 (some .int) :: ([Cond.fieldLink RX12 140 "SeatsRoundModel" "keepers" "I", Cond.fieldLink RX12 16 "SeatsRoundModel" "street" "[I", Cond.fieldLink RX12 19 "SeatsRoundModel" "strength" "[I", Cond.methodLink RX12 136 yX12_in, Cond.static yX12_in, Cond.initialized RX12, Cond.code yX12_in cX12_in 3 (some .boolean)] ++ wsX120)
set_option maxRecDepth 20000 in
theorem gw_wsX12_keeper : wsX12_keeper.all goodWord = true := by decide +kernel
noncomputable def wsX12_become : List Cond := Cond.code yX12_become cX12_become 6 (some .int) :: ([Cond.fieldLink RX12 22 "SeatsRoundModel" "kind" "[I", Cond.fieldLink RX12 74 "SeatsRoundModel" "keptFor" "[I", Cond.fieldLink RX12 68 "SeatsRoundModel" "version" "[I", Cond.fieldLink RX12 71 "SeatsRoundModel" "kept" "[I", Cond.methodLink RX12 166 yX12_isKeeper, Cond.instanceMethod yX12_isKeeper, Cond.selects RX12 yX12_isKeeper yX12_isKeeper, Cond.initialized RX12, Cond.code yX12_isKeeper cX12_isKeeper 2 (some .boolean), Cond.fieldLink RX12 140 "SeatsRoundModel" "keepers" "I", Cond.methodLink RX12 136 yX12_in, Cond.static yX12_in, Cond.code yX12_in cX12_in 3 (some .boolean)] ++ wsX120)
set_option maxRecDepth 20000 in
theorem gw_wsX12_become : wsX12_become.all goodWord = true := by decide +kernel
noncomputable def wsX12_strength : List Cond := Cond.code yX12_strength cX12_strength 4 (some .int) :: ([Cond.fieldLink RX12 19 "SeatsRoundModel" "strength" "[I", Cond.methodLink RX12 166 yX12_isKeeper, Cond.instanceMethod yX12_isKeeper, Cond.selects RX12 yX12_isKeeper yX12_isKeeper, Cond.initialized RX12, Cond.code yX12_isKeeper cX12_isKeeper 2 (some .boolean), Cond.fieldLink RX12 140 "SeatsRoundModel" "keepers" "I", Cond.methodLink RX12 136 yX12_in, Cond.static yX12_in, Cond.code yX12_in cX12_in 3 (some .boolean)] ++ wsX120)
set_option maxRecDepth 20000 in
theorem gw_wsX12_strength : wsX12_strength.all goodWord = true := by decide +kernel
noncomputable def wsX12_ofKeeper_r1 : List Cond := [Cond.constant RX12 169 (-2000000000), Cond.fieldLink RX12 22 "SeatsRoundModel" "kind" "[I", Cond.fieldLink RX12 16 "SeatsRoundModel" "street" "[I", Cond.fieldLink RX12 19 "SeatsRoundModel" "strength" "[I", Cond.fieldLink RX12 25 "SeatsRoundModel" "known" "[I", Cond.fieldLink RX12 28 "SeatsRoundModel" "isFallen" "[Z", Cond.methodLink RX12 166 yX12_isKeeper, Cond.instanceMethod yX12_isKeeper, Cond.selects RX12 yX12_isKeeper yX12_isKeeper, Cond.initialized RX12, Cond.code yX12_isKeeper cX12_isKeeper 2 (some .boolean), Cond.fieldLink RX12 140 "SeatsRoundModel" "keepers" "I", Cond.methodLink RX12 136 yX12_in, Cond.static yX12_in, Cond.code yX12_in cX12_in 3 (some .boolean), Cond.methodLink RX12 170 yX12_countsNow, Cond.instanceMethod yX12_countsNow, Cond.selects RX12 yX12_countsNow yX12_countsNow, Cond.code yX12_countsNow cX12_countsNow 2 (some .int), Cond.methodLink RX12 173 yX12_many, Cond.instanceMethod yX12_many, Cond.selects RX12 yX12_many yX12_many, Cond.code yX12_many cX12_many 5 (some .int), Cond.fieldLink RX12 68 "SeatsRoundModel" "version" "[I"]
noncomputable def wsX12_ofKeeper_r2 : List Cond := [Cond.fieldLink RX12 71 "SeatsRoundModel" "kept" "[I"]
noncomputable def wsX12_ofKeeper : List Cond := Cond.code yX12_ofKeeper cX12_ofKeeper 3 (some .int) :: ((wsX12_ofKeeper_r1 ++ wsX12_ofKeeper_r2) ++ wsX120)
set_option maxRecDepth 20000 in
theorem gw_wsX12_ofKeeper : wsX12_ofKeeper.all goodWord = true := by decide +kernel
noncomputable def wsX12_table_r1 : List Cond := [Cond.fieldLink RX12 140 "SeatsRoundModel" "keepers" "I", Cond.fieldLink RX12 143 "SeatsRoundModel" "tables" "I", Cond.fieldLink RX12 32 "SeatsRoundModel" "tableOf" "[I", Cond.fieldLink RX12 35 "SeatsRoundModel" "tableZ" "[I", Cond.fieldLink RX12 53 "SeatsRoundModel" "counts" "[I", Cond.fieldLink RX12 56 "SeatsRoundModel" "streetIn" "[I", Cond.fieldLink RX12 16 "SeatsRoundModel" "street" "[I", Cond.fieldLink RX12 47 "SeatsRoundModel" "lawSize" "[I", Cond.fieldLink RX12 146 "SeatsRoundModel" "taped" "I", Cond.fieldLink RX12 50 "SeatsRoundModel" "lawByte" "[I", Cond.fieldLink RX12 65 "SeatsRoundModel" "tape" "[I", Cond.methodLink RX12 170 yX12_countsNow, Cond.instanceMethod yX12_countsNow, Cond.selects RX12 yX12_countsNow yX12_countsNow, Cond.initialized RX12, Cond.code yX12_countsNow cX12_countsNow 2 (some .int), Cond.fieldLink RX12 22 "SeatsRoundModel" "kind" "[I", Cond.fieldLink RX12 19 "SeatsRoundModel" "strength" "[I", Cond.methodLink RX12 231 yX12_numbers, Cond.instanceMethod yX12_numbers, Cond.selects RX12 yX12_numbers yX12_numbers, Cond.code yX12_numbers cX12_numbers 5 none, Cond.fieldLink RX12 206 "SeatsRoundModel" "nowN" "I", Cond.fieldLink RX12 209 "SeatsRoundModel" "nowU" "I"]
noncomputable def wsX12_table_r2 : List Cond := [Cond.fieldLink RX12 212 "SeatsRoundModel" "nowT" "I", Cond.fieldLink RX12 215 "SeatsRoundModel" "nowX" "I", Cond.methodLink RX12 223 yX12_isIn, Cond.instanceMethod yX12_isIn, Cond.selects RX12 yX12_isIn yX12_isIn, Cond.code yX12_isIn cX12_isIn 3 (some .boolean), Cond.methodLink RX12 234 yX12_reads, Cond.instanceMethod yX12_reads, Cond.selects RX12 yX12_reads yX12_reads, Cond.code yX12_reads cX12_reads 7 (some .int), Cond.fieldLink RX12 180 "SeatsRoundModel" "lawTable" "I", Cond.fieldLink RX12 177 "SeatsRoundModel" "at" "I", Cond.fieldLink RX12 197 "SeatsRoundModel" "opens" "I", Cond.fieldLink RX12 183 "SeatsRoundModel" "isFaulty" "Z", Cond.fieldLink RX12 38 "SeatsRoundModel" "copies" "[I", Cond.fieldLink RX12 41 "SeatsRoundModel" "streets" "[I", Cond.fieldLink RX12 44 "SeatsRoundModel" "picks" "[I", Cond.methodLink RX12 187 yX12_here, Cond.instanceMethod yX12_here, Cond.selects RX12 yX12_here yX12_here, Cond.code yX12_here cX12_here 1 (some .int), Cond.methodLink RX12 203 yX12_eats, Cond.instanceMethod yX12_eats, Cond.selects RX12 yX12_eats yX12_eats]
noncomputable def wsX12_table_r3 : List Cond := [Cond.code yX12_eats cX12_eats 2 none, Cond.methodLink RX12 136 yX12_in, Cond.static yX12_in, Cond.code yX12_in cX12_in 3 (some .boolean), Cond.methodLink RX12 200 yX12_sum, Cond.instanceMethod yX12_sum, Cond.selects RX12 yX12_sum yX12_sum, Cond.code yX12_sum cX12_sum 4 (some .int), Cond.methodLink RX12 191 yX12_product, Cond.instanceMethod yX12_product, Cond.selects RX12 yX12_product yX12_product, Cond.code yX12_one cX12_one 4 (some .int), Cond.code yX12_product cX12_product 4 (some .int), Cond.methodLink RX12 194 yX12_one, Cond.instanceMethod yX12_one, Cond.selects RX12 yX12_one yX12_one, Cond.methodLink RX12 218 yX12_held, Cond.static yX12_held, Cond.code yX12_held cX12_held 1 (some .int), Cond.methodLink RX12 237 yX12_sits, Cond.instanceMethod yX12_sits, Cond.selects RX12 yX12_sits yX12_sits, Cond.code yX12_sits cX12_sits 6 none, Cond.fieldLink RX12 62 "SeatsRoundModel" "seats" "[I"]
noncomputable def wsX12_table_r4 : List Cond := [Cond.fieldLink RX12 59 "SeatsRoundModel" "seatMany" "[I", Cond.methodLink RX12 227 yX12_mixed, Cond.static yX12_mixed, Cond.code yX12_mixed cX12_mixed 3 (some .int), Cond.constant RX12 221 (104729), Cond.constant RX12 222 (1103515245)]
noncomputable def wsX12_table : List Cond := Cond.code yX12_table cX12_table 5 (some .int) :: ((wsX12_table_r1 ++ (wsX12_table_r2 ++ (wsX12_table_r3 ++ wsX12_table_r4))) ++ wsX120)
set_option maxRecDepth 20000 in
theorem gw_wsX12_table : wsX12_table.all goodWord = true := by decide +kernel
noncomputable def wsX12_seat : List Cond := Cond.code yX12_seat cX12_seat 3 (some .int) :: ([Cond.fieldLink RX12 62 "SeatsRoundModel" "seats" "[I", Cond.methodLink RX12 266 yX12_isTable, Cond.instanceMethod yX12_isTable, Cond.selects RX12 yX12_isTable yX12_isTable, Cond.initialized RX12, Cond.code yX12_isTable cX12_isTable 2 (some .boolean), Cond.fieldLink RX12 143 "SeatsRoundModel" "tables" "I", Cond.methodLink RX12 136 yX12_in, Cond.static yX12_in, Cond.code yX12_in cX12_in 3 (some .boolean)] ++ wsX120)
set_option maxRecDepth 20000 in
theorem gw_wsX12_seat : wsX12_seat.all goodWord = true := by decide +kernel
noncomputable def wsX12_picked_r1 : List Cond := [Cond.fieldLink RX12 240 "SeatsRoundModel" "pickedMany" "I", Cond.fieldLink RX12 118 "SeatsRoundModel" "picked" "[I", Cond.methodLink RX12 266 yX12_isTable, Cond.instanceMethod yX12_isTable, Cond.selects RX12 yX12_isTable yX12_isTable, Cond.initialized RX12, Cond.code yX12_isTable cX12_isTable 2 (some .boolean), Cond.fieldLink RX12 143 "SeatsRoundModel" "tables" "I", Cond.methodLink RX12 136 yX12_in, Cond.static yX12_in, Cond.code yX12_in cX12_in 3 (some .boolean), Cond.methodLink RX12 253 yX12_pick, Cond.instanceMethod yX12_pick, Cond.selects RX12 yX12_pick yX12_pick, Cond.code yX12_pick cX12_pick 5 none, Cond.fieldLink RX12 32 "SeatsRoundModel" "tableOf" "[I", Cond.fieldLink RX12 44 "SeatsRoundModel" "picks" "[I", Cond.methodLink RX12 243 yX12_pickBest, Cond.instanceMethod yX12_pickBest, Cond.selects RX12 yX12_pickBest yX12_pickBest, Cond.code yX12_pickBest cX12_pickBest 8 none, Cond.fieldLink RX12 140 "SeatsRoundModel" "keepers" "I", Cond.fieldLink RX12 35 "SeatsRoundModel" "tableZ" "[I", Cond.fieldLink RX12 53 "SeatsRoundModel" "counts" "[I"]
noncomputable def wsX12_picked_r2 : List Cond := [Cond.methodLink RX12 227 yX12_mixed, Cond.static yX12_mixed, Cond.code yX12_mixed cX12_mixed 3 (some .int), Cond.constant RX12 221 (104729), Cond.constant RX12 222 (1103515245), Cond.methodLink RX12 223 yX12_isIn, Cond.instanceMethod yX12_isIn, Cond.selects RX12 yX12_isIn yX12_isIn, Cond.code yX12_isIn cX12_isIn 3 (some .boolean), Cond.methodLink RX12 247 yX12_pickNext, Cond.instanceMethod yX12_pickNext, Cond.selects RX12 yX12_pickNext yX12_pickNext, Cond.code yX12_pickNext cX12_pickNext 5 none, Cond.fieldLink RX12 62 "SeatsRoundModel" "seats" "[I"]
noncomputable def wsX12_picked : List Cond := Cond.code yX12_picked cX12_picked 4 (some .int) :: ((wsX12_picked_r1 ++ wsX12_picked_r2) ++ wsX120)
set_option maxRecDepth 20000 in
theorem gw_wsX12_picked : wsX12_picked.all goodWord = true := by decide +kernel
noncomputable def wsX12_keeperOf_r1 : List Cond := [Cond.fieldLink RX12 250 "SeatsRoundModel" "chosenMany" "I", Cond.fieldLink RX12 121 "SeatsRoundModel" "chosen" "[I", Cond.methodLink RX12 266 yX12_isTable, Cond.instanceMethod yX12_isTable, Cond.selects RX12 yX12_isTable yX12_isTable, Cond.initialized RX12, Cond.code yX12_isTable cX12_isTable 2 (some .boolean), Cond.fieldLink RX12 143 "SeatsRoundModel" "tables" "I", Cond.methodLink RX12 136 yX12_in, Cond.static yX12_in, Cond.code yX12_in cX12_in 3 (some .boolean), Cond.methodLink RX12 158 yX12_isName, Cond.instanceMethod yX12_isName, Cond.selects RX12 yX12_isName yX12_isName, Cond.code yX12_isName cX12_isName 2 (some .boolean), Cond.fieldLink RX12 133 "SeatsRoundModel" "names" "I", Cond.methodLink RX12 269 yX12_chooseName, Cond.instanceMethod yX12_chooseName, Cond.selects RX12 yX12_chooseName yX12_chooseName, Cond.code yX12_chooseName cX12_chooseName 3 none, Cond.fieldLink RX12 35 "SeatsRoundModel" "tableZ" "[I", Cond.methodLink RX12 162 yX12_numberOf, Cond.instanceMethod yX12_numberOf, Cond.selects RX12 yX12_numberOf yX12_numberOf]
noncomputable def wsX12_keeperOf_r2 : List Cond := [Cond.code yX12_numberOf cX12_numberOf 5 (some .int), Cond.fieldLink RX12 7 "SeatsRoundModel" "nameSize" "[I", Cond.fieldLink RX12 13 "SeatsRoundModel" "nameByte" "[I", Cond.constant RX12 157 (16777619), Cond.methodLink RX12 263 yX12_choose, Cond.instanceMethod yX12_choose, Cond.selects RX12 yX12_choose yX12_choose, Cond.code yX12_choose cX12_choose 7 none, Cond.fieldLink RX12 240 "SeatsRoundModel" "pickedMany" "I", Cond.fieldLink RX12 38 "SeatsRoundModel" "copies" "[I", Cond.fieldLink RX12 118 "SeatsRoundModel" "picked" "[I", Cond.fieldLink RX12 41 "SeatsRoundModel" "streets" "[I", Cond.methodLink RX12 253 yX12_pick, Cond.instanceMethod yX12_pick, Cond.selects RX12 yX12_pick yX12_pick, Cond.code yX12_pick cX12_pick 5 none, Cond.fieldLink RX12 32 "SeatsRoundModel" "tableOf" "[I", Cond.fieldLink RX12 44 "SeatsRoundModel" "picks" "[I", Cond.methodLink RX12 243 yX12_pickBest, Cond.instanceMethod yX12_pickBest, Cond.selects RX12 yX12_pickBest yX12_pickBest, Cond.code yX12_pickBest cX12_pickBest 8 none, Cond.fieldLink RX12 140 "SeatsRoundModel" "keepers" "I", Cond.fieldLink RX12 53 "SeatsRoundModel" "counts" "[I"]
noncomputable def wsX12_keeperOf_r3 : List Cond := [Cond.methodLink RX12 227 yX12_mixed, Cond.static yX12_mixed, Cond.code yX12_mixed cX12_mixed 3 (some .int), Cond.constant RX12 221 (104729), Cond.constant RX12 222 (1103515245), Cond.methodLink RX12 223 yX12_isIn, Cond.instanceMethod yX12_isIn, Cond.selects RX12 yX12_isIn yX12_isIn, Cond.code yX12_isIn cX12_isIn 3 (some .boolean), Cond.methodLink RX12 247 yX12_pickNext, Cond.instanceMethod yX12_pickNext, Cond.selects RX12 yX12_pickNext yX12_pickNext, Cond.code yX12_pickNext cX12_pickNext 5 none, Cond.fieldLink RX12 62 "SeatsRoundModel" "seats" "[I", Cond.methodLink RX12 257 yX12_streetsOf, Cond.instanceMethod yX12_streetsOf, Cond.selects RX12 yX12_streetsOf yX12_streetsOf, Cond.code yX12_streetsOf cX12_streetsOf 5 (some .int), Cond.fieldLink RX12 56 "SeatsRoundModel" "streetIn" "[I", Cond.methodLink RX12 260 yX12_isChosen, Cond.instanceMethod yX12_isChosen, Cond.selects RX12 yX12_isChosen yX12_isChosen, Cond.code yX12_isChosen cX12_isChosen 3 (some .boolean)]
noncomputable def wsX12_keeperOf : List Cond := Cond.code yX12_keeperOf cX12_keeperOf 4 (some .int) :: ((wsX12_keeperOf_r1 ++ (wsX12_keeperOf_r2 ++ wsX12_keeperOf_r3)) ++ wsX120)
set_option maxRecDepth 20000 in
theorem gw_wsX12_keeperOf : wsX12_keeperOf.all goodWord = true := by decide +kernel
noncomputable def wsX12_tooFew_r1 : List Cond := [Cond.fieldLink RX12 133 "SeatsRoundModel" "names" "I", Cond.fieldLink RX12 41 "SeatsRoundModel" "streets" "[I", Cond.methodLink RX12 266 yX12_isTable, Cond.instanceMethod yX12_isTable, Cond.selects RX12 yX12_isTable yX12_isTable, Cond.initialized RX12, Cond.code yX12_isTable cX12_isTable 2 (some .boolean), Cond.fieldLink RX12 143 "SeatsRoundModel" "tables" "I", Cond.methodLink RX12 136 yX12_in, Cond.static yX12_in, Cond.code yX12_in cX12_in 3 (some .boolean), Cond.methodLink RX12 269 yX12_chooseName, Cond.instanceMethod yX12_chooseName, Cond.selects RX12 yX12_chooseName yX12_chooseName, Cond.code yX12_chooseName cX12_chooseName 3 none, Cond.fieldLink RX12 35 "SeatsRoundModel" "tableZ" "[I", Cond.methodLink RX12 162 yX12_numberOf, Cond.instanceMethod yX12_numberOf, Cond.selects RX12 yX12_numberOf yX12_numberOf, Cond.code yX12_numberOf cX12_numberOf 5 (some .int), Cond.fieldLink RX12 7 "SeatsRoundModel" "nameSize" "[I", Cond.fieldLink RX12 13 "SeatsRoundModel" "nameByte" "[I", Cond.constant RX12 157 (16777619), Cond.methodLink RX12 263 yX12_choose]
noncomputable def wsX12_tooFew_r2 : List Cond := [Cond.instanceMethod yX12_choose, Cond.selects RX12 yX12_choose yX12_choose, Cond.code yX12_choose cX12_choose 7 none, Cond.fieldLink RX12 250 "SeatsRoundModel" "chosenMany" "I", Cond.fieldLink RX12 240 "SeatsRoundModel" "pickedMany" "I", Cond.fieldLink RX12 38 "SeatsRoundModel" "copies" "[I", Cond.fieldLink RX12 118 "SeatsRoundModel" "picked" "[I", Cond.fieldLink RX12 121 "SeatsRoundModel" "chosen" "[I", Cond.methodLink RX12 253 yX12_pick, Cond.instanceMethod yX12_pick, Cond.selects RX12 yX12_pick yX12_pick, Cond.code yX12_pick cX12_pick 5 none, Cond.fieldLink RX12 32 "SeatsRoundModel" "tableOf" "[I", Cond.fieldLink RX12 44 "SeatsRoundModel" "picks" "[I", Cond.methodLink RX12 243 yX12_pickBest, Cond.instanceMethod yX12_pickBest, Cond.selects RX12 yX12_pickBest yX12_pickBest, Cond.code yX12_pickBest cX12_pickBest 8 none, Cond.fieldLink RX12 140 "SeatsRoundModel" "keepers" "I", Cond.fieldLink RX12 53 "SeatsRoundModel" "counts" "[I", Cond.methodLink RX12 227 yX12_mixed, Cond.static yX12_mixed, Cond.code yX12_mixed cX12_mixed 3 (some .int), Cond.constant RX12 221 (104729)]
noncomputable def wsX12_tooFew_r3 : List Cond := [Cond.constant RX12 222 (1103515245), Cond.methodLink RX12 223 yX12_isIn, Cond.instanceMethod yX12_isIn, Cond.selects RX12 yX12_isIn yX12_isIn, Cond.code yX12_isIn cX12_isIn 3 (some .boolean), Cond.methodLink RX12 247 yX12_pickNext, Cond.instanceMethod yX12_pickNext, Cond.selects RX12 yX12_pickNext yX12_pickNext, Cond.code yX12_pickNext cX12_pickNext 5 none, Cond.fieldLink RX12 62 "SeatsRoundModel" "seats" "[I", Cond.methodLink RX12 257 yX12_streetsOf, Cond.instanceMethod yX12_streetsOf, Cond.selects RX12 yX12_streetsOf yX12_streetsOf, Cond.code yX12_streetsOf cX12_streetsOf 5 (some .int), Cond.fieldLink RX12 56 "SeatsRoundModel" "streetIn" "[I", Cond.methodLink RX12 260 yX12_isChosen, Cond.instanceMethod yX12_isChosen, Cond.selects RX12 yX12_isChosen yX12_isChosen, Cond.code yX12_isChosen cX12_isChosen 3 (some .boolean)]
noncomputable def wsX12_tooFew : List Cond := Cond.code yX12_tooFew cX12_tooFew 4 (some .int) :: ((wsX12_tooFew_r1 ++ (wsX12_tooFew_r2 ++ wsX12_tooFew_r3)) ++ wsX120)
set_option maxRecDepth 20000 in
theorem gw_wsX12_tooFew : wsX12_tooFew.all goodWord = true := by decide +kernel
noncomputable def wsX12_share_r1 : List Cond := [Cond.fieldLink RX12 124 "SeatsRoundModel" "odds" "[I", Cond.methodLink RX12 266 yX12_isTable, Cond.instanceMethod yX12_isTable, Cond.selects RX12 yX12_isTable yX12_isTable, Cond.initialized RX12, Cond.code yX12_isTable cX12_isTable 2 (some .boolean), Cond.fieldLink RX12 143 "SeatsRoundModel" "tables" "I", Cond.methodLink RX12 136 yX12_in, Cond.static yX12_in, Cond.code yX12_in cX12_in 3 (some .boolean), Cond.methodLink RX12 166 yX12_isKeeper, Cond.instanceMethod yX12_isKeeper, Cond.selects RX12 yX12_isKeeper yX12_isKeeper, Cond.code yX12_isKeeper cX12_isKeeper 2 (some .boolean), Cond.fieldLink RX12 140 "SeatsRoundModel" "keepers" "I", Cond.methodLink RX12 272 yX12_shareOf, Cond.instanceMethod yX12_shareOf, Cond.selects RX12 yX12_shareOf yX12_shareOf, Cond.code yX12_shareOf cX12_shareOf 5 (some .int), Cond.fieldLink RX12 133 "SeatsRoundModel" "names" "I", Cond.fieldLink RX12 35 "SeatsRoundModel" "tableZ" "[I", Cond.fieldLink RX12 118 "SeatsRoundModel" "picked" "[I", Cond.methodLink RX12 162 yX12_numberOf, Cond.instanceMethod yX12_numberOf]
noncomputable def wsX12_share_r2 : List Cond := [Cond.selects RX12 yX12_numberOf yX12_numberOf, Cond.code yX12_numberOf cX12_numberOf 5 (some .int), Cond.fieldLink RX12 7 "SeatsRoundModel" "nameSize" "[I", Cond.fieldLink RX12 13 "SeatsRoundModel" "nameByte" "[I", Cond.constant RX12 157 (16777619), Cond.methodLink RX12 253 yX12_pick, Cond.instanceMethod yX12_pick, Cond.selects RX12 yX12_pick yX12_pick, Cond.code yX12_pick cX12_pick 5 none, Cond.fieldLink RX12 240 "SeatsRoundModel" "pickedMany" "I", Cond.fieldLink RX12 32 "SeatsRoundModel" "tableOf" "[I", Cond.fieldLink RX12 44 "SeatsRoundModel" "picks" "[I", Cond.methodLink RX12 243 yX12_pickBest, Cond.instanceMethod yX12_pickBest, Cond.selects RX12 yX12_pickBest yX12_pickBest, Cond.code yX12_pickBest cX12_pickBest 8 none, Cond.fieldLink RX12 53 "SeatsRoundModel" "counts" "[I", Cond.methodLink RX12 227 yX12_mixed, Cond.static yX12_mixed, Cond.code yX12_mixed cX12_mixed 3 (some .int), Cond.constant RX12 221 (104729), Cond.constant RX12 222 (1103515245), Cond.methodLink RX12 223 yX12_isIn, Cond.instanceMethod yX12_isIn]
noncomputable def wsX12_share_r3 : List Cond := [Cond.selects RX12 yX12_isIn yX12_isIn, Cond.code yX12_isIn cX12_isIn 3 (some .boolean), Cond.methodLink RX12 247 yX12_pickNext, Cond.instanceMethod yX12_pickNext, Cond.selects RX12 yX12_pickNext yX12_pickNext, Cond.code yX12_pickNext cX12_pickNext 5 none, Cond.fieldLink RX12 62 "SeatsRoundModel" "seats" "[I", Cond.methodLink RX12 275 yX12_findOdds, Cond.instanceMethod yX12_findOdds, Cond.selects RX12 yX12_findOdds yX12_findOdds, Cond.code yX12_findOdds cX12_findOdds 3 none]
noncomputable def wsX12_share : List Cond := Cond.code yX12_share cX12_share 4 (some .int) :: ((wsX12_share_r1 ++ (wsX12_share_r2 ++ wsX12_share_r3)) ++ wsX120)
set_option maxRecDepth 20000 in
theorem gw_wsX12_share : wsX12_share.all goodWord = true := by decide +kernel
noncomputable def wsX12_ofTable_r1 : List Cond := [Cond.fieldLink RX12 32 "SeatsRoundModel" "tableOf" "[I", Cond.fieldLink RX12 59 "SeatsRoundModel" "seatMany" "[I", Cond.fieldLink RX12 38 "SeatsRoundModel" "copies" "[I", Cond.fieldLink RX12 41 "SeatsRoundModel" "streets" "[I", Cond.fieldLink RX12 44 "SeatsRoundModel" "picks" "[I", Cond.methodLink RX12 266 yX12_isTable, Cond.instanceMethod yX12_isTable, Cond.selects RX12 yX12_isTable yX12_isTable, Cond.initialized RX12, Cond.code yX12_isTable cX12_isTable 2 (some .boolean), Cond.fieldLink RX12 143 "SeatsRoundModel" "tables" "I", Cond.methodLink RX12 136 yX12_in, Cond.static yX12_in, Cond.code yX12_in cX12_in 3 (some .boolean), Cond.methodLink RX12 278 yX12_even, Cond.instanceMethod yX12_even, Cond.selects RX12 yX12_even yX12_even, Cond.code yX12_even cX12_even 5 (some .int), Cond.fieldLink RX12 140 "SeatsRoundModel" "keepers" "I", Cond.fieldLink RX12 124 "SeatsRoundModel" "odds" "[I", Cond.methodLink RX12 275 yX12_findOdds, Cond.instanceMethod yX12_findOdds, Cond.selects RX12 yX12_findOdds yX12_findOdds, Cond.code yX12_findOdds cX12_findOdds 3 none]
noncomputable def wsX12_ofTable_r2 : List Cond := [Cond.fieldLink RX12 118 "SeatsRoundModel" "picked" "[I", Cond.methodLink RX12 253 yX12_pick, Cond.instanceMethod yX12_pick, Cond.selects RX12 yX12_pick yX12_pick, Cond.code yX12_pick cX12_pick 5 none, Cond.fieldLink RX12 240 "SeatsRoundModel" "pickedMany" "I", Cond.methodLink RX12 243 yX12_pickBest, Cond.instanceMethod yX12_pickBest, Cond.selects RX12 yX12_pickBest yX12_pickBest, Cond.code yX12_pickBest cX12_pickBest 8 none, Cond.fieldLink RX12 35 "SeatsRoundModel" "tableZ" "[I", Cond.fieldLink RX12 53 "SeatsRoundModel" "counts" "[I", Cond.methodLink RX12 227 yX12_mixed, Cond.static yX12_mixed, Cond.code yX12_mixed cX12_mixed 3 (some .int), Cond.constant RX12 221 (104729), Cond.constant RX12 222 (1103515245), Cond.methodLink RX12 223 yX12_isIn, Cond.instanceMethod yX12_isIn, Cond.selects RX12 yX12_isIn yX12_isIn, Cond.code yX12_isIn cX12_isIn 3 (some .boolean), Cond.methodLink RX12 247 yX12_pickNext, Cond.instanceMethod yX12_pickNext, Cond.selects RX12 yX12_pickNext yX12_pickNext]
noncomputable def wsX12_ofTable_r3 : List Cond := [Cond.code yX12_pickNext cX12_pickNext 5 none, Cond.fieldLink RX12 62 "SeatsRoundModel" "seats" "[I"]
noncomputable def wsX12_ofTable : List Cond := Cond.code yX12_ofTable cX12_ofTable 3 (some .int) :: ((wsX12_ofTable_r1 ++ (wsX12_ofTable_r2 ++ wsX12_ofTable_r3)) ++ wsX120)
set_option maxRecDepth 20000 in
theorem gw_wsX12_ofTable : wsX12_ofTable.all goodWord = true := by decide +kernel
noncomputable def wsX12_moves_r1 : List Cond := [Cond.fieldLink RX12 140 "SeatsRoundModel" "keepers" "I", Cond.fieldLink RX12 53 "SeatsRoundModel" "counts" "[I", Cond.fieldLink RX12 133 "SeatsRoundModel" "names" "I", Cond.methodLink RX12 266 yX12_isTable, Cond.instanceMethod yX12_isTable, Cond.selects RX12 yX12_isTable yX12_isTable, Cond.initialized RX12, Cond.code yX12_isTable cX12_isTable 2 (some .boolean), Cond.fieldLink RX12 143 "SeatsRoundModel" "tables" "I", Cond.methodLink RX12 136 yX12_in, Cond.static yX12_in, Cond.code yX12_in cX12_in 3 (some .boolean), Cond.methodLink RX12 223 yX12_isIn, Cond.instanceMethod yX12_isIn, Cond.selects RX12 yX12_isIn yX12_isIn, Cond.code yX12_isIn cX12_isIn 3 (some .boolean), Cond.fieldLink RX12 32 "SeatsRoundModel" "tableOf" "[I", Cond.methodLink RX12 269 yX12_chooseName, Cond.instanceMethod yX12_chooseName, Cond.selects RX12 yX12_chooseName yX12_chooseName, Cond.code yX12_chooseName cX12_chooseName 3 none, Cond.fieldLink RX12 35 "SeatsRoundModel" "tableZ" "[I", Cond.methodLink RX12 162 yX12_numberOf, Cond.instanceMethod yX12_numberOf]
noncomputable def wsX12_moves_r2 : List Cond := [Cond.selects RX12 yX12_numberOf yX12_numberOf, Cond.code yX12_numberOf cX12_numberOf 5 (some .int), Cond.fieldLink RX12 7 "SeatsRoundModel" "nameSize" "[I", Cond.fieldLink RX12 13 "SeatsRoundModel" "nameByte" "[I", Cond.constant RX12 157 (16777619), Cond.methodLink RX12 263 yX12_choose, Cond.instanceMethod yX12_choose, Cond.selects RX12 yX12_choose yX12_choose, Cond.code yX12_choose cX12_choose 7 none, Cond.fieldLink RX12 250 "SeatsRoundModel" "chosenMany" "I", Cond.fieldLink RX12 240 "SeatsRoundModel" "pickedMany" "I", Cond.fieldLink RX12 38 "SeatsRoundModel" "copies" "[I", Cond.fieldLink RX12 118 "SeatsRoundModel" "picked" "[I", Cond.fieldLink RX12 41 "SeatsRoundModel" "streets" "[I", Cond.fieldLink RX12 121 "SeatsRoundModel" "chosen" "[I", Cond.methodLink RX12 253 yX12_pick, Cond.instanceMethod yX12_pick, Cond.selects RX12 yX12_pick yX12_pick, Cond.code yX12_pick cX12_pick 5 none, Cond.fieldLink RX12 44 "SeatsRoundModel" "picks" "[I", Cond.methodLink RX12 243 yX12_pickBest, Cond.instanceMethod yX12_pickBest, Cond.selects RX12 yX12_pickBest yX12_pickBest, Cond.code yX12_pickBest cX12_pickBest 8 none]
noncomputable def wsX12_moves_r3 : List Cond := [Cond.methodLink RX12 227 yX12_mixed, Cond.static yX12_mixed, Cond.code yX12_mixed cX12_mixed 3 (some .int), Cond.constant RX12 221 (104729), Cond.constant RX12 222 (1103515245), Cond.methodLink RX12 247 yX12_pickNext, Cond.instanceMethod yX12_pickNext, Cond.selects RX12 yX12_pickNext yX12_pickNext, Cond.code yX12_pickNext cX12_pickNext 5 none, Cond.fieldLink RX12 62 "SeatsRoundModel" "seats" "[I", Cond.methodLink RX12 257 yX12_streetsOf, Cond.instanceMethod yX12_streetsOf, Cond.selects RX12 yX12_streetsOf yX12_streetsOf, Cond.code yX12_streetsOf cX12_streetsOf 5 (some .int), Cond.fieldLink RX12 56 "SeatsRoundModel" "streetIn" "[I", Cond.methodLink RX12 260 yX12_isChosen, Cond.instanceMethod yX12_isChosen, Cond.selects RX12 yX12_isChosen yX12_isChosen, Cond.code yX12_isChosen cX12_isChosen 3 (some .boolean), Cond.methodLink RX12 281 yX12_bits, Cond.instanceMethod yX12_bits, Cond.selects RX12 yX12_bits yX12_bits, Cond.code yX12_bits cX12_bits 3 (some .int), Cond.methodLink RX12 284 yX12_ones]
noncomputable def wsX12_moves_r4 : List Cond := [Cond.static yX12_ones, Cond.code yX12_ones cX12_ones 3 (some .int)]
noncomputable def wsX12_moves : List Cond := Cond.code yX12_moves cX12_moves 10 (some .int) :: ((wsX12_moves_r1 ++ (wsX12_moves_r2 ++ (wsX12_moves_r3 ++ wsX12_moves_r4))) ++ wsX120)
set_option maxRecDepth 20000 in
theorem gw_wsX12_moves : wsX12_moves.all goodWord = true := by decide +kernel
noncomputable def wsX12_knows : List Cond := Cond.code yX12_knows cX12_knows 4 (some .int) :: ([Cond.fieldLink RX12 143 "SeatsRoundModel" "tables" "I", Cond.constant RX12 169 (-2000000000), Cond.fieldLink RX12 25 "SeatsRoundModel" "known" "[I", Cond.methodLink RX12 166 yX12_isKeeper, Cond.instanceMethod yX12_isKeeper, Cond.selects RX12 yX12_isKeeper yX12_isKeeper, Cond.initialized RX12, Cond.code yX12_isKeeper cX12_isKeeper 2 (some .boolean), Cond.fieldLink RX12 140 "SeatsRoundModel" "keepers" "I", Cond.methodLink RX12 136 yX12_in, Cond.static yX12_in, Cond.code yX12_in cX12_in 3 (some .boolean)] ++ wsX120)
set_option maxRecDepth 20000 in
theorem gw_wsX12_knows : wsX12_knows.all goodWord = true := by decide +kernel
noncomputable def wsX12_write_r1 : List Cond := [Cond.fieldLink RX12 25 "SeatsRoundModel" "known" "[I", Cond.fieldLink RX12 83 "SeatsRoundModel" "written" "[I", Cond.fieldLink RX12 290 "SeatsRoundModel" "writings" "I", Cond.fieldLink RX12 250 "SeatsRoundModel" "chosenMany" "I", Cond.fieldLink RX12 121 "SeatsRoundModel" "chosen" "[I", Cond.fieldLink RX12 28 "SeatsRoundModel" "isFallen" "[Z", Cond.fieldLink RX12 22 "SeatsRoundModel" "kind" "[I", Cond.fieldLink RX12 68 "SeatsRoundModel" "version" "[I", Cond.methodLink RX12 166 yX12_isKeeper, Cond.instanceMethod yX12_isKeeper, Cond.selects RX12 yX12_isKeeper yX12_isKeeper, Cond.initialized RX12, Cond.code yX12_isKeeper cX12_isKeeper 2 (some .boolean), Cond.fieldLink RX12 140 "SeatsRoundModel" "keepers" "I", Cond.methodLink RX12 136 yX12_in, Cond.static yX12_in, Cond.code yX12_in cX12_in 3 (some .boolean), Cond.methodLink RX12 158 yX12_isName, Cond.instanceMethod yX12_isName, Cond.selects RX12 yX12_isName yX12_isName, Cond.code yX12_isName cX12_isName 2 (some .boolean), Cond.fieldLink RX12 133 "SeatsRoundModel" "names" "I", Cond.methodLink RX12 287 yX12_isAwake, Cond.instanceMethod yX12_isAwake]
noncomputable def wsX12_write_r2 : List Cond := [Cond.selects RX12 yX12_isAwake yX12_isAwake, Cond.code yX12_isAwake cX12_isAwake 2 (some .boolean), Cond.methodLink RX12 269 yX12_chooseName, Cond.instanceMethod yX12_chooseName, Cond.selects RX12 yX12_chooseName yX12_chooseName, Cond.code yX12_chooseName cX12_chooseName 3 none, Cond.fieldLink RX12 35 "SeatsRoundModel" "tableZ" "[I", Cond.methodLink RX12 162 yX12_numberOf, Cond.instanceMethod yX12_numberOf, Cond.selects RX12 yX12_numberOf yX12_numberOf, Cond.code yX12_numberOf cX12_numberOf 5 (some .int), Cond.fieldLink RX12 7 "SeatsRoundModel" "nameSize" "[I", Cond.fieldLink RX12 13 "SeatsRoundModel" "nameByte" "[I", Cond.constant RX12 157 (16777619), Cond.methodLink RX12 263 yX12_choose, Cond.instanceMethod yX12_choose, Cond.selects RX12 yX12_choose yX12_choose, Cond.code yX12_choose cX12_choose 7 none, Cond.fieldLink RX12 240 "SeatsRoundModel" "pickedMany" "I", Cond.fieldLink RX12 38 "SeatsRoundModel" "copies" "[I", Cond.fieldLink RX12 118 "SeatsRoundModel" "picked" "[I", Cond.fieldLink RX12 41 "SeatsRoundModel" "streets" "[I", Cond.methodLink RX12 253 yX12_pick, Cond.instanceMethod yX12_pick]
noncomputable def wsX12_write_r3 : List Cond := [Cond.selects RX12 yX12_pick yX12_pick, Cond.code yX12_pick cX12_pick 5 none, Cond.fieldLink RX12 32 "SeatsRoundModel" "tableOf" "[I", Cond.fieldLink RX12 44 "SeatsRoundModel" "picks" "[I", Cond.methodLink RX12 243 yX12_pickBest, Cond.instanceMethod yX12_pickBest, Cond.selects RX12 yX12_pickBest yX12_pickBest, Cond.code yX12_pickBest cX12_pickBest 8 none, Cond.fieldLink RX12 53 "SeatsRoundModel" "counts" "[I", Cond.methodLink RX12 227 yX12_mixed, Cond.static yX12_mixed, Cond.code yX12_mixed cX12_mixed 3 (some .int), Cond.constant RX12 221 (104729), Cond.constant RX12 222 (1103515245), Cond.methodLink RX12 223 yX12_isIn, Cond.instanceMethod yX12_isIn, Cond.selects RX12 yX12_isIn yX12_isIn, Cond.code yX12_isIn cX12_isIn 3 (some .boolean), Cond.methodLink RX12 247 yX12_pickNext, Cond.instanceMethod yX12_pickNext, Cond.selects RX12 yX12_pickNext yX12_pickNext, Cond.code yX12_pickNext cX12_pickNext 5 none, Cond.fieldLink RX12 62 "SeatsRoundModel" "seats" "[I", Cond.methodLink RX12 257 yX12_streetsOf]
noncomputable def wsX12_write_r4 : List Cond := [Cond.instanceMethod yX12_streetsOf, Cond.selects RX12 yX12_streetsOf yX12_streetsOf, Cond.code yX12_streetsOf cX12_streetsOf 5 (some .int), Cond.fieldLink RX12 56 "SeatsRoundModel" "streetIn" "[I", Cond.methodLink RX12 260 yX12_isChosen, Cond.instanceMethod yX12_isChosen, Cond.selects RX12 yX12_isChosen yX12_isChosen, Cond.code yX12_isChosen cX12_isChosen 3 (some .boolean), Cond.methodLink RX12 281 yX12_bits, Cond.instanceMethod yX12_bits, Cond.selects RX12 yX12_bits yX12_bits, Cond.code yX12_bits cX12_bits 3 (some .int), Cond.methodLink RX12 293 yX12_keeps, Cond.instanceMethod yX12_keeps, Cond.selects RX12 yX12_keeps yX12_keeps, Cond.code yX12_keeps cX12_keeps 8 (some .int), Cond.fieldLink RX12 74 "SeatsRoundModel" "keptFor" "[I", Cond.fieldLink RX12 71 "SeatsRoundModel" "kept" "[I", Cond.methodLink RX12 297 yX12_hasRoom, Cond.instanceMethod yX12_hasRoom, Cond.selects RX12 yX12_hasRoom yX12_hasRoom, Cond.code yX12_hasRoom cX12_hasRoom 3 (some .boolean), Cond.methodLink RX12 173 yX12_many, Cond.instanceMethod yX12_many]
noncomputable def wsX12_write_r5 : List Cond := [Cond.selects RX12 yX12_many yX12_many, Cond.code yX12_many cX12_many 5 (some .int)]
noncomputable def wsX12_write : List Cond := Cond.code yX12_write cX12_write 7 (some .int) :: ((wsX12_write_r1 ++ (wsX12_write_r2 ++ (wsX12_write_r3 ++ (wsX12_write_r4 ++ wsX12_write_r5)))) ++ wsX120)
set_option maxRecDepth 20000 in
theorem gw_wsX12_write : wsX12_write.all goodWord = true := by decide +kernel
noncomputable def wsX12_read_r1 : List Cond := [Cond.fieldLink RX12 25 "SeatsRoundModel" "known" "[I", Cond.fieldLink RX12 250 "SeatsRoundModel" "chosenMany" "I", Cond.fieldLink RX12 121 "SeatsRoundModel" "chosen" "[I", Cond.fieldLink RX12 68 "SeatsRoundModel" "version" "[I", Cond.methodLink RX12 166 yX12_isKeeper, Cond.instanceMethod yX12_isKeeper, Cond.selects RX12 yX12_isKeeper yX12_isKeeper, Cond.initialized RX12, Cond.code yX12_isKeeper cX12_isKeeper 2 (some .boolean), Cond.fieldLink RX12 140 "SeatsRoundModel" "keepers" "I", Cond.methodLink RX12 136 yX12_in, Cond.static yX12_in, Cond.code yX12_in cX12_in 3 (some .boolean), Cond.methodLink RX12 158 yX12_isName, Cond.instanceMethod yX12_isName, Cond.selects RX12 yX12_isName yX12_isName, Cond.code yX12_isName cX12_isName 2 (some .boolean), Cond.fieldLink RX12 133 "SeatsRoundModel" "names" "I", Cond.methodLink RX12 287 yX12_isAwake, Cond.instanceMethod yX12_isAwake, Cond.selects RX12 yX12_isAwake yX12_isAwake, Cond.code yX12_isAwake cX12_isAwake 2 (some .boolean), Cond.fieldLink RX12 22 "SeatsRoundModel" "kind" "[I", Cond.fieldLink RX12 28 "SeatsRoundModel" "isFallen" "[Z"]
noncomputable def wsX12_read_r2 : List Cond := [Cond.methodLink RX12 269 yX12_chooseName, Cond.instanceMethod yX12_chooseName, Cond.selects RX12 yX12_chooseName yX12_chooseName, Cond.code yX12_chooseName cX12_chooseName 3 none, Cond.fieldLink RX12 35 "SeatsRoundModel" "tableZ" "[I", Cond.methodLink RX12 162 yX12_numberOf, Cond.instanceMethod yX12_numberOf, Cond.selects RX12 yX12_numberOf yX12_numberOf, Cond.code yX12_numberOf cX12_numberOf 5 (some .int), Cond.fieldLink RX12 7 "SeatsRoundModel" "nameSize" "[I", Cond.fieldLink RX12 13 "SeatsRoundModel" "nameByte" "[I", Cond.constant RX12 157 (16777619), Cond.methodLink RX12 263 yX12_choose, Cond.instanceMethod yX12_choose, Cond.selects RX12 yX12_choose yX12_choose, Cond.code yX12_choose cX12_choose 7 none, Cond.fieldLink RX12 240 "SeatsRoundModel" "pickedMany" "I", Cond.fieldLink RX12 38 "SeatsRoundModel" "copies" "[I", Cond.fieldLink RX12 118 "SeatsRoundModel" "picked" "[I", Cond.fieldLink RX12 41 "SeatsRoundModel" "streets" "[I", Cond.methodLink RX12 253 yX12_pick, Cond.instanceMethod yX12_pick, Cond.selects RX12 yX12_pick yX12_pick, Cond.code yX12_pick cX12_pick 5 none]
noncomputable def wsX12_read_r3 : List Cond := [Cond.fieldLink RX12 32 "SeatsRoundModel" "tableOf" "[I", Cond.fieldLink RX12 44 "SeatsRoundModel" "picks" "[I", Cond.methodLink RX12 243 yX12_pickBest, Cond.instanceMethod yX12_pickBest, Cond.selects RX12 yX12_pickBest yX12_pickBest, Cond.code yX12_pickBest cX12_pickBest 8 none, Cond.fieldLink RX12 53 "SeatsRoundModel" "counts" "[I", Cond.methodLink RX12 227 yX12_mixed, Cond.static yX12_mixed, Cond.code yX12_mixed cX12_mixed 3 (some .int), Cond.constant RX12 221 (104729), Cond.constant RX12 222 (1103515245), Cond.methodLink RX12 223 yX12_isIn, Cond.instanceMethod yX12_isIn, Cond.selects RX12 yX12_isIn yX12_isIn, Cond.code yX12_isIn cX12_isIn 3 (some .boolean), Cond.methodLink RX12 247 yX12_pickNext, Cond.instanceMethod yX12_pickNext, Cond.selects RX12 yX12_pickNext yX12_pickNext, Cond.code yX12_pickNext cX12_pickNext 5 none, Cond.fieldLink RX12 62 "SeatsRoundModel" "seats" "[I", Cond.methodLink RX12 257 yX12_streetsOf, Cond.instanceMethod yX12_streetsOf, Cond.selects RX12 yX12_streetsOf yX12_streetsOf]
noncomputable def wsX12_read_r4 : List Cond := [Cond.code yX12_streetsOf cX12_streetsOf 5 (some .int), Cond.fieldLink RX12 56 "SeatsRoundModel" "streetIn" "[I", Cond.methodLink RX12 260 yX12_isChosen, Cond.instanceMethod yX12_isChosen, Cond.selects RX12 yX12_isChosen yX12_isChosen, Cond.code yX12_isChosen cX12_isChosen 3 (some .boolean)]
noncomputable def wsX12_read : List Cond := Cond.code yX12_read cX12_read 6 (some .int) :: ((wsX12_read_r1 ++ (wsX12_read_r2 ++ (wsX12_read_r3 ++ wsX12_read_r4))) ++ wsX120)
set_option maxRecDepth 20000 in
theorem gw_wsX12_read : wsX12_read.all goodWord = true := by decide +kernel
noncomputable def wsX12_onShelf : List Cond := Cond.code yX12_onShelf cX12_onShelf 5 (some .int) :: ([Cond.fieldLink RX12 68 "SeatsRoundModel" "version" "[I", Cond.fieldLink RX12 71 "SeatsRoundModel" "kept" "[I", Cond.fieldLink RX12 74 "SeatsRoundModel" "keptFor" "[I", Cond.fieldLink RX12 77 "SeatsRoundModel" "pieces" "[I", Cond.methodLink RX12 166 yX12_isKeeper, Cond.instanceMethod yX12_isKeeper, Cond.selects RX12 yX12_isKeeper yX12_isKeeper, Cond.initialized RX12, Cond.code yX12_isKeeper cX12_isKeeper 2 (some .boolean), Cond.fieldLink RX12 140 "SeatsRoundModel" "keepers" "I", Cond.methodLink RX12 136 yX12_in, Cond.static yX12_in, Cond.code yX12_in cX12_in 3 (some .boolean), Cond.methodLink RX12 158 yX12_isName, Cond.instanceMethod yX12_isName, Cond.selects RX12 yX12_isName yX12_isName, Cond.code yX12_isName cX12_isName 2 (some .boolean), Cond.fieldLink RX12 133 "SeatsRoundModel" "names" "I"] ++ wsX120)
set_option maxRecDepth 20000 in
theorem gw_wsX12_onShelf : wsX12_onShelf.all goodWord = true := by decide +kernel
noncomputable def wsX12_fall : List Cond := Cond.code yX12_fall cX12_fall 5 (some .int) :: ([Cond.fieldLink RX12 28 "SeatsRoundModel" "isFallen" "[Z", Cond.fieldLink RX12 68 "SeatsRoundModel" "version" "[I", Cond.fieldLink RX12 71 "SeatsRoundModel" "kept" "[I", Cond.fieldLink RX12 74 "SeatsRoundModel" "keptFor" "[I", Cond.methodLink RX12 166 yX12_isKeeper, Cond.instanceMethod yX12_isKeeper, Cond.selects RX12 yX12_isKeeper yX12_isKeeper, Cond.initialized RX12, Cond.code yX12_isKeeper cX12_isKeeper 2 (some .boolean), Cond.fieldLink RX12 140 "SeatsRoundModel" "keepers" "I", Cond.methodLink RX12 136 yX12_in, Cond.static yX12_in, Cond.code yX12_in cX12_in 3 (some .boolean)] ++ wsX120)
set_option maxRecDepth 20000 in
theorem gw_wsX12_fall : wsX12_fall.all goodWord = true := by decide +kernel
noncomputable def wsX12_half : List Cond := Cond.code yX12_half cX12_half 6 (some .int) :: ([Cond.fieldLink RX12 68 "SeatsRoundModel" "version" "[I", Cond.fieldLink RX12 77 "SeatsRoundModel" "pieces" "[I", Cond.fieldLink RX12 80 "SeatsRoundModel" "piecesTo" "[I", Cond.methodLink RX12 158 yX12_isName, Cond.instanceMethod yX12_isName, Cond.selects RX12 yX12_isName yX12_isName, Cond.initialized RX12, Cond.code yX12_isName cX12_isName 2 (some .boolean), Cond.fieldLink RX12 133 "SeatsRoundModel" "names" "I", Cond.methodLink RX12 136 yX12_in, Cond.static yX12_in, Cond.code yX12_in cX12_in 3 (some .boolean), Cond.methodLink RX12 166 yX12_isKeeper, Cond.instanceMethod yX12_isKeeper, Cond.selects RX12 yX12_isKeeper yX12_isKeeper, Cond.code yX12_isKeeper cX12_isKeeper 2 (some .boolean), Cond.fieldLink RX12 140 "SeatsRoundModel" "keepers" "I", Cond.methodLink RX12 287 yX12_isAwake, Cond.instanceMethod yX12_isAwake, Cond.selects RX12 yX12_isAwake yX12_isAwake, Cond.code yX12_isAwake cX12_isAwake 2 (some .boolean), Cond.fieldLink RX12 22 "SeatsRoundModel" "kind" "[I", Cond.fieldLink RX12 28 "SeatsRoundModel" "isFallen" "[Z"] ++ wsX120)
set_option maxRecDepth 20000 in
theorem gw_wsX12_half : wsX12_half.all goodWord = true := by decide +kernel
noncomputable def wsX12_mend_r1 : List Cond := [Cond.fieldLink RX12 133 "SeatsRoundModel" "names" "I", Cond.fieldLink RX12 140 "SeatsRoundModel" "keepers" "I", Cond.fieldLink RX12 28 "SeatsRoundModel" "isFallen" "[Z", Cond.fieldLink RX12 68 "SeatsRoundModel" "version" "[I", Cond.fieldLink RX12 250 "SeatsRoundModel" "chosenMany" "I", Cond.fieldLink RX12 121 "SeatsRoundModel" "chosen" "[I", Cond.methodLink RX12 266 yX12_isTable, Cond.instanceMethod yX12_isTable, Cond.selects RX12 yX12_isTable yX12_isTable, Cond.initialized RX12, Cond.code yX12_isTable cX12_isTable 2 (some .boolean), Cond.fieldLink RX12 143 "SeatsRoundModel" "tables" "I", Cond.methodLink RX12 136 yX12_in, Cond.static yX12_in, Cond.code yX12_in cX12_in 3 (some .boolean), Cond.methodLink RX12 269 yX12_chooseName, Cond.instanceMethod yX12_chooseName, Cond.selects RX12 yX12_chooseName yX12_chooseName, Cond.code yX12_chooseName cX12_chooseName 3 none, Cond.fieldLink RX12 35 "SeatsRoundModel" "tableZ" "[I", Cond.methodLink RX12 162 yX12_numberOf, Cond.instanceMethod yX12_numberOf, Cond.selects RX12 yX12_numberOf yX12_numberOf, Cond.code yX12_numberOf cX12_numberOf 5 (some .int)]
noncomputable def wsX12_mend_r2 : List Cond := [Cond.fieldLink RX12 7 "SeatsRoundModel" "nameSize" "[I", Cond.fieldLink RX12 13 "SeatsRoundModel" "nameByte" "[I", Cond.constant RX12 157 (16777619), Cond.methodLink RX12 263 yX12_choose, Cond.instanceMethod yX12_choose, Cond.selects RX12 yX12_choose yX12_choose, Cond.code yX12_choose cX12_choose 7 none, Cond.fieldLink RX12 240 "SeatsRoundModel" "pickedMany" "I", Cond.fieldLink RX12 38 "SeatsRoundModel" "copies" "[I", Cond.fieldLink RX12 118 "SeatsRoundModel" "picked" "[I", Cond.fieldLink RX12 41 "SeatsRoundModel" "streets" "[I", Cond.methodLink RX12 253 yX12_pick, Cond.instanceMethod yX12_pick, Cond.selects RX12 yX12_pick yX12_pick, Cond.code yX12_pick cX12_pick 5 none, Cond.fieldLink RX12 32 "SeatsRoundModel" "tableOf" "[I", Cond.fieldLink RX12 44 "SeatsRoundModel" "picks" "[I", Cond.methodLink RX12 243 yX12_pickBest, Cond.instanceMethod yX12_pickBest, Cond.selects RX12 yX12_pickBest yX12_pickBest, Cond.code yX12_pickBest cX12_pickBest 8 none, Cond.fieldLink RX12 53 "SeatsRoundModel" "counts" "[I", Cond.methodLink RX12 227 yX12_mixed, Cond.static yX12_mixed]
noncomputable def wsX12_mend_r3 : List Cond := [Cond.code yX12_mixed cX12_mixed 3 (some .int), Cond.constant RX12 221 (104729), Cond.constant RX12 222 (1103515245), Cond.methodLink RX12 223 yX12_isIn, Cond.instanceMethod yX12_isIn, Cond.selects RX12 yX12_isIn yX12_isIn, Cond.code yX12_isIn cX12_isIn 3 (some .boolean), Cond.methodLink RX12 247 yX12_pickNext, Cond.instanceMethod yX12_pickNext, Cond.selects RX12 yX12_pickNext yX12_pickNext, Cond.code yX12_pickNext cX12_pickNext 5 none, Cond.fieldLink RX12 62 "SeatsRoundModel" "seats" "[I", Cond.methodLink RX12 257 yX12_streetsOf, Cond.instanceMethod yX12_streetsOf, Cond.selects RX12 yX12_streetsOf yX12_streetsOf, Cond.code yX12_streetsOf cX12_streetsOf 5 (some .int), Cond.fieldLink RX12 56 "SeatsRoundModel" "streetIn" "[I", Cond.methodLink RX12 260 yX12_isChosen, Cond.instanceMethod yX12_isChosen, Cond.selects RX12 yX12_isChosen yX12_isChosen, Cond.code yX12_isChosen cX12_isChosen 3 (some .boolean), Cond.methodLink RX12 287 yX12_isAwake, Cond.instanceMethod yX12_isAwake, Cond.selects RX12 yX12_isAwake yX12_isAwake]
noncomputable def wsX12_mend_r4 : List Cond := [Cond.code yX12_isAwake cX12_isAwake 2 (some .boolean), Cond.fieldLink RX12 22 "SeatsRoundModel" "kind" "[I", Cond.methodLink RX12 297 yX12_hasRoom, Cond.instanceMethod yX12_hasRoom, Cond.selects RX12 yX12_hasRoom yX12_hasRoom, Cond.code yX12_hasRoom cX12_hasRoom 3 (some .boolean), Cond.methodLink RX12 173 yX12_many, Cond.instanceMethod yX12_many, Cond.selects RX12 yX12_many yX12_many, Cond.code yX12_many cX12_many 5 (some .int), Cond.fieldLink RX12 71 "SeatsRoundModel" "kept" "[I"]
noncomputable def wsX12_mend : List Cond := Cond.code yX12_mend cX12_mend 7 (some .int) :: ((wsX12_mend_r1 ++ (wsX12_mend_r2 ++ (wsX12_mend_r3 ++ wsX12_mend_r4))) ++ wsX120)
set_option maxRecDepth 20000 in
theorem gw_wsX12_mend : wsX12_mend.all goodWord = true := by decide +kernel
noncomputable def wsX12_trees : List Cond := Cond.code yX12_trees cX12_trees 6 (some .int) :: ([Cond.methodLink RX12 166 yX12_isKeeper, Cond.instanceMethod yX12_isKeeper, Cond.selects RX12 yX12_isKeeper yX12_isKeeper, Cond.initialized RX12, Cond.code yX12_isKeeper cX12_isKeeper 2 (some .boolean), Cond.fieldLink RX12 140 "SeatsRoundModel" "keepers" "I", Cond.methodLink RX12 136 yX12_in, Cond.static yX12_in, Cond.code yX12_in cX12_in 3 (some .boolean), Cond.methodLink RX12 307 yX12_wordsBelow, Cond.instanceMethod yX12_wordsBelow, Cond.selects RX12 yX12_wordsBelow yX12_wordsBelow, Cond.code yX12_wordsBelow cX12_wordsBelow 5 (some .int), Cond.methodLink RX12 303 yX12_areUnlike, Cond.instanceMethod yX12_areUnlike, Cond.selects RX12 yX12_areUnlike yX12_areUnlike, Cond.code yX12_areUnlike cX12_areUnlike 7 (some .boolean), Cond.methodLink RX12 300 yX12_leafOf, Cond.instanceMethod yX12_leafOf, Cond.selects RX12 yX12_leafOf yX12_leafOf, Cond.code yX12_leafOf cX12_leafOf 5 (some .int), Cond.fieldLink RX12 133 "SeatsRoundModel" "names" "I", Cond.fieldLink RX12 68 "SeatsRoundModel" "version" "[I"] ++ wsX120)
set_option maxRecDepth 20000 in
theorem gw_wsX12_trees : wsX12_trees.all goodWord = true := by decide +kernel
noncomputable def wsX12_noon : List Cond := Cond.code yX12_noon cX12_noon 6 (some .int) :: ([Cond.fieldLink RX12 32 "SeatsRoundModel" "tableOf" "[I", Cond.methodLink RX12 266 yX12_isTable, Cond.instanceMethod yX12_isTable, Cond.selects RX12 yX12_isTable yX12_isTable, Cond.initialized RX12, Cond.code yX12_isTable cX12_isTable 2 (some .boolean), Cond.fieldLink RX12 143 "SeatsRoundModel" "tables" "I", Cond.methodLink RX12 136 yX12_in, Cond.static yX12_in, Cond.code yX12_in cX12_in 3 (some .boolean), Cond.methodLink RX12 284 yX12_ones, Cond.static yX12_ones, Cond.code yX12_ones cX12_ones 3 (some .int)] ++ wsX120)
set_option maxRecDepth 20000 in
theorem gw_wsX12_noon : wsX12_noon.all goodWord = true := by decide +kernel
noncomputable def wsX12_lies : List Cond := Cond.code yX12_lies cX12_lies 6 (some .int) :: ([Cond.fieldLink RX12 19 "SeatsRoundModel" "strength" "[I", Cond.methodLink RX12 166 yX12_isKeeper, Cond.instanceMethod yX12_isKeeper, Cond.selects RX12 yX12_isKeeper yX12_isKeeper, Cond.initialized RX12, Cond.code yX12_isKeeper cX12_isKeeper 2 (some .boolean), Cond.fieldLink RX12 140 "SeatsRoundModel" "keepers" "I", Cond.methodLink RX12 136 yX12_in, Cond.static yX12_in, Cond.code yX12_in cX12_in 3 (some .boolean)] ++ wsX120)
set_option maxRecDepth 20000 in
theorem gw_wsX12_lies : wsX12_lies.all goodWord = true := by decide +kernel
noncomputable def wsX12_comes : List Cond := Cond.code yX12_comes cX12_comes 2 (some .int) :: ([Cond.fieldLink RX12 310 "SeatsRoundModel" "comers" "I", Cond.fieldLink RX12 86 "SeatsRoundModel" "comer" "[I", Cond.methodLink RX12 166 yX12_isKeeper, Cond.instanceMethod yX12_isKeeper, Cond.selects RX12 yX12_isKeeper yX12_isKeeper, Cond.initialized RX12, Cond.code yX12_isKeeper cX12_isKeeper 2 (some .boolean), Cond.fieldLink RX12 140 "SeatsRoundModel" "keepers" "I", Cond.methodLink RX12 136 yX12_in, Cond.static yX12_in, Cond.code yX12_in cX12_in 3 (some .boolean), Cond.methodLink RX12 313 yX12_isComing, Cond.instanceMethod yX12_isComing, Cond.selects RX12 yX12_isComing yX12_isComing, Cond.code yX12_isComing cX12_isComing 3 (some .boolean)] ++ wsX120)
set_option maxRecDepth 20000 in
theorem gw_wsX12_comes : wsX12_comes.all goodWord = true := by decide +kernel
noncomputable def wsX12_order_r1 : List Cond := [Cond.fieldLink RX12 310 "SeatsRoundModel" "comers" "I", Cond.fieldLink RX12 35 "SeatsRoundModel" "tableZ" "[I", Cond.fieldLink RX12 133 "SeatsRoundModel" "names" "I", Cond.fieldLink RX12 127 "SeatsRoundModel" "keepsBy" "[I", Cond.fieldLink RX12 130 "SeatsRoundModel" "tried" "[I", Cond.fieldLink RX12 325 "SeatsRoundModel" "orderMany" "I", Cond.fieldLink RX12 89 "SeatsRoundModel" "orderTold" "[I", Cond.methodLink RX12 266 yX12_isTable, Cond.instanceMethod yX12_isTable, Cond.selects RX12 yX12_isTable yX12_isTable, Cond.initialized RX12, Cond.code yX12_isTable cX12_isTable 2 (some .boolean), Cond.fieldLink RX12 143 "SeatsRoundModel" "tables" "I", Cond.methodLink RX12 136 yX12_in, Cond.static yX12_in, Cond.code yX12_in cX12_in 3 (some .boolean), Cond.methodLink RX12 316 yX12_setBy, Cond.instanceMethod yX12_setBy, Cond.selects RX12 yX12_setBy yX12_setBy, Cond.code yX12_setBy cX12_setBy 5 (some .int), Cond.fieldLink RX12 32 "SeatsRoundModel" "tableOf" "[I", Cond.fieldLink RX12 86 "SeatsRoundModel" "comer" "[I", Cond.methodLink RX12 319 yX12_tries, Cond.instanceMethod yX12_tries]
noncomputable def wsX12_order_r2 : List Cond := [Cond.selects RX12 yX12_tries yX12_tries, Cond.code yX12_tries cX12_tries 5 none, Cond.fieldLink RX12 47 "SeatsRoundModel" "lawSize" "[I", Cond.fieldLink RX12 50 "SeatsRoundModel" "lawByte" "[I", Cond.fieldLink RX12 140 "SeatsRoundModel" "keepers" "I", Cond.fieldLink RX12 53 "SeatsRoundModel" "counts" "[I", Cond.fieldLink RX12 56 "SeatsRoundModel" "streetIn" "[I", Cond.fieldLink RX12 16 "SeatsRoundModel" "street" "[I", Cond.methodLink RX12 223 yX12_isIn, Cond.instanceMethod yX12_isIn, Cond.selects RX12 yX12_isIn yX12_isIn, Cond.code yX12_isIn cX12_isIn 3 (some .boolean), Cond.methodLink RX12 170 yX12_countsNow, Cond.instanceMethod yX12_countsNow, Cond.selects RX12 yX12_countsNow yX12_countsNow, Cond.code yX12_countsNow cX12_countsNow 2 (some .int), Cond.fieldLink RX12 22 "SeatsRoundModel" "kind" "[I", Cond.fieldLink RX12 19 "SeatsRoundModel" "strength" "[I", Cond.methodLink RX12 231 yX12_numbers, Cond.instanceMethod yX12_numbers, Cond.selects RX12 yX12_numbers yX12_numbers, Cond.code yX12_numbers cX12_numbers 5 none, Cond.fieldLink RX12 206 "SeatsRoundModel" "nowN" "I", Cond.fieldLink RX12 209 "SeatsRoundModel" "nowU" "I"]
noncomputable def wsX12_order_r3 : List Cond := [Cond.fieldLink RX12 212 "SeatsRoundModel" "nowT" "I", Cond.fieldLink RX12 215 "SeatsRoundModel" "nowX" "I", Cond.methodLink RX12 234 yX12_reads, Cond.instanceMethod yX12_reads, Cond.selects RX12 yX12_reads yX12_reads, Cond.code yX12_reads cX12_reads 7 (some .int), Cond.fieldLink RX12 180 "SeatsRoundModel" "lawTable" "I", Cond.fieldLink RX12 177 "SeatsRoundModel" "at" "I", Cond.fieldLink RX12 197 "SeatsRoundModel" "opens" "I", Cond.fieldLink RX12 183 "SeatsRoundModel" "isFaulty" "Z", Cond.fieldLink RX12 38 "SeatsRoundModel" "copies" "[I", Cond.fieldLink RX12 41 "SeatsRoundModel" "streets" "[I", Cond.fieldLink RX12 44 "SeatsRoundModel" "picks" "[I", Cond.methodLink RX12 187 yX12_here, Cond.instanceMethod yX12_here, Cond.selects RX12 yX12_here yX12_here, Cond.code yX12_here cX12_here 1 (some .int), Cond.methodLink RX12 203 yX12_eats, Cond.instanceMethod yX12_eats, Cond.selects RX12 yX12_eats yX12_eats, Cond.code yX12_eats cX12_eats 2 none, Cond.methodLink RX12 200 yX12_sum, Cond.instanceMethod yX12_sum, Cond.selects RX12 yX12_sum yX12_sum]
noncomputable def wsX12_order_r4 : List Cond := [Cond.code yX12_sum cX12_sum 4 (some .int), Cond.methodLink RX12 191 yX12_product, Cond.instanceMethod yX12_product, Cond.selects RX12 yX12_product yX12_product, Cond.code yX12_one cX12_one 4 (some .int), Cond.code yX12_product cX12_product 4 (some .int), Cond.methodLink RX12 194 yX12_one, Cond.instanceMethod yX12_one, Cond.selects RX12 yX12_one yX12_one, Cond.methodLink RX12 218 yX12_held, Cond.static yX12_held, Cond.code yX12_held cX12_held 1 (some .int), Cond.methodLink RX12 237 yX12_sits, Cond.instanceMethod yX12_sits, Cond.selects RX12 yX12_sits yX12_sits, Cond.code yX12_sits cX12_sits 6 none, Cond.fieldLink RX12 62 "SeatsRoundModel" "seats" "[I", Cond.fieldLink RX12 59 "SeatsRoundModel" "seatMany" "[I", Cond.methodLink RX12 227 yX12_mixed, Cond.static yX12_mixed, Cond.code yX12_mixed cX12_mixed 3 (some .int), Cond.constant RX12 221 (104729), Cond.constant RX12 222 (1103515245), Cond.methodLink RX12 269 yX12_chooseName]
noncomputable def wsX12_order_r5 : List Cond := [Cond.instanceMethod yX12_chooseName, Cond.selects RX12 yX12_chooseName yX12_chooseName, Cond.code yX12_chooseName cX12_chooseName 3 none, Cond.methodLink RX12 162 yX12_numberOf, Cond.instanceMethod yX12_numberOf, Cond.selects RX12 yX12_numberOf yX12_numberOf, Cond.code yX12_numberOf cX12_numberOf 5 (some .int), Cond.fieldLink RX12 7 "SeatsRoundModel" "nameSize" "[I", Cond.fieldLink RX12 13 "SeatsRoundModel" "nameByte" "[I", Cond.constant RX12 157 (16777619), Cond.methodLink RX12 263 yX12_choose, Cond.instanceMethod yX12_choose, Cond.selects RX12 yX12_choose yX12_choose, Cond.code yX12_choose cX12_choose 7 none, Cond.fieldLink RX12 250 "SeatsRoundModel" "chosenMany" "I", Cond.fieldLink RX12 240 "SeatsRoundModel" "pickedMany" "I", Cond.fieldLink RX12 118 "SeatsRoundModel" "picked" "[I", Cond.fieldLink RX12 121 "SeatsRoundModel" "chosen" "[I", Cond.methodLink RX12 253 yX12_pick, Cond.instanceMethod yX12_pick, Cond.selects RX12 yX12_pick yX12_pick, Cond.code yX12_pick cX12_pick 5 none, Cond.methodLink RX12 243 yX12_pickBest, Cond.instanceMethod yX12_pickBest]
noncomputable def wsX12_order_r6 : List Cond := [Cond.selects RX12 yX12_pickBest yX12_pickBest, Cond.code yX12_pickBest cX12_pickBest 8 none, Cond.methodLink RX12 247 yX12_pickNext, Cond.instanceMethod yX12_pickNext, Cond.selects RX12 yX12_pickNext yX12_pickNext, Cond.code yX12_pickNext cX12_pickNext 5 none, Cond.methodLink RX12 257 yX12_streetsOf, Cond.instanceMethod yX12_streetsOf, Cond.selects RX12 yX12_streetsOf yX12_streetsOf, Cond.code yX12_streetsOf cX12_streetsOf 5 (some .int), Cond.methodLink RX12 260 yX12_isChosen, Cond.instanceMethod yX12_isChosen, Cond.selects RX12 yX12_isChosen yX12_isChosen, Cond.code yX12_isChosen cX12_isChosen 3 (some .boolean), Cond.methodLink RX12 281 yX12_bits, Cond.instanceMethod yX12_bits, Cond.selects RX12 yX12_bits yX12_bits, Cond.code yX12_bits cX12_bits 3 (some .int), Cond.methodLink RX12 322 yX12_movesBy, Cond.instanceMethod yX12_movesBy, Cond.selects RX12 yX12_movesBy yX12_movesBy, Cond.code yX12_movesBy cX12_movesBy 7 (some .int), Cond.methodLink RX12 284 yX12_ones, Cond.static yX12_ones]
noncomputable def wsX12_order_r7 : List Cond := [Cond.code yX12_ones cX12_ones 3 (some .int), Cond.methodLink RX12 328 yX12_nextOrder, Cond.instanceMethod yX12_nextOrder, Cond.selects RX12 yX12_nextOrder yX12_nextOrder, Cond.code yX12_nextOrder cX12_nextOrder 8 (some .boolean)]
noncomputable def wsX12_order : List Cond := Cond.code yX12_order cX12_order 6 (some .int) :: ((wsX12_order_r1 ++ (wsX12_order_r2 ++ (wsX12_order_r3 ++ (wsX12_order_r4 ++ (wsX12_order_r5 ++ (wsX12_order_r6 ++ wsX12_order_r7)))))) ++ wsX120)
set_option maxRecDepth 20000 in
theorem gw_wsX12_order : wsX12_order.all goodWord = true := by decide +kernel
noncomputable def wsX12_ordered : List Cond := Cond.code yX12_ordered cX12_ordered 2 (some .int) :: ([Cond.fieldLink RX12 325 "SeatsRoundModel" "orderMany" "I", Cond.fieldLink RX12 89 "SeatsRoundModel" "orderTold" "[I", Cond.methodLink RX12 136 yX12_in, Cond.static yX12_in, Cond.initialized RX12, Cond.code yX12_in cX12_in 3 (some .boolean)] ++ wsX120)
set_option maxRecDepth 20000 in
theorem gw_wsX12_ordered : wsX12_ordered.all goodWord = true := by decide +kernel
noncomputable def wsX12_turning : List Cond := Cond.code yX12_turning cX12_turning 2 (some .int) :: ([Cond.fieldLink RX12 331 "SeatsRoundModel" "turnings" "I", Cond.fieldLink RX12 92 "SeatsRoundModel" "turning" "[I"] ++ wsX120)
set_option maxRecDepth 20000 in
theorem gw_wsX12_turning : wsX12_turning.all goodWord = true := by decide +kernel
noncomputable def wsX12_harm_r1 : List Cond := [Cond.fieldLink RX12 331 "SeatsRoundModel" "turnings" "I", Cond.fieldLink RX12 32 "SeatsRoundModel" "tableOf" "[I", Cond.fieldLink RX12 92 "SeatsRoundModel" "turning" "[I", Cond.fieldLink RX12 140 "SeatsRoundModel" "keepers" "I", Cond.fieldLink RX12 95 "SeatsRoundModel" "harmShare" "I", Cond.methodLink RX12 266 yX12_isTable, Cond.instanceMethod yX12_isTable, Cond.selects RX12 yX12_isTable yX12_isTable, Cond.initialized RX12, Cond.code yX12_isTable cX12_isTable 2 (some .boolean), Cond.fieldLink RX12 143 "SeatsRoundModel" "tables" "I", Cond.methodLink RX12 136 yX12_in, Cond.static yX12_in, Cond.code yX12_in cX12_in 3 (some .boolean), Cond.methodLink RX12 319 yX12_tries, Cond.instanceMethod yX12_tries, Cond.selects RX12 yX12_tries yX12_tries, Cond.code yX12_tries cX12_tries 5 none, Cond.fieldLink RX12 35 "SeatsRoundModel" "tableZ" "[I", Cond.fieldLink RX12 47 "SeatsRoundModel" "lawSize" "[I", Cond.fieldLink RX12 50 "SeatsRoundModel" "lawByte" "[I", Cond.fieldLink RX12 53 "SeatsRoundModel" "counts" "[I", Cond.fieldLink RX12 56 "SeatsRoundModel" "streetIn" "[I", Cond.fieldLink RX12 16 "SeatsRoundModel" "street" "[I"]
noncomputable def wsX12_harm_r2 : List Cond := [Cond.methodLink RX12 223 yX12_isIn, Cond.instanceMethod yX12_isIn, Cond.selects RX12 yX12_isIn yX12_isIn, Cond.code yX12_isIn cX12_isIn 3 (some .boolean), Cond.methodLink RX12 170 yX12_countsNow, Cond.instanceMethod yX12_countsNow, Cond.selects RX12 yX12_countsNow yX12_countsNow, Cond.code yX12_countsNow cX12_countsNow 2 (some .int), Cond.fieldLink RX12 22 "SeatsRoundModel" "kind" "[I", Cond.fieldLink RX12 19 "SeatsRoundModel" "strength" "[I", Cond.methodLink RX12 231 yX12_numbers, Cond.instanceMethod yX12_numbers, Cond.selects RX12 yX12_numbers yX12_numbers, Cond.code yX12_numbers cX12_numbers 5 none, Cond.fieldLink RX12 206 "SeatsRoundModel" "nowN" "I", Cond.fieldLink RX12 209 "SeatsRoundModel" "nowU" "I", Cond.fieldLink RX12 212 "SeatsRoundModel" "nowT" "I", Cond.fieldLink RX12 215 "SeatsRoundModel" "nowX" "I", Cond.methodLink RX12 234 yX12_reads, Cond.instanceMethod yX12_reads, Cond.selects RX12 yX12_reads yX12_reads, Cond.code yX12_reads cX12_reads 7 (some .int), Cond.fieldLink RX12 180 "SeatsRoundModel" "lawTable" "I", Cond.fieldLink RX12 177 "SeatsRoundModel" "at" "I"]
noncomputable def wsX12_harm_r3 : List Cond := [Cond.fieldLink RX12 197 "SeatsRoundModel" "opens" "I", Cond.fieldLink RX12 183 "SeatsRoundModel" "isFaulty" "Z", Cond.fieldLink RX12 38 "SeatsRoundModel" "copies" "[I", Cond.fieldLink RX12 41 "SeatsRoundModel" "streets" "[I", Cond.fieldLink RX12 44 "SeatsRoundModel" "picks" "[I", Cond.methodLink RX12 187 yX12_here, Cond.instanceMethod yX12_here, Cond.selects RX12 yX12_here yX12_here, Cond.code yX12_here cX12_here 1 (some .int), Cond.methodLink RX12 203 yX12_eats, Cond.instanceMethod yX12_eats, Cond.selects RX12 yX12_eats yX12_eats, Cond.code yX12_eats cX12_eats 2 none, Cond.methodLink RX12 200 yX12_sum, Cond.instanceMethod yX12_sum, Cond.selects RX12 yX12_sum yX12_sum, Cond.code yX12_sum cX12_sum 4 (some .int), Cond.methodLink RX12 191 yX12_product, Cond.instanceMethod yX12_product, Cond.selects RX12 yX12_product yX12_product, Cond.code yX12_one cX12_one 4 (some .int), Cond.code yX12_product cX12_product 4 (some .int), Cond.methodLink RX12 194 yX12_one, Cond.instanceMethod yX12_one]
noncomputable def wsX12_harm_r4 : List Cond := [Cond.selects RX12 yX12_one yX12_one, Cond.methodLink RX12 218 yX12_held, Cond.static yX12_held, Cond.code yX12_held cX12_held 1 (some .int), Cond.methodLink RX12 237 yX12_sits, Cond.instanceMethod yX12_sits, Cond.selects RX12 yX12_sits yX12_sits, Cond.code yX12_sits cX12_sits 6 none, Cond.fieldLink RX12 62 "SeatsRoundModel" "seats" "[I", Cond.fieldLink RX12 59 "SeatsRoundModel" "seatMany" "[I", Cond.methodLink RX12 227 yX12_mixed, Cond.static yX12_mixed, Cond.code yX12_mixed cX12_mixed 3 (some .int), Cond.constant RX12 221 (104729), Cond.constant RX12 222 (1103515245), Cond.methodLink RX12 272 yX12_shareOf, Cond.instanceMethod yX12_shareOf, Cond.selects RX12 yX12_shareOf yX12_shareOf, Cond.code yX12_shareOf cX12_shareOf 5 (some .int), Cond.fieldLink RX12 133 "SeatsRoundModel" "names" "I", Cond.fieldLink RX12 118 "SeatsRoundModel" "picked" "[I", Cond.methodLink RX12 162 yX12_numberOf, Cond.instanceMethod yX12_numberOf, Cond.selects RX12 yX12_numberOf yX12_numberOf]
noncomputable def wsX12_harm_r5 : List Cond := [Cond.code yX12_numberOf cX12_numberOf 5 (some .int), Cond.fieldLink RX12 7 "SeatsRoundModel" "nameSize" "[I", Cond.fieldLink RX12 13 "SeatsRoundModel" "nameByte" "[I", Cond.constant RX12 157 (16777619), Cond.methodLink RX12 253 yX12_pick, Cond.instanceMethod yX12_pick, Cond.selects RX12 yX12_pick yX12_pick, Cond.code yX12_pick cX12_pick 5 none, Cond.fieldLink RX12 240 "SeatsRoundModel" "pickedMany" "I", Cond.methodLink RX12 243 yX12_pickBest, Cond.instanceMethod yX12_pickBest, Cond.selects RX12 yX12_pickBest yX12_pickBest, Cond.code yX12_pickBest cX12_pickBest 8 none, Cond.methodLink RX12 247 yX12_pickNext, Cond.instanceMethod yX12_pickNext, Cond.selects RX12 yX12_pickNext yX12_pickNext, Cond.code yX12_pickNext cX12_pickNext 5 none]
noncomputable def wsX12_harm : List Cond := Cond.code yX12_harm cX12_harm 7 (some .int) :: ((wsX12_harm_r1 ++ (wsX12_harm_r2 ++ (wsX12_harm_r3 ++ (wsX12_harm_r4 ++ wsX12_harm_r5)))) ++ wsX120)
set_option maxRecDepth 20000 in
theorem gw_wsX12_harm : wsX12_harm.all goodWord = true := by decide +kernel
noncomputable def wsX12_harmed : List Cond := Cond.code yX12_harmed cX12_harmed 1 (some .int) :: ([Cond.fieldLink RX12 95 "SeatsRoundModel" "harmShare" "I"] ++ wsX120)
set_option maxRecDepth 20000 in
theorem gw_wsX12_harmed : wsX12_harmed.all goodWord = true := by decide +kernel
noncomputable def wsX12_act_r1 : List Cond := [Cond.fieldLink RX12 334 "SeatsRoundModel" "bodies" "I", Cond.fieldLink RX12 22 "SeatsRoundModel" "kind" "[I", Cond.methodLink RX12 166 yX12_isKeeper, Cond.instanceMethod yX12_isKeeper, Cond.selects RX12 yX12_isKeeper yX12_isKeeper, Cond.initialized RX12, Cond.code yX12_isKeeper cX12_isKeeper 2 (some .boolean), Cond.fieldLink RX12 140 "SeatsRoundModel" "keepers" "I", Cond.methodLink RX12 136 yX12_in, Cond.static yX12_in, Cond.code yX12_in cX12_in 3 (some .boolean), Cond.methodLink RX12 340 yX12_findsFrom, Cond.instanceMethod yX12_findsFrom, Cond.selects RX12 yX12_findsFrom yX12_findsFrom, Cond.code yX12_findsFrom cX12_findsFrom 4 (some .int), Cond.fieldLink RX12 19 "SeatsRoundModel" "strength" "[I", Cond.methodLink RX12 337 yX12_begins, Cond.instanceMethod yX12_begins, Cond.selects RX12 yX12_begins yX12_begins, Cond.code yX12_begins cX12_begins 2 none, Cond.fieldLink RX12 99 "SeatsRoundModel" "trace" "[I", Cond.methodLink RX12 343 yX12_aboveOf, Cond.static yX12_aboveOf, Cond.code yX12_aboveOf cX12_aboveOf 1 (some .int)]
noncomputable def wsX12_act_r2 : List Cond := [Cond.methodLink RX12 346 yX12_keepsFrom, Cond.instanceMethod yX12_keepsFrom, Cond.selects RX12 yX12_keepsFrom yX12_keepsFrom, Cond.code yX12_keepsFrom cX12_keepsFrom 5 (some .int), Cond.methodLink RX12 349 yX12_movesFrom, Cond.instanceMethod yX12_movesFrom, Cond.selects RX12 yX12_movesFrom yX12_movesFrom, Cond.code yX12_movesFrom cX12_movesFrom 5 (some .int), Cond.methodLink RX12 352 yX12_tellsFrom, Cond.instanceMethod yX12_tellsFrom, Cond.selects RX12 yX12_tellsFrom yX12_tellsFrom, Cond.code yX12_tellsFrom cX12_tellsFrom 5 (some .int)]
noncomputable def wsX12_act : List Cond := Cond.code yX12_act cX12_act 5 (some .int) :: ((wsX12_act_r1 ++ wsX12_act_r2) ++ wsX120)
set_option maxRecDepth 20000 in
theorem gw_wsX12_act : wsX12_act.all goodWord = true := by decide +kernel
noncomputable def wsX12_trace : List Cond := Cond.code yX12_trace cX12_trace 2 (some .int) :: ([Cond.fieldLink RX12 334 "SeatsRoundModel" "bodies" "I", Cond.fieldLink RX12 99 "SeatsRoundModel" "trace" "[I"] ++ wsX120)
set_option maxRecDepth 20000 in
theorem gw_wsX12_trace : wsX12_trace.all goodWord = true := by decide +kernel
noncomputable def wsX12_isShelf : List Cond := Cond.code yX12_isShelf cX12_isShelf 1 (some .boolean) :: ([Cond.methodLink RX12 136 yX12_in, Cond.static yX12_in, Cond.initialized RX12, Cond.code yX12_in cX12_in 3 (some .boolean)])
set_option maxRecDepth 20000 in
theorem gw_wsX12_isShelf : wsX12_isShelf.all goodWord = true := by decide +kernel
noncomputable def wsX12_keep : List Cond := Cond.code yX12_keep cX12_keep 3 (some .int) :: ([Cond.fieldLink RX12 102 "SeatsRoundModel" "shelfIs" "[I", Cond.fieldLink RX12 105 "SeatsRoundModel" "shelfSort" "[I", Cond.methodLink RX12 355 yX12_isShelf, Cond.static yX12_isShelf, Cond.initialized RX12, Cond.code yX12_isShelf cX12_isShelf 1 (some .boolean), Cond.methodLink RX12 136 yX12_in, Cond.static yX12_in, Cond.code yX12_in cX12_in 3 (some .boolean), Cond.methodLink RX12 166 yX12_isKeeper, Cond.instanceMethod yX12_isKeeper, Cond.selects RX12 yX12_isKeeper yX12_isKeeper, Cond.code yX12_isKeeper cX12_isKeeper 2 (some .boolean), Cond.fieldLink RX12 140 "SeatsRoundModel" "keepers" "I"] ++ wsX120)
set_option maxRecDepth 20000 in
theorem gw_wsX12_keep : wsX12_keep.all goodWord = true := by decide +kernel
noncomputable def wsX12_row : List Cond := Cond.code yX12_row cX12_row 5 (some .int) :: ([Cond.fieldLink RX12 102 "SeatsRoundModel" "shelfIs" "[I", Cond.fieldLink RX12 105 "SeatsRoundModel" "shelfSort" "[I", Cond.fieldLink RX12 108 "SeatsRoundModel" "shelfSize" "[I", Cond.fieldLink RX12 111 "SeatsRoundModel" "elements" "[J", Cond.methodLink RX12 355 yX12_isShelf, Cond.static yX12_isShelf, Cond.initialized RX12, Cond.code yX12_isShelf cX12_isShelf 1 (some .boolean), Cond.methodLink RX12 136 yX12_in, Cond.static yX12_in, Cond.code yX12_in cX12_in 3 (some .boolean)] ++ wsX120)
set_option maxRecDepth 20000 in
theorem gw_wsX12_row : wsX12_row.all goodWord = true := by decide +kernel
noncomputable def wsX12_barred : List Cond := Cond.code yX12_barred cX12_barred 3 (some .int) :: ([Cond.fieldLink RX12 105 "SeatsRoundModel" "shelfSort" "[I", Cond.fieldLink RX12 102 "SeatsRoundModel" "shelfIs" "[I", Cond.fieldLink RX12 108 "SeatsRoundModel" "shelfSize" "[I", Cond.methodLink RX12 355 yX12_isShelf, Cond.static yX12_isShelf, Cond.initialized RX12, Cond.code yX12_isShelf cX12_isShelf 1 (some .boolean), Cond.methodLink RX12 136 yX12_in, Cond.static yX12_in, Cond.code yX12_in cX12_in 3 (some .boolean)] ++ wsX120)
set_option maxRecDepth 20000 in
theorem gw_wsX12_barred : wsX12_barred.all goodWord = true := by decide +kernel
noncomputable def wsX12_put : List Cond := Cond.code yX12_put cX12_put 7 (some .int) :: ([Cond.fieldLink RX12 105 "SeatsRoundModel" "shelfSort" "[I", Cond.fieldLink RX12 111 "SeatsRoundModel" "elements" "[J", Cond.methodLink RX12 358 yX12_barred, Cond.instanceMethod yX12_barred, Cond.selects RX12 yX12_barred yX12_barred, Cond.initialized RX12, Cond.code yX12_barred cX12_barred 3 (some .int), Cond.fieldLink RX12 102 "SeatsRoundModel" "shelfIs" "[I", Cond.fieldLink RX12 108 "SeatsRoundModel" "shelfSize" "[I", Cond.methodLink RX12 355 yX12_isShelf, Cond.static yX12_isShelf, Cond.code yX12_isShelf cX12_isShelf 1 (some .boolean), Cond.methodLink RX12 136 yX12_in, Cond.static yX12_in, Cond.code yX12_in cX12_in 3 (some .boolean)] ++ wsX120)
set_option maxRecDepth 20000 in
theorem gw_wsX12_put : wsX12_put.all goodWord = true := by decide +kernel
noncomputable def wsX12_element : List Cond := Cond.code yX12_element cX12_element 3 (some .long) :: ([Cond.constantLong RX12 361 (-9223372036854775808), Cond.fieldLink RX12 111 "SeatsRoundModel" "elements" "[J", Cond.methodLink RX12 358 yX12_barred, Cond.instanceMethod yX12_barred, Cond.selects RX12 yX12_barred yX12_barred, Cond.initialized RX12, Cond.code yX12_barred cX12_barred 3 (some .int), Cond.fieldLink RX12 105 "SeatsRoundModel" "shelfSort" "[I", Cond.fieldLink RX12 102 "SeatsRoundModel" "shelfIs" "[I", Cond.fieldLink RX12 108 "SeatsRoundModel" "shelfSize" "[I", Cond.methodLink RX12 355 yX12_isShelf, Cond.static yX12_isShelf, Cond.code yX12_isShelf cX12_isShelf 1 (some .boolean), Cond.methodLink RX12 136 yX12_in, Cond.static yX12_in, Cond.code yX12_in cX12_in 3 (some .boolean)] ++ wsX120)
set_option maxRecDepth 20000 in
theorem gw_wsX12_element : wsX12_element.all goodWord = true := by decide +kernel
noncomputable def wsX12_shift : List Cond := Cond.code yX12_shift cX12_shift 10 (some .int) :: ([Cond.fieldLink RX12 105 "SeatsRoundModel" "shelfSort" "[I", Cond.fieldLink RX12 102 "SeatsRoundModel" "shelfIs" "[I", Cond.fieldLink RX12 108 "SeatsRoundModel" "shelfSize" "[I", Cond.fieldLink RX12 111 "SeatsRoundModel" "elements" "[J", Cond.methodLink RX12 355 yX12_isShelf, Cond.static yX12_isShelf, Cond.initialized RX12, Cond.code yX12_isShelf cX12_isShelf 1 (some .boolean), Cond.methodLink RX12 136 yX12_in, Cond.static yX12_in, Cond.code yX12_in cX12_in 3 (some .boolean)] ++ wsX120)
set_option maxRecDepth 20000 in
theorem gw_wsX12_shift : wsX12_shift.all goodWord = true := by decide +kernel
noncomputable def wsX12_taken : List Cond := Cond.code yX12_taken cX12_taken 4 (some .int) :: ([Cond.fieldLink RX12 105 "SeatsRoundModel" "shelfSort" "[I", Cond.fieldLink RX12 102 "SeatsRoundModel" "shelfIs" "[I", Cond.fieldLink RX12 22 "SeatsRoundModel" "kind" "[I", Cond.methodLink RX12 355 yX12_isShelf, Cond.static yX12_isShelf, Cond.initialized RX12, Cond.code yX12_isShelf cX12_isShelf 1 (some .boolean), Cond.methodLink RX12 136 yX12_in, Cond.static yX12_in, Cond.code yX12_in cX12_in 3 (some .boolean)] ++ wsX120)
set_option maxRecDepth 20000 in
theorem gw_wsX12_taken : wsX12_taken.all goodWord = true := by decide +kernel
noncomputable def wsX12_names : List Cond := Cond.code yX12_names cX12_names 11 (some .int) :: ([Cond.fieldLink RX12 102 "SeatsRoundModel" "shelfIs" "[I", Cond.fieldLink RX12 105 "SeatsRoundModel" "shelfSort" "[I", Cond.fieldLink RX12 108 "SeatsRoundModel" "shelfSize" "[I", Cond.fieldLink RX12 111 "SeatsRoundModel" "elements" "[J", Cond.fieldLink RX12 115 "SeatsRoundModel" "told" "[I", Cond.fieldLink RX12 133 "SeatsRoundModel" "names" "I", Cond.methodLink RX12 355 yX12_isShelf, Cond.static yX12_isShelf, Cond.initialized RX12, Cond.code yX12_isShelf cX12_isShelf 1 (some .boolean), Cond.methodLink RX12 136 yX12_in, Cond.static yX12_in, Cond.code yX12_in cX12_in 3 (some .boolean), Cond.methodLink RX12 149 yX12_found, Cond.instanceMethod yX12_found, Cond.selects RX12 yX12_found yX12_found, Cond.code yX12_found cX12_found 5 (some .int), Cond.fieldLink RX12 7 "SeatsRoundModel" "nameSize" "[I", Cond.fieldLink RX12 13 "SeatsRoundModel" "nameByte" "[I", Cond.methodLink RX12 153 yX12_comesName, Cond.instanceMethod yX12_comesName, Cond.selects RX12 yX12_comesName yX12_comesName, Cond.code yX12_comesName cX12_comesName 3 none] ++ wsX120)
set_option maxRecDepth 20000 in
theorem gw_wsX12_names : wsX12_names.all goodWord = true := by decide +kernel
noncomputable def wsX12_count : List Cond := Cond.code yX12_count cX12_count 4 (some .int) :: ([Cond.fieldLink RX12 133 "SeatsRoundModel" "names" "I", Cond.fieldLink RX12 140 "SeatsRoundModel" "keepers" "I", Cond.fieldLink RX12 143 "SeatsRoundModel" "tables" "I", Cond.fieldLink RX12 146 "SeatsRoundModel" "taped" "I", Cond.fieldLink RX12 290 "SeatsRoundModel" "writings" "I", Cond.fieldLink RX12 334 "SeatsRoundModel" "bodies" "I", Cond.methodLink RX12 173 yX12_many, Cond.instanceMethod yX12_many, Cond.selects RX12 yX12_many yX12_many, Cond.initialized RX12, Cond.code yX12_many cX12_many 5 (some .int), Cond.fieldLink RX12 68 "SeatsRoundModel" "version" "[I", Cond.fieldLink RX12 71 "SeatsRoundModel" "kept" "[I"] ++ wsX120)
set_option maxRecDepth 20000 in
theorem gw_wsX12_count : wsX12_count.all goodWord = true := by decide +kernel
noncomputable def NX0_init : Nat := 20506508865520949026436272567893393811176787158130159375946170814692420957026090
theorem nX0_init : CN cX0_init NX0_init 33 := ⟨by decide +kernel, by decide +kernel⟩
theorem dX0_init_0 : decode cX0_init 0 = .ok (.aload_n 0, 1) := di_42 nX0_init (Eq.refl true) (Eq.refl true)
theorem dX0_init_1 : decode cX0_init 1 = .ok (.invokespecial 3, 3) := di_183 nX0_init (Eq.refl true) (Eq.refl true) (Eq.refl true)
theorem dX0_init_4 : decode cX0_init 4 = .ok (.aload_n 0, 1) := di_42 nX0_init (Eq.refl true) (Eq.refl true)
theorem dX0_init_5 : decode cX0_init 5 = .ok (.bipush 24, 2) := di_16 (x := 24) nX0_init (Eq.refl true) (Eq.refl true) rfl
theorem dX0_init_7 : decode cX0_init 7 = .ok (.newarray .int, 2) := by decide +kernel
theorem dX0_init_9 : decode cX0_init 9 = .ok (.putfield 9, 3) := di_181 nX0_init (Eq.refl true) (Eq.refl true) (Eq.refl true)
theorem dX0_init_12 : decode cX0_init 12 = .ok (.aload_n 0, 1) := di_42 nX0_init (Eq.refl true) (Eq.refl true)
theorem dX0_init_13 : decode cX0_init 13 = .ok (.iconst 0, 1) := di_3 nX0_init (Eq.refl true) (Eq.refl true)
theorem dX0_init_14 : decode cX0_init 14 = .ok (.putfield 15, 3) := di_181 nX0_init (Eq.refl true) (Eq.refl true) (Eq.refl true)
theorem dX0_init_17 : decode cX0_init 17 = .ok (.aload_n 0, 1) := di_42 nX0_init (Eq.refl true) (Eq.refl true)
theorem dX0_init_18 : decode cX0_init 18 = .ok (.iconst 0, 1) := di_3 nX0_init (Eq.refl true) (Eq.refl true)
theorem dX0_init_19 : decode cX0_init 19 = .ok (.putfield 19, 3) := di_181 nX0_init (Eq.refl true) (Eq.refl true) (Eq.refl true)
theorem dX0_init_22 : decode cX0_init 22 = .ok (.aload_n 0, 1) := di_42 nX0_init (Eq.refl true) (Eq.refl true)
theorem dX0_init_23 : decode cX0_init 23 = .ok (.iconst 0, 1) := di_3 nX0_init (Eq.refl true) (Eq.refl true)
theorem dX0_init_24 : decode cX0_init 24 = .ok (.putfield 22, 3) := di_181 nX0_init (Eq.refl true) (Eq.refl true) (Eq.refl true)
theorem dX0_init_27 : decode cX0_init 27 = .ok (.aload_n 0, 1) := di_42 nX0_init (Eq.refl true) (Eq.refl true)
theorem dX0_init_28 : decode cX0_init 28 = .ok (.iconst 0, 1) := di_3 nX0_init (Eq.refl true) (Eq.refl true)
theorem dX0_init_29 : decode cX0_init 29 = .ok (.putfield 25, 3) := di_181 nX0_init (Eq.refl true) (Eq.refl true) (Eq.refl true)
theorem dX0_init_32 : decode cX0_init 32 = .ok (.return_, 1) := di_177 nX0_init (Eq.refl true) (Eq.refl true)
noncomputable def NX1_init : Nat := 8438121297245274374459953184289693250978014824935949695621751681115181850438967694427808300397898686375783758273939127053041358621424192894762
theorem nX1_init : CN cX1_init NX1_init 59 := ⟨by decide +kernel, by decide +kernel⟩
theorem dX1_init_0 : decode cX1_init 0 = .ok (.aload_n 0, 1) := di_42 nX1_init (Eq.refl true) (Eq.refl true)
theorem dX1_init_1 : decode cX1_init 1 = .ok (.invokespecial 3, 3) := di_183 nX1_init (Eq.refl true) (Eq.refl true) (Eq.refl true)
theorem dX1_init_4 : decode cX1_init 4 = .ok (.aload_n 0, 1) := di_42 nX1_init (Eq.refl true) (Eq.refl true)
theorem dX1_init_5 : decode cX1_init 5 = .ok (.bipush 12, 2) := di_16 (x := 12) nX1_init (Eq.refl true) (Eq.refl true) rfl
theorem dX1_init_7 : decode cX1_init 7 = .ok (.newarray .int, 2) := by decide +kernel
theorem dX1_init_9 : decode cX1_init 9 = .ok (.putfield 9, 3) := di_181 nX1_init (Eq.refl true) (Eq.refl true) (Eq.refl true)
theorem dX1_init_12 : decode cX1_init 12 = .ok (.aload_n 0, 1) := di_42 nX1_init (Eq.refl true) (Eq.refl true)
theorem dX1_init_13 : decode cX1_init 13 = .ok (.bipush 12, 2) := di_16 (x := 12) nX1_init (Eq.refl true) (Eq.refl true) rfl
theorem dX1_init_15 : decode cX1_init 15 = .ok (.newarray .int, 2) := by decide +kernel
theorem dX1_init_17 : decode cX1_init 17 = .ok (.putfield 15, 3) := di_181 nX1_init (Eq.refl true) (Eq.refl true) (Eq.refl true)
theorem dX1_init_20 : decode cX1_init 20 = .ok (.aload_n 0, 1) := di_42 nX1_init (Eq.refl true) (Eq.refl true)
theorem dX1_init_21 : decode cX1_init 21 = .ok (.iconst 0, 1) := di_3 nX1_init (Eq.refl true) (Eq.refl true)
theorem dX1_init_22 : decode cX1_init 22 = .ok (.putfield 18, 3) := di_181 nX1_init (Eq.refl true) (Eq.refl true) (Eq.refl true)
theorem dX1_init_25 : decode cX1_init 25 = .ok (.aload_n 0, 1) := di_42 nX1_init (Eq.refl true) (Eq.refl true)
theorem dX1_init_26 : decode cX1_init 26 = .ok (.iconst 0, 1) := di_3 nX1_init (Eq.refl true) (Eq.refl true)
theorem dX1_init_27 : decode cX1_init 27 = .ok (.putfield 22, 3) := di_181 nX1_init (Eq.refl true) (Eq.refl true) (Eq.refl true)
theorem dX1_init_30 : decode cX1_init 30 = .ok (.aload_n 0, 1) := di_42 nX1_init (Eq.refl true) (Eq.refl true)
theorem dX1_init_31 : decode cX1_init 31 = .ok (.iconst 0, 1) := di_3 nX1_init (Eq.refl true) (Eq.refl true)
theorem dX1_init_32 : decode cX1_init 32 = .ok (.putfield 25, 3) := di_181 nX1_init (Eq.refl true) (Eq.refl true) (Eq.refl true)
theorem dX1_init_35 : decode cX1_init 35 = .ok (.aload_n 0, 1) := di_42 nX1_init (Eq.refl true) (Eq.refl true)
theorem dX1_init_36 : decode cX1_init 36 = .ok (.iconst 0, 1) := di_3 nX1_init (Eq.refl true) (Eq.refl true)
theorem dX1_init_37 : decode cX1_init 37 = .ok (.putfield 28, 3) := di_181 nX1_init (Eq.refl true) (Eq.refl true) (Eq.refl true)
theorem dX1_init_40 : decode cX1_init 40 = .ok (.aload_n 0, 1) := di_42 nX1_init (Eq.refl true) (Eq.refl true)
theorem dX1_init_41 : decode cX1_init 41 = .ok (.iconst 0, 1) := di_3 nX1_init (Eq.refl true) (Eq.refl true)
theorem dX1_init_42 : decode cX1_init 42 = .ok (.putfield 31, 3) := di_181 nX1_init (Eq.refl true) (Eq.refl true) (Eq.refl true)
theorem dX1_init_45 : decode cX1_init 45 = .ok (.aload_n 0, 1) := di_42 nX1_init (Eq.refl true) (Eq.refl true)
theorem dX1_init_46 : decode cX1_init 46 = .ok (.bipush 12, 2) := di_16 (x := 12) nX1_init (Eq.refl true) (Eq.refl true) rfl
theorem dX1_init_48 : decode cX1_init 48 = .ok (.newarray .int, 2) := by decide +kernel
theorem dX1_init_50 : decode cX1_init 50 = .ok (.putfield 34, 3) := di_181 nX1_init (Eq.refl true) (Eq.refl true) (Eq.refl true)
theorem dX1_init_53 : decode cX1_init 53 = .ok (.aload_n 0, 1) := di_42 nX1_init (Eq.refl true) (Eq.refl true)
theorem dX1_init_54 : decode cX1_init 54 = .ok (.aload_n 1, 1) := di_43 nX1_init (Eq.refl true) (Eq.refl true)
theorem dX1_init_55 : decode cX1_init 55 = .ok (.putfield 37, 3) := di_181 nX1_init (Eq.refl true) (Eq.refl true) (Eq.refl true)
theorem dX1_init_58 : decode cX1_init 58 = .ok (.return_, 1) := di_177 nX1_init (Eq.refl true) (Eq.refl true)
noncomputable def NX2_init : Nat := 1786487069774026598569840161855143645958075791334289070878860294327706490802945292163261253333527351039371693426810599210
theorem nX2_init : CN cX2_init NX2_init 50 := ⟨by decide +kernel, by decide +kernel⟩
theorem dX2_init_0 : decode cX2_init 0 = .ok (.aload_n 0, 1) := di_42 nX2_init (Eq.refl true) (Eq.refl true)
theorem dX2_init_1 : decode cX2_init 1 = .ok (.invokespecial 3, 3) := di_183 nX2_init (Eq.refl true) (Eq.refl true) (Eq.refl true)
theorem dX2_init_4 : decode cX2_init 4 = .ok (.aload_n 0, 1) := di_42 nX2_init (Eq.refl true) (Eq.refl true)
theorem dX2_init_5 : decode cX2_init 5 = .ok (.bipush 12, 2) := di_16 (x := 12) nX2_init (Eq.refl true) (Eq.refl true) rfl
theorem dX2_init_7 : decode cX2_init 7 = .ok (.newarray .int, 2) := by decide +kernel
theorem dX2_init_9 : decode cX2_init 9 = .ok (.putfield 9, 3) := di_181 nX2_init (Eq.refl true) (Eq.refl true) (Eq.refl true)
theorem dX2_init_12 : decode cX2_init 12 = .ok (.aload_n 0, 1) := di_42 nX2_init (Eq.refl true) (Eq.refl true)
theorem dX2_init_13 : decode cX2_init 13 = .ok (.bipush 12, 2) := di_16 (x := 12) nX2_init (Eq.refl true) (Eq.refl true) rfl
theorem dX2_init_15 : decode cX2_init 15 = .ok (.newarray .int, 2) := by decide +kernel
theorem dX2_init_17 : decode cX2_init 17 = .ok (.putfield 15, 3) := di_181 nX2_init (Eq.refl true) (Eq.refl true) (Eq.refl true)
theorem dX2_init_20 : decode cX2_init 20 = .ok (.aload_n 0, 1) := di_42 nX2_init (Eq.refl true) (Eq.refl true)
theorem dX2_init_21 : decode cX2_init 21 = .ok (.bipush 12, 2) := di_16 (x := 12) nX2_init (Eq.refl true) (Eq.refl true) rfl
theorem dX2_init_23 : decode cX2_init 23 = .ok (.newarray .int, 2) := by decide +kernel
theorem dX2_init_25 : decode cX2_init 25 = .ok (.putfield 18, 3) := di_181 nX2_init (Eq.refl true) (Eq.refl true) (Eq.refl true)
theorem dX2_init_28 : decode cX2_init 28 = .ok (.aload_n 0, 1) := di_42 nX2_init (Eq.refl true) (Eq.refl true)
theorem dX2_init_29 : decode cX2_init 29 = .ok (.bipush 12, 2) := di_16 (x := 12) nX2_init (Eq.refl true) (Eq.refl true) rfl
theorem dX2_init_31 : decode cX2_init 31 = .ok (.newarray .int, 2) := by decide +kernel
theorem dX2_init_33 : decode cX2_init 33 = .ok (.putfield 21, 3) := di_181 nX2_init (Eq.refl true) (Eq.refl true) (Eq.refl true)
theorem dX2_init_36 : decode cX2_init 36 = .ok (.aload_n 0, 1) := di_42 nX2_init (Eq.refl true) (Eq.refl true)
theorem dX2_init_37 : decode cX2_init 37 = .ok (.bipush 12, 2) := di_16 (x := 12) nX2_init (Eq.refl true) (Eq.refl true) rfl
theorem dX2_init_39 : decode cX2_init 39 = .ok (.newarray .boolean, 2) := by decide +kernel
theorem dX2_init_41 : decode cX2_init 41 = .ok (.putfield 24, 3) := di_181 nX2_init (Eq.refl true) (Eq.refl true) (Eq.refl true)
theorem dX2_init_44 : decode cX2_init 44 = .ok (.aload_n 0, 1) := di_42 nX2_init (Eq.refl true) (Eq.refl true)
theorem dX2_init_45 : decode cX2_init 45 = .ok (.iconst 0, 1) := di_3 nX2_init (Eq.refl true) (Eq.refl true)
theorem dX2_init_46 : decode cX2_init 46 = .ok (.putfield 28, 3) := di_181 nX2_init (Eq.refl true) (Eq.refl true) (Eq.refl true)
theorem dX2_init_49 : decode cX2_init 49 = .ok (.return_, 1) := di_177 nX2_init (Eq.refl true) (Eq.refl true)
noncomputable def NX2_has : Nat := 14984339347662989861893687150821938431040283
theorem nX2_has : CN cX2_has NX2_has 18 := ⟨by decide +kernel, by decide +kernel⟩
theorem dX2_has_0 : decode cX2_has 0 = .ok (.iload_n 1, 1) := di_27 nX2_has (Eq.refl true) (Eq.refl true)
theorem dX2_has_1 : decode cX2_has 1 = .ok (.ifCond .lt 15, 3) := di_155 (x := 15) nX2_has (Eq.refl true) (Eq.refl true) (Eq.refl true) rfl
theorem dX2_has_4 : decode cX2_has 4 = .ok (.iload_n 1, 1) := di_27 nX2_has (Eq.refl true) (Eq.refl true)
theorem dX2_has_5 : decode cX2_has 5 = .ok (.aload_n 0, 1) := di_42 nX2_has (Eq.refl true) (Eq.refl true)
theorem dX2_has_6 : decode cX2_has 6 = .ok (.getfield 28, 3) := di_180 nX2_has (Eq.refl true) (Eq.refl true) (Eq.refl true)
theorem dX2_has_9 : decode cX2_has 9 = .ok (.if_icmp .ge 7, 3) := di_162 (x := 7) nX2_has (Eq.refl true) (Eq.refl true) (Eq.refl true) rfl
theorem dX2_has_16 : decode cX2_has 16 = .ok (.iconst 0, 1) := di_3 nX2_has (Eq.refl true) (Eq.refl true)
theorem dX2_has_17 : decode cX2_has 17 = .ok (.ireturn, 1) := di_172 nX2_has (Eq.refl true) (Eq.refl true)
noncomputable def NX2_add : Nat := 125300227531399552538337399880231047035491097783700903339064617571627013480601922403258219817814866468039604972766195830035664013113734186
theorem nX2_add : CN cX2_add NX2_add 57 := ⟨by decide +kernel, by decide +kernel⟩
theorem dX2_add_0 : decode cX2_add 0 = .ok (.aload_n 0, 1) := di_42 nX2_add (Eq.refl true) (Eq.refl true)
theorem dX2_add_1 : decode cX2_add 1 = .ok (.getfield 9, 3) := di_180 nX2_add (Eq.refl true) (Eq.refl true) (Eq.refl true)
theorem dX2_add_4 : decode cX2_add 4 = .ok (.aload_n 0, 1) := di_42 nX2_add (Eq.refl true) (Eq.refl true)
theorem dX2_add_5 : decode cX2_add 5 = .ok (.getfield 28, 3) := di_180 nX2_add (Eq.refl true) (Eq.refl true) (Eq.refl true)
theorem dX2_add_8 : decode cX2_add 8 = .ok (.iconst 0, 1) := di_3 nX2_add (Eq.refl true) (Eq.refl true)
theorem dX2_add_9 : decode cX2_add 9 = .ok (.iastore, 1) := di_79 nX2_add (Eq.refl true) (Eq.refl true)
theorem dX2_add_10 : decode cX2_add 10 = .ok (.aload_n 0, 1) := di_42 nX2_add (Eq.refl true) (Eq.refl true)
theorem dX2_add_11 : decode cX2_add 11 = .ok (.getfield 15, 3) := di_180 nX2_add (Eq.refl true) (Eq.refl true) (Eq.refl true)
theorem dX2_add_14 : decode cX2_add 14 = .ok (.aload_n 0, 1) := di_42 nX2_add (Eq.refl true) (Eq.refl true)
theorem dX2_add_15 : decode cX2_add 15 = .ok (.getfield 28, 3) := di_180 nX2_add (Eq.refl true) (Eq.refl true) (Eq.refl true)
theorem dX2_add_18 : decode cX2_add 18 = .ok (.iload_n 1, 1) := di_27 nX2_add (Eq.refl true) (Eq.refl true)
theorem dX2_add_19 : decode cX2_add 19 = .ok (.iastore, 1) := di_79 nX2_add (Eq.refl true) (Eq.refl true)
theorem dX2_add_20 : decode cX2_add 20 = .ok (.aload_n 0, 1) := di_42 nX2_add (Eq.refl true) (Eq.refl true)
theorem dX2_add_21 : decode cX2_add 21 = .ok (.getfield 18, 3) := di_180 nX2_add (Eq.refl true) (Eq.refl true) (Eq.refl true)
theorem dX2_add_24 : decode cX2_add 24 = .ok (.aload_n 0, 1) := di_42 nX2_add (Eq.refl true) (Eq.refl true)
theorem dX2_add_25 : decode cX2_add 25 = .ok (.getfield 28, 3) := di_180 nX2_add (Eq.refl true) (Eq.refl true) (Eq.refl true)
theorem dX2_add_28 : decode cX2_add 28 = .ok (.iload_n 2, 1) := di_28 nX2_add (Eq.refl true) (Eq.refl true)
theorem dX2_add_29 : decode cX2_add 29 = .ok (.iastore, 1) := di_79 nX2_add (Eq.refl true) (Eq.refl true)
theorem dX2_add_30 : decode cX2_add 30 = .ok (.aload_n 0, 1) := di_42 nX2_add (Eq.refl true) (Eq.refl true)
theorem dX2_add_31 : decode cX2_add 31 = .ok (.getfield 21, 3) := di_180 nX2_add (Eq.refl true) (Eq.refl true) (Eq.refl true)
theorem dX2_add_34 : decode cX2_add 34 = .ok (.aload_n 0, 1) := di_42 nX2_add (Eq.refl true) (Eq.refl true)
theorem dX2_add_35 : decode cX2_add 35 = .ok (.getfield 28, 3) := di_180 nX2_add (Eq.refl true) (Eq.refl true) (Eq.refl true)
theorem dX2_add_38 : decode cX2_add 38 = .ok (.iconst (-1), 1) := di_2 nX2_add (Eq.refl true) (Eq.refl true)
theorem dX2_add_39 : decode cX2_add 39 = .ok (.iastore, 1) := di_79 nX2_add (Eq.refl true) (Eq.refl true)
theorem dX2_add_40 : decode cX2_add 40 = .ok (.aload_n 0, 1) := di_42 nX2_add (Eq.refl true) (Eq.refl true)
theorem dX2_add_41 : decode cX2_add 41 = .ok (.dup, 1) := di_89 nX2_add (Eq.refl true) (Eq.refl true)
theorem dX2_add_42 : decode cX2_add 42 = .ok (.getfield 28, 3) := di_180 nX2_add (Eq.refl true) (Eq.refl true) (Eq.refl true)
theorem dX2_add_45 : decode cX2_add 45 = .ok (.iconst 1, 1) := di_4 nX2_add (Eq.refl true) (Eq.refl true)
theorem dX2_add_46 : decode cX2_add 46 = .ok (.iadd, 1) := di_96 nX2_add (Eq.refl true) (Eq.refl true)
theorem dX2_add_47 : decode cX2_add 47 = .ok (.putfield 28, 3) := di_181 nX2_add (Eq.refl true) (Eq.refl true) (Eq.refl true)
theorem dX2_add_50 : decode cX2_add 50 = .ok (.aload_n 0, 1) := di_42 nX2_add (Eq.refl true) (Eq.refl true)
theorem dX2_add_51 : decode cX2_add 51 = .ok (.getfield 28, 3) := di_180 nX2_add (Eq.refl true) (Eq.refl true) (Eq.refl true)
theorem dX2_add_54 : decode cX2_add 54 = .ok (.iconst 1, 1) := di_4 nX2_add (Eq.refl true) (Eq.refl true)
theorem dX2_add_55 : decode cX2_add 55 = .ok (.isub, 1) := di_100 nX2_add (Eq.refl true) (Eq.refl true)
theorem dX2_add_56 : decode cX2_add 56 = .ok (.ireturn, 1) := di_172 nX2_add (Eq.refl true) (Eq.refl true)
noncomputable def NX3_init : Nat := 106497018445205999392063713452946365640255002137061071372570151164255176704706702580235056004351519296691105740586
theorem nX3_init : CN cX3_init NX3_init 47 := ⟨by decide +kernel, by decide +kernel⟩
theorem dX3_init_0 : decode cX3_init 0 = .ok (.aload_n 0, 1) := di_42 nX3_init (Eq.refl true) (Eq.refl true)
theorem dX3_init_1 : decode cX3_init 1 = .ok (.invokespecial 3, 3) := di_183 nX3_init (Eq.refl true) (Eq.refl true) (Eq.refl true)
theorem dX3_init_4 : decode cX3_init 4 = .ok (.aload_n 0, 1) := di_42 nX3_init (Eq.refl true) (Eq.refl true)
theorem dX3_init_5 : decode cX3_init 5 = .ok (.iconst 0, 1) := di_3 nX3_init (Eq.refl true) (Eq.refl true)
theorem dX3_init_6 : decode cX3_init 6 = .ok (.newarray .byte, 2) := by decide +kernel
theorem dX3_init_8 : decode cX3_init 8 = .ok (.putfield 9, 3) := di_181 nX3_init (Eq.refl true) (Eq.refl true) (Eq.refl true)
theorem dX3_init_11 : decode cX3_init 11 = .ok (.aload_n 0, 1) := di_42 nX3_init (Eq.refl true) (Eq.refl true)
theorem dX3_init_12 : decode cX3_init 12 = .ok (.iconst 0, 1) := di_3 nX3_init (Eq.refl true) (Eq.refl true)
theorem dX3_init_13 : decode cX3_init 13 = .ok (.putfield 15, 3) := di_181 nX3_init (Eq.refl true) (Eq.refl true) (Eq.refl true)
theorem dX3_init_16 : decode cX3_init 16 = .ok (.aload_n 0, 1) := di_42 nX3_init (Eq.refl true) (Eq.refl true)
theorem dX3_init_17 : decode cX3_init 17 = .ok (.iconst 0, 1) := di_3 nX3_init (Eq.refl true) (Eq.refl true)
theorem dX3_init_18 : decode cX3_init 18 = .ok (.putfield 19, 3) := di_181 nX3_init (Eq.refl true) (Eq.refl true) (Eq.refl true)
theorem dX3_init_21 : decode cX3_init 21 = .ok (.aload_n 0, 1) := di_42 nX3_init (Eq.refl true) (Eq.refl true)
theorem dX3_init_22 : decode cX3_init 22 = .ok (.iconst (-1), 1) := di_2 nX3_init (Eq.refl true) (Eq.refl true)
theorem dX3_init_23 : decode cX3_init 23 = .ok (.putfield 22, 3) := di_181 nX3_init (Eq.refl true) (Eq.refl true) (Eq.refl true)
theorem dX3_init_26 : decode cX3_init 26 = .ok (.aload_n 0, 1) := di_42 nX3_init (Eq.refl true) (Eq.refl true)
theorem dX3_init_27 : decode cX3_init 27 = .ok (.iconst 0, 1) := di_3 nX3_init (Eq.refl true) (Eq.refl true)
theorem dX3_init_28 : decode cX3_init 28 = .ok (.putfield 25, 3) := di_181 nX3_init (Eq.refl true) (Eq.refl true) (Eq.refl true)
theorem dX3_init_31 : decode cX3_init 31 = .ok (.aload_n 0, 1) := di_42 nX3_init (Eq.refl true) (Eq.refl true)
theorem dX3_init_32 : decode cX3_init 32 = .ok (.iconst 0, 1) := di_3 nX3_init (Eq.refl true) (Eq.refl true)
theorem dX3_init_33 : decode cX3_init 33 = .ok (.putfield 28, 3) := di_181 nX3_init (Eq.refl true) (Eq.refl true) (Eq.refl true)
theorem dX3_init_36 : decode cX3_init 36 = .ok (.aload_n 0, 1) := di_42 nX3_init (Eq.refl true) (Eq.refl true)
theorem dX3_init_37 : decode cX3_init 37 = .ok (.iconst 0, 1) := di_3 nX3_init (Eq.refl true) (Eq.refl true)
theorem dX3_init_38 : decode cX3_init 38 = .ok (.putfield 31, 3) := di_181 nX3_init (Eq.refl true) (Eq.refl true) (Eq.refl true)
theorem dX3_init_41 : decode cX3_init 41 = .ok (.aload_n 0, 1) := di_42 nX3_init (Eq.refl true) (Eq.refl true)
theorem dX3_init_42 : decode cX3_init 42 = .ok (.iconst 0, 1) := di_3 nX3_init (Eq.refl true) (Eq.refl true)
theorem dX3_init_43 : decode cX3_init 43 = .ok (.putfield 34, 3) := di_181 nX3_init (Eq.refl true) (Eq.refl true) (Eq.refl true)
theorem dX3_init_46 : decode cX3_init 46 = .ok (.return_, 1) := di_177 nX3_init (Eq.refl true) (Eq.refl true)
noncomputable def NX4_init : Nat := 22546647619495503055017566128678425694695203818416953422476651939645354094545987024478844714
theorem nX4_init : CN cX4_init NX4_init 38 := ⟨by decide +kernel, by decide +kernel⟩
theorem dX4_init_0 : decode cX4_init 0 = .ok (.aload_n 0, 1) := di_42 nX4_init (Eq.refl true) (Eq.refl true)
theorem dX4_init_1 : decode cX4_init 1 = .ok (.invokespecial 3, 3) := di_183 nX4_init (Eq.refl true) (Eq.refl true) (Eq.refl true)
theorem dX4_init_4 : decode cX4_init 4 = .ok (.aload_n 0, 1) := di_42 nX4_init (Eq.refl true) (Eq.refl true)
theorem dX4_init_5 : decode cX4_init 5 = .ok (.bipush 40, 2) := di_16 (x := 40) nX4_init (Eq.refl true) (Eq.refl true) rfl
theorem dX4_init_7 : decode cX4_init 7 = .ok (.bipush 6, 2) := di_16 (x := 6) nX4_init (Eq.refl true) (Eq.refl true) rfl
theorem dX4_init_9 : decode cX4_init 9 = .ok (.multianewarray 9 2, 4) := by decide +kernel
theorem dX4_init_13 : decode cX4_init 13 = .ok (.putfield 11, 3) := di_181 nX4_init (Eq.refl true) (Eq.refl true) (Eq.refl true)
theorem dX4_init_16 : decode cX4_init 16 = .ok (.aload_n 0, 1) := di_42 nX4_init (Eq.refl true) (Eq.refl true)
theorem dX4_init_17 : decode cX4_init 17 = .ok (.bipush 40, 2) := di_16 (x := 40) nX4_init (Eq.refl true) (Eq.refl true) rfl
theorem dX4_init_19 : decode cX4_init 19 = .ok (.newarray .int, 2) := by decide +kernel
theorem dX4_init_21 : decode cX4_init 21 = .ok (.putfield 16, 3) := di_181 nX4_init (Eq.refl true) (Eq.refl true) (Eq.refl true)
theorem dX4_init_24 : decode cX4_init 24 = .ok (.aload_n 0, 1) := di_42 nX4_init (Eq.refl true) (Eq.refl true)
theorem dX4_init_25 : decode cX4_init 25 = .ok (.bipush 6, 2) := di_16 (x := 6) nX4_init (Eq.refl true) (Eq.refl true) rfl
theorem dX4_init_27 : decode cX4_init 27 = .ok (.newarray .byte, 2) := by decide +kernel
theorem dX4_init_29 : decode cX4_init 29 = .ok (.putfield 20, 3) := di_181 nX4_init (Eq.refl true) (Eq.refl true) (Eq.refl true)
theorem dX4_init_32 : decode cX4_init 32 = .ok (.aload_n 0, 1) := di_42 nX4_init (Eq.refl true) (Eq.refl true)
theorem dX4_init_33 : decode cX4_init 33 = .ok (.iconst 0, 1) := di_3 nX4_init (Eq.refl true) (Eq.refl true)
theorem dX4_init_34 : decode cX4_init 34 = .ok (.putfield 24, 3) := di_181 nX4_init (Eq.refl true) (Eq.refl true) (Eq.refl true)
theorem dX4_init_37 : decode cX4_init 37 = .ok (.return_, 1) := di_177 nX4_init (Eq.refl true) (Eq.refl true)
noncomputable def NX4_has : Nat := 14984339347662989861893613363845643592833819
theorem nX4_has : CN cX4_has NX4_has 18 := ⟨by decide +kernel, by decide +kernel⟩
theorem dX4_has_0 : decode cX4_has 0 = .ok (.iload_n 1, 1) := di_27 nX4_has (Eq.refl true) (Eq.refl true)
theorem dX4_has_1 : decode cX4_has 1 = .ok (.ifCond .lt 15, 3) := di_155 (x := 15) nX4_has (Eq.refl true) (Eq.refl true) (Eq.refl true) rfl
theorem dX4_has_4 : decode cX4_has 4 = .ok (.iload_n 1, 1) := di_27 nX4_has (Eq.refl true) (Eq.refl true)
theorem dX4_has_5 : decode cX4_has 5 = .ok (.aload_n 0, 1) := di_42 nX4_has (Eq.refl true) (Eq.refl true)
theorem dX4_has_6 : decode cX4_has 6 = .ok (.getfield 24, 3) := di_180 nX4_has (Eq.refl true) (Eq.refl true) (Eq.refl true)
theorem dX4_has_9 : decode cX4_has 9 = .ok (.if_icmp .ge 7, 3) := di_162 (x := 7) nX4_has (Eq.refl true) (Eq.refl true) (Eq.refl true) rfl
theorem dX4_has_16 : decode cX4_has 16 = .ok (.iconst 0, 1) := di_3 nX4_has (Eq.refl true) (Eq.refl true)
theorem dX4_has_17 : decode cX4_has 17 = .ok (.ireturn, 1) := di_172 nX4_has (Eq.refl true) (Eq.refl true)
noncomputable def NX5_init : Nat := 2611932741190124895221354404431165465823621161128003103883461368230693522309631950296994270443246020340155906133202094817843061134278825552126919549938964208841157293866
theorem nX5_init : CN cX5_init NX5_init 70 := ⟨by decide +kernel, by decide +kernel⟩
theorem dX5_init_0 : decode cX5_init 0 = .ok (.aload_n 0, 1) := di_42 nX5_init (Eq.refl true) (Eq.refl true)
theorem dX5_init_1 : decode cX5_init 1 = .ok (.invokespecial 3, 3) := di_183 nX5_init (Eq.refl true) (Eq.refl true) (Eq.refl true)
theorem dX5_init_4 : decode cX5_init 4 = .ok (.aload_n 0, 1) := di_42 nX5_init (Eq.refl true) (Eq.refl true)
theorem dX5_init_5 : decode cX5_init 5 = .ok (.iconst 5, 1) := di_8 nX5_init (Eq.refl true) (Eq.refl true)
theorem dX5_init_6 : decode cX5_init 6 = .ok (.newarray .int, 2) := by decide +kernel
theorem dX5_init_8 : decode cX5_init 8 = .ok (.putfield 9, 3) := di_181 nX5_init (Eq.refl true) (Eq.refl true) (Eq.refl true)
theorem dX5_init_11 : decode cX5_init 11 = .ok (.aload_n 0, 1) := di_42 nX5_init (Eq.refl true) (Eq.refl true)
theorem dX5_init_12 : decode cX5_init 12 = .ok (.iconst 0, 1) := di_3 nX5_init (Eq.refl true) (Eq.refl true)
theorem dX5_init_13 : decode cX5_init 13 = .ok (.putfield 15, 3) := di_181 nX5_init (Eq.refl true) (Eq.refl true) (Eq.refl true)
theorem dX5_init_16 : decode cX5_init 16 = .ok (.aload_n 0, 1) := di_42 nX5_init (Eq.refl true) (Eq.refl true)
theorem dX5_init_17 : decode cX5_init 17 = .ok (.iconst 5, 1) := di_8 nX5_init (Eq.refl true) (Eq.refl true)
theorem dX5_init_18 : decode cX5_init 18 = .ok (.newarray .int, 2) := by decide +kernel
theorem dX5_init_20 : decode cX5_init 20 = .ok (.putfield 19, 3) := di_181 nX5_init (Eq.refl true) (Eq.refl true) (Eq.refl true)
theorem dX5_init_23 : decode cX5_init 23 = .ok (.aload_n 0, 1) := di_42 nX5_init (Eq.refl true) (Eq.refl true)
theorem dX5_init_24 : decode cX5_init 24 = .ok (.iconst 0, 1) := di_3 nX5_init (Eq.refl true) (Eq.refl true)
theorem dX5_init_25 : decode cX5_init 25 = .ok (.putfield 22, 3) := di_181 nX5_init (Eq.refl true) (Eq.refl true) (Eq.refl true)
theorem dX5_init_28 : decode cX5_init 28 = .ok (.aload_n 0, 1) := di_42 nX5_init (Eq.refl true) (Eq.refl true)
theorem dX5_init_29 : decode cX5_init 29 = .ok (.bipush 32, 2) := di_16 (x := 32) nX5_init (Eq.refl true) (Eq.refl true) rfl
theorem dX5_init_31 : decode cX5_init 31 = .ok (.bipush 40, 2) := di_16 (x := 40) nX5_init (Eq.refl true) (Eq.refl true) rfl
theorem dX5_init_33 : decode cX5_init 33 = .ok (.multianewarray 25 2, 4) := by decide +kernel
theorem dX5_init_37 : decode cX5_init 37 = .ok (.putfield 27, 3) := di_181 nX5_init (Eq.refl true) (Eq.refl true) (Eq.refl true)
theorem dX5_init_40 : decode cX5_init 40 = .ok (.aload_n 0, 1) := di_42 nX5_init (Eq.refl true) (Eq.refl true)
theorem dX5_init_41 : decode cX5_init 41 = .ok (.bipush 32, 2) := di_16 (x := 32) nX5_init (Eq.refl true) (Eq.refl true) rfl
theorem dX5_init_43 : decode cX5_init 43 = .ok (.newarray .int, 2) := by decide +kernel
theorem dX5_init_45 : decode cX5_init 45 = .ok (.putfield 30, 3) := di_181 nX5_init (Eq.refl true) (Eq.refl true) (Eq.refl true)
theorem dX5_init_48 : decode cX5_init 48 = .ok (.aload_n 0, 1) := di_42 nX5_init (Eq.refl true) (Eq.refl true)
theorem dX5_init_49 : decode cX5_init 49 = .ok (.aload_n 1, 1) := di_43 nX5_init (Eq.refl true) (Eq.refl true)
theorem dX5_init_50 : decode cX5_init 50 = .ok (.putfield 33, 3) := di_181 nX5_init (Eq.refl true) (Eq.refl true) (Eq.refl true)
theorem dX5_init_53 : decode cX5_init 53 = .ok (.aload_n 0, 1) := di_42 nX5_init (Eq.refl true) (Eq.refl true)
theorem dX5_init_54 : decode cX5_init 54 = .ok (.aload_n 2, 1) := di_44 nX5_init (Eq.refl true) (Eq.refl true)
theorem dX5_init_55 : decode cX5_init 55 = .ok (.putfield 37, 3) := di_181 nX5_init (Eq.refl true) (Eq.refl true) (Eq.refl true)
theorem dX5_init_58 : decode cX5_init 58 = .ok (.aload_n 0, 1) := di_42 nX5_init (Eq.refl true) (Eq.refl true)
theorem dX5_init_59 : decode cX5_init 59 = .ok (.aload_n 3, 1) := di_45 nX5_init (Eq.refl true) (Eq.refl true)
theorem dX5_init_60 : decode cX5_init 60 = .ok (.putfield 41, 3) := di_181 nX5_init (Eq.refl true) (Eq.refl true) (Eq.refl true)
theorem dX5_init_63 : decode cX5_init 63 = .ok (.aload_n 0, 1) := di_42 nX5_init (Eq.refl true) (Eq.refl true)
theorem dX5_init_64 : decode cX5_init 64 = .ok (.aload 4, 2) := di_25 nX5_init (Eq.refl true) (Eq.refl true)
theorem dX5_init_66 : decode cX5_init 66 = .ok (.putfield 45, 3) := di_181 nX5_init (Eq.refl true) (Eq.refl true) (Eq.refl true)
theorem dX5_init_69 : decode cX5_init 69 = .ok (.return_, 1) := di_177 nX5_init (Eq.refl true) (Eq.refl true)
noncomputable def NX6_init : Nat := 21795583945153005273183985500226759641668438521099502156216522272578488025570806297350393707727291068593296372261154125782076805273990078794718202607710265694532939335409014915904846351111136102244229739647265572038531059659347915345024350163656876887573742532394
theorem nX6_init : CN cX6_init NX6_init 109 := ⟨by decide +kernel, by decide +kernel⟩
theorem dX6_init_0 : decode cX6_init 0 = .ok (.aload_n 0, 1) := di_42 nX6_init (Eq.refl true) (Eq.refl true)
theorem dX6_init_1 : decode cX6_init 1 = .ok (.invokespecial 3, 3) := di_183 nX6_init (Eq.refl true) (Eq.refl true) (Eq.refl true)
theorem dX6_init_4 : decode cX6_init 4 = .ok (.aload_n 0, 1) := di_42 nX6_init (Eq.refl true) (Eq.refl true)
theorem dX6_init_5 : decode cX6_init 5 = .ok (.bipush 12, 2) := di_16 (x := 12) nX6_init (Eq.refl true) (Eq.refl true) rfl
theorem dX6_init_7 : decode cX6_init 7 = .ok (.bipush 40, 2) := di_16 (x := 40) nX6_init (Eq.refl true) (Eq.refl true) rfl
theorem dX6_init_9 : decode cX6_init 9 = .ok (.multianewarray 9 2, 4) := by decide +kernel
theorem dX6_init_13 : decode cX6_init 13 = .ok (.putfield 11, 3) := di_181 nX6_init (Eq.refl true) (Eq.refl true) (Eq.refl true)
theorem dX6_init_16 : decode cX6_init 16 = .ok (.aload_n 0, 1) := di_42 nX6_init (Eq.refl true) (Eq.refl true)
theorem dX6_init_17 : decode cX6_init 17 = .ok (.bipush 12, 2) := di_16 (x := 12) nX6_init (Eq.refl true) (Eq.refl true) rfl
theorem dX6_init_19 : decode cX6_init 19 = .ok (.bipush 40, 2) := di_16 (x := 40) nX6_init (Eq.refl true) (Eq.refl true) rfl
theorem dX6_init_21 : decode cX6_init 21 = .ok (.multianewarray 9 2, 4) := by decide +kernel
theorem dX6_init_25 : decode cX6_init 25 = .ok (.putfield 16, 3) := di_181 nX6_init (Eq.refl true) (Eq.refl true) (Eq.refl true)
theorem dX6_init_28 : decode cX6_init 28 = .ok (.aload_n 0, 1) := di_42 nX6_init (Eq.refl true) (Eq.refl true)
theorem dX6_init_29 : decode cX6_init 29 = .ok (.bipush 12, 2) := di_16 (x := 12) nX6_init (Eq.refl true) (Eq.refl true) rfl
theorem dX6_init_31 : decode cX6_init 31 = .ok (.bipush 40, 2) := di_16 (x := 40) nX6_init (Eq.refl true) (Eq.refl true) rfl
theorem dX6_init_33 : decode cX6_init 33 = .ok (.multianewarray 9 2, 4) := by decide +kernel
theorem dX6_init_37 : decode cX6_init 37 = .ok (.putfield 19, 3) := di_181 nX6_init (Eq.refl true) (Eq.refl true) (Eq.refl true)
theorem dX6_init_40 : decode cX6_init 40 = .ok (.aload_n 0, 1) := di_42 nX6_init (Eq.refl true) (Eq.refl true)
theorem dX6_init_41 : decode cX6_init 41 = .ok (.bipush 12, 2) := di_16 (x := 12) nX6_init (Eq.refl true) (Eq.refl true) rfl
theorem dX6_init_43 : decode cX6_init 43 = .ok (.bipush 40, 2) := di_16 (x := 40) nX6_init (Eq.refl true) (Eq.refl true) rfl
theorem dX6_init_45 : decode cX6_init 45 = .ok (.multianewarray 9 2, 4) := by decide +kernel
theorem dX6_init_49 : decode cX6_init 49 = .ok (.putfield 22, 3) := di_181 nX6_init (Eq.refl true) (Eq.refl true) (Eq.refl true)
theorem dX6_init_52 : decode cX6_init 52 = .ok (.aload_n 0, 1) := di_42 nX6_init (Eq.refl true) (Eq.refl true)
theorem dX6_init_53 : decode cX6_init 53 = .ok (.bipush 12, 2) := di_16 (x := 12) nX6_init (Eq.refl true) (Eq.refl true) rfl
theorem dX6_init_55 : decode cX6_init 55 = .ok (.bipush 40, 2) := di_16 (x := 40) nX6_init (Eq.refl true) (Eq.refl true) rfl
theorem dX6_init_57 : decode cX6_init 57 = .ok (.multianewarray 9 2, 4) := by decide +kernel
theorem dX6_init_61 : decode cX6_init 61 = .ok (.putfield 25, 3) := di_181 nX6_init (Eq.refl true) (Eq.refl true) (Eq.refl true)
theorem dX6_init_64 : decode cX6_init 64 = .ok (.aload_n 0, 1) := di_42 nX6_init (Eq.refl true) (Eq.refl true)
theorem dX6_init_65 : decode cX6_init 65 = .ok (.bipush 40, 2) := di_16 (x := 40) nX6_init (Eq.refl true) (Eq.refl true) rfl
theorem dX6_init_67 : decode cX6_init 67 = .ok (.newarray .int, 2) := by decide +kernel
theorem dX6_init_69 : decode cX6_init 69 = .ok (.putfield 28, 3) := di_181 nX6_init (Eq.refl true) (Eq.refl true) (Eq.refl true)
theorem dX6_init_72 : decode cX6_init 72 = .ok (.aload_n 0, 1) := di_42 nX6_init (Eq.refl true) (Eq.refl true)
theorem dX6_init_73 : decode cX6_init 73 = .ok (.bipush 16, 2) := di_16 (x := 16) nX6_init (Eq.refl true) (Eq.refl true) rfl
theorem dX6_init_75 : decode cX6_init 75 = .ok (.newarray .int, 2) := by decide +kernel
theorem dX6_init_77 : decode cX6_init 77 = .ok (.putfield 32, 3) := di_181 nX6_init (Eq.refl true) (Eq.refl true) (Eq.refl true)
theorem dX6_init_80 : decode cX6_init 80 = .ok (.aload_n 0, 1) := di_42 nX6_init (Eq.refl true) (Eq.refl true)
theorem dX6_init_81 : decode cX6_init 81 = .ok (.bipush 16, 2) := di_16 (x := 16) nX6_init (Eq.refl true) (Eq.refl true) rfl
theorem dX6_init_83 : decode cX6_init 83 = .ok (.newarray .int, 2) := by decide +kernel
theorem dX6_init_85 : decode cX6_init 85 = .ok (.putfield 35, 3) := di_181 nX6_init (Eq.refl true) (Eq.refl true) (Eq.refl true)
theorem dX6_init_88 : decode cX6_init 88 = .ok (.aload_n 0, 1) := di_42 nX6_init (Eq.refl true) (Eq.refl true)
theorem dX6_init_89 : decode cX6_init 89 = .ok (.iconst 0, 1) := di_3 nX6_init (Eq.refl true) (Eq.refl true)
theorem dX6_init_90 : decode cX6_init 90 = .ok (.putfield 38, 3) := di_181 nX6_init (Eq.refl true) (Eq.refl true) (Eq.refl true)
theorem dX6_init_93 : decode cX6_init 93 = .ok (.aload_n 0, 1) := di_42 nX6_init (Eq.refl true) (Eq.refl true)
theorem dX6_init_94 : decode cX6_init 94 = .ok (.aload_n 1, 1) := di_43 nX6_init (Eq.refl true) (Eq.refl true)
theorem dX6_init_95 : decode cX6_init 95 = .ok (.putfield 42, 3) := di_181 nX6_init (Eq.refl true) (Eq.refl true) (Eq.refl true)
theorem dX6_init_98 : decode cX6_init 98 = .ok (.aload_n 0, 1) := di_42 nX6_init (Eq.refl true) (Eq.refl true)
theorem dX6_init_99 : decode cX6_init 99 = .ok (.aload_n 2, 1) := di_44 nX6_init (Eq.refl true) (Eq.refl true)
theorem dX6_init_100 : decode cX6_init 100 = .ok (.putfield 46, 3) := di_181 nX6_init (Eq.refl true) (Eq.refl true) (Eq.refl true)
theorem dX6_init_103 : decode cX6_init 103 = .ok (.aload_n 0, 1) := di_42 nX6_init (Eq.refl true) (Eq.refl true)
theorem dX6_init_104 : decode cX6_init 104 = .ok (.aload_n 3, 1) := di_45 nX6_init (Eq.refl true) (Eq.refl true)
theorem dX6_init_105 : decode cX6_init 105 = .ok (.putfield 50, 3) := di_181 nX6_init (Eq.refl true) (Eq.refl true) (Eq.refl true)
theorem dX6_init_108 : decode cX6_init 108 = .ok (.return_, 1) := di_177 nX6_init (Eq.refl true) (Eq.refl true)
noncomputable def NX6_allCopies : Nat := 304090377844101376645204059600271149867288436390087371640579992143035317251
theorem nX6_allCopies : CN cX6_allCopies NX6_allCopies 31 := ⟨by decide +kernel, by decide +kernel⟩
theorem dX6_allCopies_0 : decode cX6_allCopies 0 = .ok (.iconst 0, 1) := di_3 nX6_allCopies (Eq.refl true) (Eq.refl true)
theorem dX6_allCopies_1 : decode cX6_allCopies 1 = .ok (.istore_n 1, 1) := di_60 nX6_allCopies (Eq.refl true) (Eq.refl true)
theorem dX6_allCopies_2 : decode cX6_allCopies 2 = .ok (.iconst 0, 1) := di_3 nX6_allCopies (Eq.refl true) (Eq.refl true)
theorem dX6_allCopies_3 : decode cX6_allCopies 3 = .ok (.istore_n 2, 1) := di_61 nX6_allCopies (Eq.refl true) (Eq.refl true)
theorem dX6_allCopies_4 : decode cX6_allCopies 4 = .ok (.iload_n 2, 1) := di_28 nX6_allCopies (Eq.refl true) (Eq.refl true)
theorem dX6_allCopies_5 : decode cX6_allCopies 5 = .ok (.aload_n 0, 1) := di_42 nX6_allCopies (Eq.refl true) (Eq.refl true)
theorem dX6_allCopies_6 : decode cX6_allCopies 6 = .ok (.getfield 42, 3) := di_180 nX6_allCopies (Eq.refl true) (Eq.refl true) (Eq.refl true)
theorem dX6_allCopies_9 : decode cX6_allCopies 9 = .ok (.getfield 120, 3) := di_180 nX6_allCopies (Eq.refl true) (Eq.refl true) (Eq.refl true)
theorem dX6_allCopies_12 : decode cX6_allCopies 12 = .ok (.if_icmp .ge 17, 3) := di_162 (x := 17) nX6_allCopies (Eq.refl true) (Eq.refl true) (Eq.refl true) rfl
theorem dX6_allCopies_29 : decode cX6_allCopies 29 = .ok (.iload_n 1, 1) := di_27 nX6_allCopies (Eq.refl true) (Eq.refl true)
theorem dX6_allCopies_30 : decode cX6_allCopies 30 = .ok (.ireturn, 1) := di_172 nX6_allCopies (Eq.refl true) (Eq.refl true)
noncomputable def NX6_allKept : Nat := 304090377844101376645204120983339917765211000944850345724466817692202122243
theorem nX6_allKept : CN cX6_allKept NX6_allKept 31 := ⟨by decide +kernel, by decide +kernel⟩
theorem dX6_allKept_0 : decode cX6_allKept 0 = .ok (.iconst 0, 1) := di_3 nX6_allKept (Eq.refl true) (Eq.refl true)
theorem dX6_allKept_1 : decode cX6_allKept 1 = .ok (.istore_n 1, 1) := di_60 nX6_allKept (Eq.refl true) (Eq.refl true)
theorem dX6_allKept_2 : decode cX6_allKept 2 = .ok (.iconst 0, 1) := di_3 nX6_allKept (Eq.refl true) (Eq.refl true)
theorem dX6_allKept_3 : decode cX6_allKept 3 = .ok (.istore_n 2, 1) := di_61 nX6_allKept (Eq.refl true) (Eq.refl true)
theorem dX6_allKept_4 : decode cX6_allKept 4 = .ok (.iload_n 2, 1) := di_28 nX6_allKept (Eq.refl true) (Eq.refl true)
theorem dX6_allKept_5 : decode cX6_allKept 5 = .ok (.aload_n 0, 1) := di_42 nX6_allKept (Eq.refl true) (Eq.refl true)
theorem dX6_allKept_6 : decode cX6_allKept 6 = .ok (.getfield 42, 3) := di_180 nX6_allKept (Eq.refl true) (Eq.refl true) (Eq.refl true)
theorem dX6_allKept_9 : decode cX6_allKept 9 = .ok (.getfield 120, 3) := di_180 nX6_allKept (Eq.refl true) (Eq.refl true) (Eq.refl true)
theorem dX6_allKept_12 : decode cX6_allKept 12 = .ok (.if_icmp .ge 17, 3) := di_162 (x := 17) nX6_allKept (Eq.refl true) (Eq.refl true) (Eq.refl true) rfl
theorem dX6_allKept_29 : decode cX6_allKept 29 = .ok (.iload_n 1, 1) := di_27 nX6_allKept (Eq.refl true) (Eq.refl true)
theorem dX6_allKept_30 : decode cX6_allKept 30 = .ok (.ireturn, 1) := di_172 nX6_allKept (Eq.refl true) (Eq.refl true)
noncomputable def csX7_init : List (List Cond) := [[Cond.code yX7_init cX7_init 1 none], [Cond.methodLink RX7 3 objectInit, Cond.instanceMethod objectInit, Cond.code objectInit ⟨#[0xb1]⟩ 1 none, Cond.arrayClass .int, Cond.fieldLink RX7 9 "SeatsRound$Rows" "keeper" "[I", Cond.fieldLink RX7 15 "SeatsRound$Rows" "sort" "[I", Cond.fieldLink RX7 18 "SeatsRound$Rows" "length" "[I", Cond.classLink RX7 21 "[[J", Cond.arrayClass .long, Cond.fieldLink RX7 23 "SeatsRound$Rows" "elements" "[[J", Cond.methodLink RX7 26 yJ7_fill_53178, Cond.static yJ7_fill_53178, Cond.initialized RJ7, Cond.code yJ7_fill_53178 cJ7_fill_53178 4 none], wsX70]
set_option maxRecDepth 20000 in
theorem ciX7_init : ∀ l ∈ csX7_init, ∀ w ∈ l, w ∈ wsX7_init := by
  unfold csX7_init
  refine List.forall_mem_cons.mpr ⟨fun _ h => List.mem_cons.mpr (Or.inl (List.mem_singleton.mp h)), List.forall_mem_cons.mpr ⟨fun _ h => List.mem_cons_of_mem _ (List.mem_append_left _ h), List.forall_mem_cons.mpr ⟨fun _ h => List.mem_cons_of_mem _ (List.mem_append_right _ h), fun l h => absurd h List.not_mem_nil⟩⟩⟩
set_option maxRecDepth 20000 in
theorem ggX7_init_J7_fill_53178 : GoodIn wsX7_init wsJ7_fill_53178 := goodIn_sl csX7_init ciX7_init _ [(1, 13, 1)] rfl gw_wsJ7_fill_53178
set_option maxRecDepth 20000 in
theorem gX7_init_J7_fill_53178 : GoodIn wsX7_init (va_wsS RX7 26 yJ7_fill_53178 wsJ7_fill_53178) := goodIn_app (goodIn_sl csX7_init ciX7_init _ [(1, 10, 3)] rfl rfl) ggX7_init_J7_fill_53178
noncomputable def NX7_init : Nat := 128724281730032441112250243983514864203914908955368305055607996444753120197161997710253556238753972969503669921582311977692972068731139882
theorem nX7_init : CN cX7_init NX7_init 57 := ⟨by decide +kernel, by decide +kernel⟩
theorem dX7_init_0 : decode cX7_init 0 = .ok (.aload_n 0, 1) := di_42 nX7_init (Eq.refl true) (Eq.refl true)
theorem dX7_init_1 : decode cX7_init 1 = .ok (.invokespecial 3, 3) := di_183 nX7_init (Eq.refl true) (Eq.refl true) (Eq.refl true)
theorem dX7_init_4 : decode cX7_init 4 = .ok (.aload_n 0, 1) := di_42 nX7_init (Eq.refl true) (Eq.refl true)
theorem dX7_init_5 : decode cX7_init 5 = .ok (.bipush 6, 2) := di_16 (x := 6) nX7_init (Eq.refl true) (Eq.refl true) rfl
theorem dX7_init_7 : decode cX7_init 7 = .ok (.newarray .int, 2) := by decide +kernel
theorem dX7_init_9 : decode cX7_init 9 = .ok (.putfield 9, 3) := di_181 nX7_init (Eq.refl true) (Eq.refl true) (Eq.refl true)
theorem dX7_init_12 : decode cX7_init 12 = .ok (.aload_n 0, 1) := di_42 nX7_init (Eq.refl true) (Eq.refl true)
theorem dX7_init_13 : decode cX7_init 13 = .ok (.bipush 6, 2) := di_16 (x := 6) nX7_init (Eq.refl true) (Eq.refl true) rfl
theorem dX7_init_15 : decode cX7_init 15 = .ok (.newarray .int, 2) := by decide +kernel
theorem dX7_init_17 : decode cX7_init 17 = .ok (.putfield 15, 3) := di_181 nX7_init (Eq.refl true) (Eq.refl true) (Eq.refl true)
theorem dX7_init_20 : decode cX7_init 20 = .ok (.aload_n 0, 1) := di_42 nX7_init (Eq.refl true) (Eq.refl true)
theorem dX7_init_21 : decode cX7_init 21 = .ok (.bipush 6, 2) := di_16 (x := 6) nX7_init (Eq.refl true) (Eq.refl true) rfl
theorem dX7_init_23 : decode cX7_init 23 = .ok (.newarray .int, 2) := by decide +kernel
theorem dX7_init_25 : decode cX7_init 25 = .ok (.putfield 18, 3) := di_181 nX7_init (Eq.refl true) (Eq.refl true) (Eq.refl true)
theorem dX7_init_28 : decode cX7_init 28 = .ok (.aload_n 0, 1) := di_42 nX7_init (Eq.refl true) (Eq.refl true)
theorem dX7_init_29 : decode cX7_init 29 = .ok (.bipush 6, 2) := di_16 (x := 6) nX7_init (Eq.refl true) (Eq.refl true) rfl
theorem dX7_init_31 : decode cX7_init 31 = .ok (.bipush 60, 2) := di_16 (x := 60) nX7_init (Eq.refl true) (Eq.refl true) rfl
theorem dX7_init_33 : decode cX7_init 33 = .ok (.multianewarray 21 2, 4) := by decide +kernel
theorem dX7_init_37 : decode cX7_init 37 = .ok (.putfield 23, 3) := di_181 nX7_init (Eq.refl true) (Eq.refl true) (Eq.refl true)
theorem dX7_init_40 : decode cX7_init 40 = .ok (.aload_n 0, 1) := di_42 nX7_init (Eq.refl true) (Eq.refl true)
theorem dX7_init_41 : decode cX7_init 41 = .ok (.getfield 9, 3) := di_180 nX7_init (Eq.refl true) (Eq.refl true) (Eq.refl true)
theorem dX7_init_44 : decode cX7_init 44 = .ok (.iconst (-1), 1) := di_2 nX7_init (Eq.refl true) (Eq.refl true)
theorem dX7_init_45 : decode cX7_init 45 = .ok (.invokestatic 26, 3) := di_184 nX7_init (Eq.refl true) (Eq.refl true) (Eq.refl true)
theorem dX7_init_48 : decode cX7_init 48 = .ok (.aload_n 0, 1) := di_42 nX7_init (Eq.refl true) (Eq.refl true)
theorem dX7_init_49 : decode cX7_init 49 = .ok (.getfield 15, 3) := di_180 nX7_init (Eq.refl true) (Eq.refl true) (Eq.refl true)
theorem dX7_init_52 : decode cX7_init 52 = .ok (.iconst (-1), 1) := di_2 nX7_init (Eq.refl true) (Eq.refl true)
theorem dX7_init_53 : decode cX7_init 53 = .ok (.invokestatic 26, 3) := di_184 nX7_init (Eq.refl true) (Eq.refl true) (Eq.refl true)
theorem dX7_init_56 : decode cX7_init 56 = .ok (.return_, 1) := di_177 nX7_init (Eq.refl true) (Eq.refl true)
noncomputable def NX7_holdKeeper : Nat := 66339038550747707819518726734925929000570071562630186
theorem nX7_holdKeeper : CN cX7_holdKeeper NX7_holdKeeper 22 := ⟨by decide +kernel, by decide +kernel⟩
theorem dX7_holdKeeper_0 : decode cX7_holdKeeper 0 = .ok (.aload_n 0, 1) := di_42 nX7_holdKeeper (Eq.refl true) (Eq.refl true)
theorem dX7_holdKeeper_1 : decode cX7_holdKeeper 1 = .ok (.getfield 9, 3) := di_180 nX7_holdKeeper (Eq.refl true) (Eq.refl true) (Eq.refl true)
theorem dX7_holdKeeper_4 : decode cX7_holdKeeper 4 = .ok (.iload_n 1, 1) := di_27 nX7_holdKeeper (Eq.refl true) (Eq.refl true)
theorem dX7_holdKeeper_5 : decode cX7_holdKeeper 5 = .ok (.iload_n 2, 1) := di_28 nX7_holdKeeper (Eq.refl true) (Eq.refl true)
theorem dX7_holdKeeper_6 : decode cX7_holdKeeper 6 = .ok (.iastore, 1) := di_79 nX7_holdKeeper (Eq.refl true) (Eq.refl true)
theorem dX7_holdKeeper_7 : decode cX7_holdKeeper 7 = .ok (.aload_n 0, 1) := di_42 nX7_holdKeeper (Eq.refl true) (Eq.refl true)
theorem dX7_holdKeeper_8 : decode cX7_holdKeeper 8 = .ok (.getfield 15, 3) := di_180 nX7_holdKeeper (Eq.refl true) (Eq.refl true) (Eq.refl true)
theorem dX7_holdKeeper_11 : decode cX7_holdKeeper 11 = .ok (.iload_n 1, 1) := di_27 nX7_holdKeeper (Eq.refl true) (Eq.refl true)
theorem dX7_holdKeeper_12 : decode cX7_holdKeeper 12 = .ok (.iconst (-1), 1) := di_2 nX7_holdKeeper (Eq.refl true) (Eq.refl true)
theorem dX7_holdKeeper_13 : decode cX7_holdKeeper 13 = .ok (.iastore, 1) := di_79 nX7_holdKeeper (Eq.refl true) (Eq.refl true)
theorem dX7_holdKeeper_14 : decode cX7_holdKeeper 14 = .ok (.aload_n 0, 1) := di_42 nX7_holdKeeper (Eq.refl true) (Eq.refl true)
theorem dX7_holdKeeper_15 : decode cX7_holdKeeper 15 = .ok (.getfield 18, 3) := di_180 nX7_holdKeeper (Eq.refl true) (Eq.refl true) (Eq.refl true)
theorem dX7_holdKeeper_18 : decode cX7_holdKeeper 18 = .ok (.iload_n 1, 1) := di_27 nX7_holdKeeper (Eq.refl true) (Eq.refl true)
theorem dX7_holdKeeper_19 : decode cX7_holdKeeper 19 = .ok (.iconst 0, 1) := di_3 nX7_holdKeeper (Eq.refl true) (Eq.refl true)
theorem dX7_holdKeeper_20 : decode cX7_holdKeeper 20 = .ok (.iastore, 1) := di_79 nX7_holdKeeper (Eq.refl true) (Eq.refl true)
theorem dX7_holdKeeper_21 : decode cX7_holdKeeper 21 = .ok (.return_, 1) := di_177 nX7_holdKeeper (Eq.refl true) (Eq.refl true)
noncomputable def csX7_holdRow : List (List Cond) := [[Cond.code yX7_holdRow cX7_holdRow 4 none], [Cond.fieldLink RX7 9 "SeatsRound$Rows" "keeper" "[I", Cond.fieldLink RX7 15 "SeatsRound$Rows" "sort" "[I", Cond.fieldLink RX7 18 "SeatsRound$Rows" "length" "[I", Cond.fieldLink RX7 23 "SeatsRound$Rows" "elements" "[[J", Cond.methodLink RX7 32 yJ7_fill_d0a16, Cond.static yJ7_fill_d0a16, Cond.initialized RJ7, Cond.code yJ7_fill_d0a16 cJ7_fill_d0a16 5 none], wsX70]
set_option maxRecDepth 20000 in
theorem ciX7_holdRow : ∀ l ∈ csX7_holdRow, ∀ w ∈ l, w ∈ wsX7_holdRow := by
  unfold csX7_holdRow
  refine List.forall_mem_cons.mpr ⟨fun _ h => List.mem_cons.mpr (Or.inl (List.mem_singleton.mp h)), List.forall_mem_cons.mpr ⟨fun _ h => List.mem_cons_of_mem _ (List.mem_append_left _ h), List.forall_mem_cons.mpr ⟨fun _ h => List.mem_cons_of_mem _ (List.mem_append_right _ h), fun l h => absurd h List.not_mem_nil⟩⟩⟩
set_option maxRecDepth 20000 in
theorem ggX7_holdRow_J7_fill_d0a16 : GoodIn wsX7_holdRow wsJ7_fill_d0a16 := goodIn_sl csX7_holdRow ciX7_holdRow _ [(1, 7, 1)] rfl gw_wsJ7_fill_d0a16
set_option maxRecDepth 20000 in
theorem gX7_holdRow_J7_fill_d0a16 : GoodIn wsX7_holdRow (va_wsS RX7 32 yJ7_fill_d0a16 wsJ7_fill_d0a16) := goodIn_app (goodIn_sl csX7_holdRow ciX7_holdRow _ [(1, 4, 3)] rfl rfl) ggX7_holdRow_J7_fill_d0a16
noncomputable def NX7_holdRow : Nat := 80115918266909668760044085159382109359829042119635926706988989541332929262634
theorem nX7_holdRow : CN cX7_holdRow NX7_holdRow 32 := ⟨by decide +kernel, by decide +kernel⟩
theorem dX7_holdRow_0 : decode cX7_holdRow 0 = .ok (.aload_n 0, 1) := di_42 nX7_holdRow (Eq.refl true) (Eq.refl true)
theorem dX7_holdRow_1 : decode cX7_holdRow 1 = .ok (.getfield 9, 3) := di_180 nX7_holdRow (Eq.refl true) (Eq.refl true) (Eq.refl true)
theorem dX7_holdRow_4 : decode cX7_holdRow 4 = .ok (.iload_n 1, 1) := di_27 nX7_holdRow (Eq.refl true) (Eq.refl true)
theorem dX7_holdRow_5 : decode cX7_holdRow 5 = .ok (.iconst (-1), 1) := di_2 nX7_holdRow (Eq.refl true) (Eq.refl true)
theorem dX7_holdRow_6 : decode cX7_holdRow 6 = .ok (.iastore, 1) := di_79 nX7_holdRow (Eq.refl true) (Eq.refl true)
theorem dX7_holdRow_7 : decode cX7_holdRow 7 = .ok (.aload_n 0, 1) := di_42 nX7_holdRow (Eq.refl true) (Eq.refl true)
theorem dX7_holdRow_8 : decode cX7_holdRow 8 = .ok (.getfield 15, 3) := di_180 nX7_holdRow (Eq.refl true) (Eq.refl true) (Eq.refl true)
theorem dX7_holdRow_11 : decode cX7_holdRow 11 = .ok (.iload_n 1, 1) := di_27 nX7_holdRow (Eq.refl true) (Eq.refl true)
theorem dX7_holdRow_12 : decode cX7_holdRow 12 = .ok (.iload_n 2, 1) := di_28 nX7_holdRow (Eq.refl true) (Eq.refl true)
theorem dX7_holdRow_13 : decode cX7_holdRow 13 = .ok (.iastore, 1) := di_79 nX7_holdRow (Eq.refl true) (Eq.refl true)
theorem dX7_holdRow_14 : decode cX7_holdRow 14 = .ok (.aload_n 0, 1) := di_42 nX7_holdRow (Eq.refl true) (Eq.refl true)
theorem dX7_holdRow_15 : decode cX7_holdRow 15 = .ok (.getfield 18, 3) := di_180 nX7_holdRow (Eq.refl true) (Eq.refl true) (Eq.refl true)
theorem dX7_holdRow_18 : decode cX7_holdRow 18 = .ok (.iload_n 1, 1) := di_27 nX7_holdRow (Eq.refl true) (Eq.refl true)
theorem dX7_holdRow_19 : decode cX7_holdRow 19 = .ok (.iload_n 3, 1) := di_29 nX7_holdRow (Eq.refl true) (Eq.refl true)
theorem dX7_holdRow_20 : decode cX7_holdRow 20 = .ok (.iastore, 1) := di_79 nX7_holdRow (Eq.refl true) (Eq.refl true)
theorem dX7_holdRow_21 : decode cX7_holdRow 21 = .ok (.aload_n 0, 1) := di_42 nX7_holdRow (Eq.refl true) (Eq.refl true)
theorem dX7_holdRow_22 : decode cX7_holdRow 22 = .ok (.getfield 23, 3) := di_180 nX7_holdRow (Eq.refl true) (Eq.refl true) (Eq.refl true)
theorem dX7_holdRow_25 : decode cX7_holdRow 25 = .ok (.iload_n 1, 1) := di_27 nX7_holdRow (Eq.refl true) (Eq.refl true)
theorem dX7_holdRow_26 : decode cX7_holdRow 26 = .ok (.aaload, 1) := di_50 nX7_holdRow (Eq.refl true) (Eq.refl true)
theorem dX7_holdRow_27 : decode cX7_holdRow 27 = .ok (.lconst 0, 1) := di_9 nX7_holdRow (Eq.refl true) (Eq.refl true)
theorem dX7_holdRow_28 : decode cX7_holdRow 28 = .ok (.invokestatic 32, 3) := di_184 nX7_holdRow (Eq.refl true) (Eq.refl true) (Eq.refl true)
theorem dX7_holdRow_31 : decode cX7_holdRow 31 = .ok (.return_, 1) := di_177 nX7_holdRow (Eq.refl true) (Eq.refl true)
noncomputable def NX7_isEmpty : Nat := 276412273059955106834990110721430646664026574245398508113802282
theorem nX7_isEmpty : CN cX7_isEmpty NX7_isEmpty 26 := ⟨by decide +kernel, by decide +kernel⟩
theorem dX7_isEmpty_0 : decode cX7_isEmpty 0 = .ok (.aload_n 0, 1) := di_42 nX7_isEmpty (Eq.refl true) (Eq.refl true)
theorem dX7_isEmpty_1 : decode cX7_isEmpty 1 = .ok (.getfield 15, 3) := di_180 nX7_isEmpty (Eq.refl true) (Eq.refl true) (Eq.refl true)
theorem dX7_isEmpty_4 : decode cX7_isEmpty 4 = .ok (.iload_n 1, 1) := di_27 nX7_isEmpty (Eq.refl true) (Eq.refl true)
theorem dX7_isEmpty_5 : decode cX7_isEmpty 5 = .ok (.iaload, 1) := di_46 nX7_isEmpty (Eq.refl true) (Eq.refl true)
theorem dX7_isEmpty_6 : decode cX7_isEmpty 6 = .ok (.iconst (-1), 1) := di_2 nX7_isEmpty (Eq.refl true) (Eq.refl true)
theorem dX7_isEmpty_7 : decode cX7_isEmpty 7 = .ok (.if_icmp .ne 17, 3) := di_160 (x := 17) nX7_isEmpty (Eq.refl true) (Eq.refl true) (Eq.refl true) rfl
theorem dX7_isEmpty_10 : decode cX7_isEmpty 10 = .ok (.aload_n 0, 1) := di_42 nX7_isEmpty (Eq.refl true) (Eq.refl true)
theorem dX7_isEmpty_11 : decode cX7_isEmpty 11 = .ok (.getfield 9, 3) := di_180 nX7_isEmpty (Eq.refl true) (Eq.refl true) (Eq.refl true)
theorem dX7_isEmpty_14 : decode cX7_isEmpty 14 = .ok (.iload_n 1, 1) := di_27 nX7_isEmpty (Eq.refl true) (Eq.refl true)
theorem dX7_isEmpty_15 : decode cX7_isEmpty 15 = .ok (.iaload, 1) := di_46 nX7_isEmpty (Eq.refl true) (Eq.refl true)
theorem dX7_isEmpty_16 : decode cX7_isEmpty 16 = .ok (.iconst (-1), 1) := di_2 nX7_isEmpty (Eq.refl true) (Eq.refl true)
theorem dX7_isEmpty_17 : decode cX7_isEmpty 17 = .ok (.if_icmp .ne 7, 3) := di_160 (x := 7) nX7_isEmpty (Eq.refl true) (Eq.refl true) (Eq.refl true) rfl
theorem dX7_isEmpty_20 : decode cX7_isEmpty 20 = .ok (.iconst 1, 1) := di_4 nX7_isEmpty (Eq.refl true) (Eq.refl true)
theorem dX7_isEmpty_21 : decode cX7_isEmpty 21 = .ok (.goto 4, 3) := di_167 (x := 4) nX7_isEmpty (Eq.refl true) (Eq.refl true) (Eq.refl true) rfl
theorem dX7_isEmpty_25 : decode cX7_isEmpty 25 = .ok (.ireturn, 1) := di_172 nX7_isEmpty (Eq.refl true) (Eq.refl true)
noncomputable def csX7_refusalAt : List (List Cond) := [[Cond.code yX7_refusalAt cX7_refusalAt 3 (some .int)], [Cond.fieldLink RX7 18 "SeatsRound$Rows" "length" "[I", Cond.methodLink RX7 35 yX7_isEmpty, Cond.instanceMethod yX7_isEmpty, Cond.selects RX7 yX7_isEmpty yX7_isEmpty, Cond.initialized RX7, Cond.code yX7_isEmpty cX7_isEmpty 2 (some .boolean), Cond.fieldLink RX7 15 "SeatsRound$Rows" "sort" "[I", Cond.fieldLink RX7 9 "SeatsRound$Rows" "keeper" "[I", Cond.methodLink RX7 39 yX7_isRow, Cond.instanceMethod yX7_isRow, Cond.selects RX7 yX7_isRow yX7_isRow, Cond.code yX7_isRow cX7_isRow 2 (some .boolean)], wsX70]
set_option maxRecDepth 20000 in
theorem ciX7_refusalAt : ∀ l ∈ csX7_refusalAt, ∀ w ∈ l, w ∈ wsX7_refusalAt := by
  unfold csX7_refusalAt
  refine List.forall_mem_cons.mpr ⟨fun _ h => List.mem_cons.mpr (Or.inl (List.mem_singleton.mp h)), List.forall_mem_cons.mpr ⟨fun _ h => List.mem_cons_of_mem _ (List.mem_append_left _ h), List.forall_mem_cons.mpr ⟨fun _ h => List.mem_cons_of_mem _ (List.mem_append_right _ h), fun l h => absurd h List.not_mem_nil⟩⟩⟩
set_option maxRecDepth 20000 in
theorem ggX7_refusalAt_X7_isEmpty : GoodIn wsX7_refusalAt wsX7_isEmpty := goodIn_sl csX7_refusalAt ciX7_refusalAt _ [(1, 5, 3), (2, 0, 4)] rfl gw_wsX7_isEmpty
set_option maxRecDepth 20000 in
theorem gX7_refusalAt_X7_isEmpty : GoodIn wsX7_refusalAt (wsV RX7 35 RX7 yX7_isEmpty wsX7_isEmpty) := goodIn_app (goodIn_sl csX7_refusalAt ciX7_refusalAt _ [(1, 1, 4)] rfl rfl) ggX7_refusalAt_X7_isEmpty
noncomputable def NX7_refusalAt : Nat := 24210165677474297836365917535203904673607404607602546542928241488755289468258292821209427505238844513066
theorem nX7_refusalAt : CN cX7_refusalAt NX7_refusalAt 43 := ⟨by decide +kernel, by decide +kernel⟩
theorem dX7_refusalAt_0 : decode cX7_refusalAt 0 = .ok (.aload_n 0, 1) := di_42 nX7_refusalAt (Eq.refl true) (Eq.refl true)
theorem dX7_refusalAt_1 : decode cX7_refusalAt 1 = .ok (.iload_n 1, 1) := di_27 nX7_refusalAt (Eq.refl true) (Eq.refl true)
theorem dX7_refusalAt_2 : decode cX7_refusalAt 2 = .ok (.invokevirtual 35, 3) := di_182 nX7_refusalAt (Eq.refl true) (Eq.refl true) (Eq.refl true)
theorem dX7_refusalAt_5 : decode cX7_refusalAt 5 = .ok (.ifCond .eq 6, 3) := di_153 (x := 6) nX7_refusalAt (Eq.refl true) (Eq.refl true) (Eq.refl true) rfl
theorem dX7_refusalAt_8 : decode cX7_refusalAt 8 = .ok (.bipush (-11), 2) := di_16 (x := 245) nX7_refusalAt (Eq.refl true) (Eq.refl true) rfl
theorem dX7_refusalAt_10 : decode cX7_refusalAt 10 = .ok (.ireturn, 1) := di_172 nX7_refusalAt (Eq.refl true) (Eq.refl true)
noncomputable def NX8_init : Nat := 227561530525827441177053956385791554035071118153357327797168865956293063900924548590376527044239668669724675280374059713967599638815834099929251952129089251459708323972530019707533169534038898372388308463433514
theorem nX8_init : CN cX8_init NX8_init 87 := ⟨by decide +kernel, by decide +kernel⟩
theorem dX8_init_0 : decode cX8_init 0 = .ok (.aload_n 0, 1) := di_42 nX8_init (Eq.refl true) (Eq.refl true)
theorem dX8_init_1 : decode cX8_init 1 = .ok (.invokespecial 3, 3) := di_183 nX8_init (Eq.refl true) (Eq.refl true) (Eq.refl true)
theorem dX8_init_4 : decode cX8_init 4 = .ok (.aload_n 0, 1) := di_42 nX8_init (Eq.refl true) (Eq.refl true)
theorem dX8_init_5 : decode cX8_init 5 = .ok (.iconst 0, 1) := di_3 nX8_init (Eq.refl true) (Eq.refl true)
theorem dX8_init_6 : decode cX8_init 6 = .ok (.putfield 9, 3) := di_181 nX8_init (Eq.refl true) (Eq.refl true) (Eq.refl true)
theorem dX8_init_9 : decode cX8_init 9 = .ok (.aload_n 0, 1) := di_42 nX8_init (Eq.refl true) (Eq.refl true)
theorem dX8_init_10 : decode cX8_init 10 = .ok (.iconst 0, 1) := di_3 nX8_init (Eq.refl true) (Eq.refl true)
theorem dX8_init_11 : decode cX8_init 11 = .ok (.putfield 15, 3) := di_181 nX8_init (Eq.refl true) (Eq.refl true) (Eq.refl true)
theorem dX8_init_14 : decode cX8_init 14 = .ok (.aload_n 0, 1) := di_42 nX8_init (Eq.refl true) (Eq.refl true)
theorem dX8_init_15 : decode cX8_init 15 = .ok (.iconst 1, 1) := di_4 nX8_init (Eq.refl true) (Eq.refl true)
theorem dX8_init_16 : decode cX8_init 16 = .ok (.putfield 18, 3) := di_181 nX8_init (Eq.refl true) (Eq.refl true) (Eq.refl true)
theorem dX8_init_19 : decode cX8_init 19 = .ok (.aload_n 0, 1) := di_42 nX8_init (Eq.refl true) (Eq.refl true)
theorem dX8_init_20 : decode cX8_init 20 = .ok (.iconst 1, 1) := di_4 nX8_init (Eq.refl true) (Eq.refl true)
theorem dX8_init_21 : decode cX8_init 21 = .ok (.putfield 21, 3) := di_181 nX8_init (Eq.refl true) (Eq.refl true) (Eq.refl true)
theorem dX8_init_24 : decode cX8_init 24 = .ok (.aload_n 0, 1) := di_42 nX8_init (Eq.refl true) (Eq.refl true)
theorem dX8_init_25 : decode cX8_init 25 = .ok (.iconst 0, 1) := di_3 nX8_init (Eq.refl true) (Eq.refl true)
theorem dX8_init_26 : decode cX8_init 26 = .ok (.putfield 24, 3) := di_181 nX8_init (Eq.refl true) (Eq.refl true) (Eq.refl true)
theorem dX8_init_29 : decode cX8_init 29 = .ok (.aload_n 0, 1) := di_42 nX8_init (Eq.refl true) (Eq.refl true)
theorem dX8_init_30 : decode cX8_init 30 = .ok (.iconst 0, 1) := di_3 nX8_init (Eq.refl true) (Eq.refl true)
theorem dX8_init_31 : decode cX8_init 31 = .ok (.putfield 27, 3) := di_181 nX8_init (Eq.refl true) (Eq.refl true) (Eq.refl true)
theorem dX8_init_34 : decode cX8_init 34 = .ok (.aload_n 0, 1) := di_42 nX8_init (Eq.refl true) (Eq.refl true)
theorem dX8_init_35 : decode cX8_init 35 = .ok (.iconst 0, 1) := di_3 nX8_init (Eq.refl true) (Eq.refl true)
theorem dX8_init_36 : decode cX8_init 36 = .ok (.putfield 30, 3) := di_181 nX8_init (Eq.refl true) (Eq.refl true) (Eq.refl true)
theorem dX8_init_39 : decode cX8_init 39 = .ok (.aload_n 0, 1) := di_42 nX8_init (Eq.refl true) (Eq.refl true)
theorem dX8_init_40 : decode cX8_init 40 = .ok (.iconst 0, 1) := di_3 nX8_init (Eq.refl true) (Eq.refl true)
theorem dX8_init_41 : decode cX8_init 41 = .ok (.putfield 33, 3) := di_181 nX8_init (Eq.refl true) (Eq.refl true) (Eq.refl true)
theorem dX8_init_44 : decode cX8_init 44 = .ok (.aload_n 0, 1) := di_42 nX8_init (Eq.refl true) (Eq.refl true)
theorem dX8_init_45 : decode cX8_init 45 = .ok (.bipush 12, 2) := di_16 (x := 12) nX8_init (Eq.refl true) (Eq.refl true) rfl
theorem dX8_init_47 : decode cX8_init 47 = .ok (.newarray .int, 2) := by decide +kernel
theorem dX8_init_49 : decode cX8_init 49 = .ok (.putfield 37, 3) := di_181 nX8_init (Eq.refl true) (Eq.refl true) (Eq.refl true)
theorem dX8_init_52 : decode cX8_init 52 = .ok (.aload_n 0, 1) := di_42 nX8_init (Eq.refl true) (Eq.refl true)
theorem dX8_init_53 : decode cX8_init 53 = .ok (.bipush 12, 2) := di_16 (x := 12) nX8_init (Eq.refl true) (Eq.refl true) rfl
theorem dX8_init_55 : decode cX8_init 55 = .ok (.newarray .int, 2) := by decide +kernel
theorem dX8_init_57 : decode cX8_init 57 = .ok (.putfield 41, 3) := di_181 nX8_init (Eq.refl true) (Eq.refl true) (Eq.refl true)
theorem dX8_init_60 : decode cX8_init 60 = .ok (.aload_n 0, 1) := di_42 nX8_init (Eq.refl true) (Eq.refl true)
theorem dX8_init_61 : decode cX8_init 61 = .ok (.bipush 80, 2) := di_16 (x := 80) nX8_init (Eq.refl true) (Eq.refl true) rfl
theorem dX8_init_63 : decode cX8_init 63 = .ok (.newarray .byte, 2) := by decide +kernel
theorem dX8_init_65 : decode cX8_init 65 = .ok (.putfield 44, 3) := di_181 nX8_init (Eq.refl true) (Eq.refl true) (Eq.refl true)
theorem dX8_init_68 : decode cX8_init 68 = .ok (.aload_n 0, 1) := di_42 nX8_init (Eq.refl true) (Eq.refl true)
theorem dX8_init_69 : decode cX8_init 69 = .ok (.sipush 1000, 3) := di_17 (x := 1000) nX8_init (Eq.refl true) (Eq.refl true) (Eq.refl true) rfl
theorem dX8_init_72 : decode cX8_init 72 = .ok (.newarray .byte, 2) := by decide +kernel
theorem dX8_init_74 : decode cX8_init 74 = .ok (.putfield 48, 3) := di_181 nX8_init (Eq.refl true) (Eq.refl true) (Eq.refl true)
theorem dX8_init_77 : decode cX8_init 77 = .ok (.aload_n 0, 1) := di_42 nX8_init (Eq.refl true) (Eq.refl true)
theorem dX8_init_78 : decode cX8_init 78 = .ok (.sipush 1000, 3) := di_17 (x := 1000) nX8_init (Eq.refl true) (Eq.refl true) (Eq.refl true) rfl
theorem dX8_init_81 : decode cX8_init 81 = .ok (.newarray .short, 2) := by decide +kernel
theorem dX8_init_83 : decode cX8_init 83 = .ok (.putfield 51, 3) := di_181 nX8_init (Eq.refl true) (Eq.refl true) (Eq.refl true)
theorem dX8_init_86 : decode cX8_init 86 = .ok (.return_, 1) := di_177 nX8_init (Eq.refl true) (Eq.refl true)
noncomputable def NX9_init : Nat := 15423979785295286726064733577351427784750890
theorem nX9_init : CN cX9_init NX9_init 18 := ⟨by decide +kernel, by decide +kernel⟩
theorem dX9_init_0 : decode cX9_init 0 = .ok (.aload_n 0, 1) := di_42 nX9_init (Eq.refl true) (Eq.refl true)
theorem dX9_init_1 : decode cX9_init 1 = .ok (.invokespecial 3, 3) := di_183 nX9_init (Eq.refl true) (Eq.refl true) (Eq.refl true)
theorem dX9_init_4 : decode cX9_init 4 = .ok (.aload_n 0, 1) := di_42 nX9_init (Eq.refl true) (Eq.refl true)
theorem dX9_init_5 : decode cX9_init 5 = .ok (.bipush 80, 2) := di_16 (x := 80) nX9_init (Eq.refl true) (Eq.refl true) rfl
theorem dX9_init_7 : decode cX9_init 7 = .ok (.newarray .byte, 2) := by decide +kernel
theorem dX9_init_9 : decode cX9_init 9 = .ok (.putfield 9, 3) := di_181 nX9_init (Eq.refl true) (Eq.refl true) (Eq.refl true)
theorem dX9_init_12 : decode cX9_init 12 = .ok (.aload_n 0, 1) := di_42 nX9_init (Eq.refl true) (Eq.refl true)
theorem dX9_init_13 : decode cX9_init 13 = .ok (.iconst 0, 1) := di_3 nX9_init (Eq.refl true) (Eq.refl true)
theorem dX9_init_14 : decode cX9_init 14 = .ok (.putfield 15, 3) := di_181 nX9_init (Eq.refl true) (Eq.refl true) (Eq.refl true)
theorem dX9_init_17 : decode cX9_init 17 = .ok (.return_, 1) := di_177 nX9_init (Eq.refl true) (Eq.refl true)
noncomputable def NX9_append : Nat := 7007092502305631451978158670102913004458939444628123676129779229159780480948270656353807537340185196741604657883594243
theorem nX9_append : CN cX9_append NX9_append 49 := ⟨by decide +kernel, by decide +kernel⟩
theorem dX9_append_0 : decode cX9_append 0 = .ok (.iconst 0, 1) := di_3 nX9_append (Eq.refl true) (Eq.refl true)
theorem dX9_append_1 : decode cX9_append 1 = .ok (.istore_n 3, 1) := di_62 nX9_append (Eq.refl true) (Eq.refl true)
theorem dX9_append_2 : decode cX9_append 2 = .ok (.iload_n 3, 1) := di_29 nX9_append (Eq.refl true) (Eq.refl true)
theorem dX9_append_3 : decode cX9_append 3 = .ok (.iload_n 1, 1) := di_27 nX9_append (Eq.refl true) (Eq.refl true)
theorem dX9_append_4 : decode cX9_append 4 = .ok (.if_icmp .ge 44, 3) := di_162 (x := 44) nX9_append (Eq.refl true) (Eq.refl true) (Eq.refl true) rfl
theorem dX9_append_7 : decode cX9_append 7 = .ok (.aload_n 0, 1) := di_42 nX9_append (Eq.refl true) (Eq.refl true)
theorem dX9_append_8 : decode cX9_append 8 = .ok (.getfield 15, 3) := di_180 nX9_append (Eq.refl true) (Eq.refl true) (Eq.refl true)
theorem dX9_append_11 : decode cX9_append 11 = .ok (.bipush 80, 2) := di_16 (x := 80) nX9_append (Eq.refl true) (Eq.refl true) rfl
theorem dX9_append_13 : decode cX9_append 13 = .ok (.if_icmp .ge 35, 3) := di_162 (x := 35) nX9_append (Eq.refl true) (Eq.refl true) (Eq.refl true) rfl
theorem dX9_append_16 : decode cX9_append 16 = .ok (.aload_n 0, 1) := di_42 nX9_append (Eq.refl true) (Eq.refl true)
theorem dX9_append_17 : decode cX9_append 17 = .ok (.getfield 9, 3) := di_180 nX9_append (Eq.refl true) (Eq.refl true) (Eq.refl true)
theorem dX9_append_20 : decode cX9_append 20 = .ok (.aload_n 0, 1) := di_42 nX9_append (Eq.refl true) (Eq.refl true)
theorem dX9_append_21 : decode cX9_append 21 = .ok (.getfield 15, 3) := di_180 nX9_append (Eq.refl true) (Eq.refl true) (Eq.refl true)
theorem dX9_append_24 : decode cX9_append 24 = .ok (.iload_n 2, 1) := di_28 nX9_append (Eq.refl true) (Eq.refl true)
theorem dX9_append_25 : decode cX9_append 25 = .ok (.bipush 8, 2) := di_16 (x := 8) nX9_append (Eq.refl true) (Eq.refl true) rfl
theorem dX9_append_27 : decode cX9_append 27 = .ok (.iload_n 3, 1) := di_29 nX9_append (Eq.refl true) (Eq.refl true)
theorem dX9_append_28 : decode cX9_append 28 = .ok (.imul, 1) := di_104 nX9_append (Eq.refl true) (Eq.refl true)
theorem dX9_append_29 : decode cX9_append 29 = .ok (.iushr, 1) := di_124 nX9_append (Eq.refl true) (Eq.refl true)
theorem dX9_append_30 : decode cX9_append 30 = .ok (.i2b, 1) := di_145 nX9_append (Eq.refl true) (Eq.refl true)
theorem dX9_append_31 : decode cX9_append 31 = .ok (.bastore, 1) := di_84 nX9_append (Eq.refl true) (Eq.refl true)
theorem dX9_append_32 : decode cX9_append 32 = .ok (.aload_n 0, 1) := di_42 nX9_append (Eq.refl true) (Eq.refl true)
theorem dX9_append_33 : decode cX9_append 33 = .ok (.dup, 1) := di_89 nX9_append (Eq.refl true) (Eq.refl true)
theorem dX9_append_34 : decode cX9_append 34 = .ok (.getfield 15, 3) := di_180 nX9_append (Eq.refl true) (Eq.refl true) (Eq.refl true)
theorem dX9_append_37 : decode cX9_append 37 = .ok (.iconst 1, 1) := di_4 nX9_append (Eq.refl true) (Eq.refl true)
theorem dX9_append_38 : decode cX9_append 38 = .ok (.iadd, 1) := di_96 nX9_append (Eq.refl true) (Eq.refl true)
theorem dX9_append_39 : decode cX9_append 39 = .ok (.putfield 15, 3) := di_181 nX9_append (Eq.refl true) (Eq.refl true) (Eq.refl true)
theorem dX9_append_42 : decode cX9_append 42 = .ok (.iinc 3 1, 3) := di_132 (y := 1) nX9_append (Eq.refl true) (Eq.refl true) (Eq.refl true) rfl
theorem dX9_append_45 : decode cX9_append 45 = .ok (.goto (-43), 3) := di_167 (x := 65493) nX9_append (Eq.refl true) (Eq.refl true) (Eq.refl true) rfl
theorem dX9_append_48 : decode cX9_append 48 = .ok (.return_, 1) := di_177 nX9_append (Eq.refl true) (Eq.refl true)
noncomputable def NX10_init : Nat := 344042128660852428284844824843724172355556650758364749235957538410025861426239204538154
theorem nX10_init : CN cX10_init NX10_init 36 := ⟨by decide +kernel, by decide +kernel⟩
theorem dX10_init_0 : decode cX10_init 0 = .ok (.aload_n 0, 1) := di_42 nX10_init (Eq.refl true) (Eq.refl true)
theorem dX10_init_1 : decode cX10_init 1 = .ok (.invokespecial 3, 3) := di_183 nX10_init (Eq.refl true) (Eq.refl true) (Eq.refl true)
theorem dX10_init_4 : decode cX10_init 4 = .ok (.aload_n 0, 1) := di_42 nX10_init (Eq.refl true) (Eq.refl true)
theorem dX10_init_5 : decode cX10_init 5 = .ok (.bipush 6, 2) := di_16 (x := 6) nX10_init (Eq.refl true) (Eq.refl true) rfl
theorem dX10_init_7 : decode cX10_init 7 = .ok (.newarray .int, 2) := by decide +kernel
theorem dX10_init_9 : decode cX10_init 9 = .ok (.putfield 9, 3) := di_181 nX10_init (Eq.refl true) (Eq.refl true) (Eq.refl true)
theorem dX10_init_12 : decode cX10_init 12 = .ok (.aload_n 0, 1) := di_42 nX10_init (Eq.refl true) (Eq.refl true)
theorem dX10_init_13 : decode cX10_init 13 = .ok (.iconst 0, 1) := di_3 nX10_init (Eq.refl true) (Eq.refl true)
theorem dX10_init_14 : decode cX10_init 14 = .ok (.putfield 15, 3) := di_181 nX10_init (Eq.refl true) (Eq.refl true) (Eq.refl true)
theorem dX10_init_17 : decode cX10_init 17 = .ok (.aload_n 0, 1) := di_42 nX10_init (Eq.refl true) (Eq.refl true)
theorem dX10_init_18 : decode cX10_init 18 = .ok (.iconst (-1), 1) := di_2 nX10_init (Eq.refl true) (Eq.refl true)
theorem dX10_init_19 : decode cX10_init 19 = .ok (.putfield 19, 3) := di_181 nX10_init (Eq.refl true) (Eq.refl true) (Eq.refl true)
theorem dX10_init_22 : decode cX10_init 22 = .ok (.aload_n 0, 1) := di_42 nX10_init (Eq.refl true) (Eq.refl true)
theorem dX10_init_23 : decode cX10_init 23 = .ok (.bipush 12, 2) := di_16 (x := 12) nX10_init (Eq.refl true) (Eq.refl true) rfl
theorem dX10_init_25 : decode cX10_init 25 = .ok (.newarray .int, 2) := by decide +kernel
theorem dX10_init_27 : decode cX10_init 27 = .ok (.putfield 22, 3) := di_181 nX10_init (Eq.refl true) (Eq.refl true) (Eq.refl true)
theorem dX10_init_30 : decode cX10_init 30 = .ok (.aload_n 0, 1) := di_42 nX10_init (Eq.refl true) (Eq.refl true)
theorem dX10_init_31 : decode cX10_init 31 = .ok (.aload_n 1, 1) := di_43 nX10_init (Eq.refl true) (Eq.refl true)
theorem dX10_init_32 : decode cX10_init 32 = .ok (.putfield 25, 3) := di_181 nX10_init (Eq.refl true) (Eq.refl true) (Eq.refl true)
theorem dX10_init_35 : decode cX10_init 35 = .ok (.return_, 1) := di_177 nX10_init (Eq.refl true) (Eq.refl true)
noncomputable def csX11_init : List (List Cond) := [[Cond.code yX11_init cX11_init 1 none], wsX11_init_r1, wsX11_init_r2, wsX11_init_r3, wsX11_init_r4, wsX11_init_r5, wsX11_init_r6, wsX11_init_r7, wsX11_init_r8, wsX90, wsX110, wsX40, wsX20, wsX30, wsX10, wsX80, wsX60, wsX50, wsX100, wsX00, wsX70]
set_option maxRecDepth 20000 in
theorem ciX11_init : ∀ l ∈ csX11_init, ∀ w ∈ l, w ∈ wsX11_init := by
  unfold csX11_init
  refine List.forall_mem_cons.mpr ⟨fun _ h => List.mem_cons.mpr (Or.inl (List.mem_singleton.mp h)), List.forall_mem_cons.mpr ⟨fun _ h => List.mem_cons_of_mem _ (List.mem_append_left _ (List.mem_append_left _ (List.mem_append_left _ (List.mem_append_left _ (List.mem_append_left _ (List.mem_append_left _ (List.mem_append_left _ (List.mem_append_left _ (List.mem_append_left _ (List.mem_append_left _ (List.mem_append_left _ (List.mem_append_left _ (List.mem_append_left _ h))))))))))))), List.forall_mem_cons.mpr ⟨fun _ h => List.mem_cons_of_mem _ (List.mem_append_left _ (List.mem_append_left _ (List.mem_append_left _ (List.mem_append_left _ (List.mem_append_left _ (List.mem_append_left _ (List.mem_append_left _ (List.mem_append_left _ (List.mem_append_left _ (List.mem_append_left _ (List.mem_append_left _ (List.mem_append_left _ (List.mem_append_right _ (List.mem_append_left _ h)))))))))))))), List.forall_mem_cons.mpr ⟨fun _ h => List.mem_cons_of_mem _ (List.mem_append_left _ (List.mem_append_left _ (List.mem_append_left _ (List.mem_append_left _ (List.mem_append_left _ (List.mem_append_left _ (List.mem_append_left _ (List.mem_append_left _ (List.mem_append_left _ (List.mem_append_left _ (List.mem_append_left _ (List.mem_append_left _ (List.mem_append_right _ (List.mem_append_right _ (List.mem_append_left _ h))))))))))))))), List.forall_mem_cons.mpr ⟨fun _ h => List.mem_cons_of_mem _ (List.mem_append_left _ (List.mem_append_left _ (List.mem_append_left _ (List.mem_append_left _ (List.mem_append_left _ (List.mem_append_left _ (List.mem_append_left _ (List.mem_append_left _ (List.mem_append_left _ (List.mem_append_left _ (List.mem_append_left _ (List.mem_append_left _ (List.mem_append_right _ (List.mem_append_right _ (List.mem_append_right _ (List.mem_append_left _ h)))))))))))))))), List.forall_mem_cons.mpr ⟨fun _ h => List.mem_cons_of_mem _ (List.mem_append_left _ (List.mem_append_left _ (List.mem_append_left _ (List.mem_append_left _ (List.mem_append_left _ (List.mem_append_left _ (List.mem_append_left _ (List.mem_append_left _ (List.mem_append_left _ (List.mem_append_left _ (List.mem_append_left _ (List.mem_append_left _ (List.mem_append_right _ (List.mem_append_right _ (List.mem_append_right _ (List.mem_append_right _ (List.mem_append_left _ h))))))))))))))))), List.forall_mem_cons.mpr ⟨fun _ h => List.mem_cons_of_mem _ (List.mem_append_left _ (List.mem_append_left _ (List.mem_append_left _ (List.mem_append_left _ (List.mem_append_left _ (List.mem_append_left _ (List.mem_append_left _ (List.mem_append_left _ (List.mem_append_left _ (List.mem_append_left _ (List.mem_append_left _ (List.mem_append_left _ (List.mem_append_right _ (List.mem_append_right _ (List.mem_append_right _ (List.mem_append_right _ (List.mem_append_right _ (List.mem_append_left _ h)))))))))))))))))), List.forall_mem_cons.mpr ⟨fun _ h => List.mem_cons_of_mem _ (List.mem_append_left _ (List.mem_append_left _ (List.mem_append_left _ (List.mem_append_left _ (List.mem_append_left _ (List.mem_append_left _ (List.mem_append_left _ (List.mem_append_left _ (List.mem_append_left _ (List.mem_append_left _ (List.mem_append_left _ (List.mem_append_left _ (List.mem_append_right _ (List.mem_append_right _ (List.mem_append_right _ (List.mem_append_right _ (List.mem_append_right _ (List.mem_append_right _ (List.mem_append_left _ h))))))))))))))))))), List.forall_mem_cons.mpr ⟨fun _ h => List.mem_cons_of_mem _ (List.mem_append_left _ (List.mem_append_left _ (List.mem_append_left _ (List.mem_append_left _ (List.mem_append_left _ (List.mem_append_left _ (List.mem_append_left _ (List.mem_append_left _ (List.mem_append_left _ (List.mem_append_left _ (List.mem_append_left _ (List.mem_append_left _ (List.mem_append_right _ (List.mem_append_right _ (List.mem_append_right _ (List.mem_append_right _ (List.mem_append_right _ (List.mem_append_right _ (List.mem_append_right _ h))))))))))))))))))), List.forall_mem_cons.mpr ⟨fun _ h => List.mem_cons_of_mem _ (List.mem_append_left _ (List.mem_append_left _ (List.mem_append_left _ (List.mem_append_left _ (List.mem_append_left _ (List.mem_append_left _ (List.mem_append_left _ (List.mem_append_left _ (List.mem_append_left _ (List.mem_append_left _ (List.mem_append_left _ (List.mem_append_right _ h)))))))))))), List.forall_mem_cons.mpr ⟨fun _ h => List.mem_cons_of_mem _ (List.mem_append_left _ (List.mem_append_left _ (List.mem_append_left _ (List.mem_append_left _ (List.mem_append_left _ (List.mem_append_left _ (List.mem_append_left _ (List.mem_append_left _ (List.mem_append_left _ (List.mem_append_left _ (List.mem_append_right _ h))))))))))), List.forall_mem_cons.mpr ⟨fun _ h => List.mem_cons_of_mem _ (List.mem_append_left _ (List.mem_append_left _ (List.mem_append_left _ (List.mem_append_left _ (List.mem_append_left _ (List.mem_append_left _ (List.mem_append_left _ (List.mem_append_left _ (List.mem_append_left _ (List.mem_append_right _ h)))))))))), List.forall_mem_cons.mpr ⟨fun _ h => List.mem_cons_of_mem _ (List.mem_append_left _ (List.mem_append_left _ (List.mem_append_left _ (List.mem_append_left _ (List.mem_append_left _ (List.mem_append_left _ (List.mem_append_left _ (List.mem_append_left _ (List.mem_append_right _ h))))))))), List.forall_mem_cons.mpr ⟨fun _ h => List.mem_cons_of_mem _ (List.mem_append_left _ (List.mem_append_left _ (List.mem_append_left _ (List.mem_append_left _ (List.mem_append_left _ (List.mem_append_left _ (List.mem_append_left _ (List.mem_append_right _ h)))))))), List.forall_mem_cons.mpr ⟨fun _ h => List.mem_cons_of_mem _ (List.mem_append_left _ (List.mem_append_left _ (List.mem_append_left _ (List.mem_append_left _ (List.mem_append_left _ (List.mem_append_left _ (List.mem_append_right _ h))))))), List.forall_mem_cons.mpr ⟨fun _ h => List.mem_cons_of_mem _ (List.mem_append_left _ (List.mem_append_left _ (List.mem_append_left _ (List.mem_append_left _ (List.mem_append_left _ (List.mem_append_right _ h)))))), List.forall_mem_cons.mpr ⟨fun _ h => List.mem_cons_of_mem _ (List.mem_append_left _ (List.mem_append_left _ (List.mem_append_left _ (List.mem_append_left _ (List.mem_append_right _ h))))), List.forall_mem_cons.mpr ⟨fun _ h => List.mem_cons_of_mem _ (List.mem_append_left _ (List.mem_append_left _ (List.mem_append_left _ (List.mem_append_right _ h)))), List.forall_mem_cons.mpr ⟨fun _ h => List.mem_cons_of_mem _ (List.mem_append_left _ (List.mem_append_left _ (List.mem_append_right _ h))), List.forall_mem_cons.mpr ⟨fun _ h => List.mem_cons_of_mem _ (List.mem_append_left _ (List.mem_append_right _ h)), List.forall_mem_cons.mpr ⟨fun _ h => List.mem_cons_of_mem _ (List.mem_append_right _ h), fun l h => absurd h List.not_mem_nil⟩⟩⟩⟩⟩⟩⟩⟩⟩⟩⟩⟩⟩⟩⟩⟩⟩⟩⟩⟩⟩
set_option maxRecDepth 20000 in
theorem ggX11_init_X9_init : GoodIn wsX11_init wsX9_init := goodIn_sl csX11_init ciX11_init _ [(3, 2, 2), (1, 1, 2), (3, 4, 3), (9, 0, 2)] rfl gw_wsX9_init
set_option maxRecDepth 20000 in
theorem gX11_init_X9_init_n9 : GoodIn wsX11_init (wsX9_init) := ggX11_init_X9_init
set_option maxRecDepth 20000 in
theorem ggX11_init_X4_init : GoodIn wsX11_init wsX4_init := goodIn_sl csX11_init ciX11_init _ [(3, 8, 2), (1, 1, 2), (3, 10, 1), (3, 4, 1), (3, 11, 5), (11, 0, 4)] rfl gw_wsX4_init
set_option maxRecDepth 20000 in
theorem gX11_init_X4_init_n18 : GoodIn wsX11_init (wsX4_init) := ggX11_init_X4_init
set_option maxRecDepth 20000 in
theorem ggX11_init_X2_init : GoodIn wsX11_init wsX2_init := goodIn_sl csX11_init ciX11_init _ [(3, 17, 2), (1, 1, 2), (3, 12, 1), (3, 19, 5), (4, 0, 2), (12, 0, 6)] rfl gw_wsX2_init
set_option maxRecDepth 20000 in
theorem gX11_init_X2_init_n25 : GoodIn wsX11_init (wsX2_init) := ggX11_init_X2_init
set_option maxRecDepth 20000 in
theorem ggX11_init_X3_init : GoodIn wsX11_init wsX3_init := goodIn_sl csX11_init ciX11_init _ [(4, 3, 2), (1, 1, 2), (3, 4, 1), (4, 5, 8), (13, 0, 8)] rfl gw_wsX3_init
set_option maxRecDepth 20000 in
theorem gX11_init_X3_init_n32 : GoodIn wsX11_init (wsX3_init) := ggX11_init_X3_init
set_option maxRecDepth 20000 in
theorem ggX11_init_X1_init : GoodIn wsX11_init wsX1_init := goodIn_sl csX11_init ciX11_init _ [(4, 15, 2), (1, 1, 2), (3, 12, 1), (4, 17, 7), (5, 0, 2), (14, 0, 9)] rfl gw_wsX1_init
set_option maxRecDepth 20000 in
theorem gX11_init_X1_init : GoodIn wsX11_init (wsX1_init) := ggX11_init_X1_init
set_option maxRecDepth 20000 in
theorem ggX11_init_X8_init : GoodIn wsX11_init wsX8_init := goodIn_sl csX11_init ciX11_init _ [(5, 3, 2), (1, 1, 2), (5, 5, 8), (3, 12, 1), (5, 13, 2), (3, 4, 1), (5, 15, 4), (15, 0, 13)] rfl gw_wsX8_init
set_option maxRecDepth 20000 in
theorem gX11_init_X8_init_n56 : GoodIn wsX11_init (wsX8_init) := ggX11_init_X8_init
set_option maxRecDepth 20000 in
theorem ggX11_init_X6_init : GoodIn wsX11_init wsX6_init := goodIn_sl csX11_init ciX11_init _ [(5, 21, 2), (1, 1, 2), (5, 23, 1), (3, 12, 1), (6, 0, 12), (16, 0, 12)] rfl gw_wsX6_init
set_option maxRecDepth 20000 in
theorem gX11_init_X6_init : GoodIn wsX11_init (wsX6_init) := ggX11_init_X6_init
set_option maxRecDepth 20000 in
theorem ggX11_init_X5_init : GoodIn wsX11_init wsX5_init := goodIn_sl csX11_init ciX11_init _ [(6, 14, 2), (1, 1, 2), (3, 12, 1), (6, 16, 8), (7, 0, 3), (17, 0, 10)] rfl gw_wsX5_init
set_option maxRecDepth 20000 in
theorem gX11_init_X5_init : GoodIn wsX11_init (wsX5_init) := ggX11_init_X5_init
set_option maxRecDepth 20000 in
theorem ggX11_init_X10_init : GoodIn wsX11_init wsX10_init := goodIn_sl csX11_init ciX11_init _ [(7, 5, 2), (1, 1, 2), (3, 12, 1), (7, 7, 5), (18, 0, 5)] rfl gw_wsX10_init
set_option maxRecDepth 20000 in
theorem gX11_init_X10_init : GoodIn wsX11_init (wsX10_init) := ggX11_init_X10_init
set_option maxRecDepth 20000 in
theorem ggX11_init_X0_init : GoodIn wsX11_init wsX0_init := goodIn_sl csX11_init ciX11_init _ [(7, 13, 2), (1, 1, 2), (3, 12, 1), (7, 15, 5), (19, 0, 5)] rfl gw_wsX0_init
set_option maxRecDepth 20000 in
theorem gX11_init_X0_init_n90 : GoodIn wsX11_init (wsX0_init) := ggX11_init_X0_init
set_option maxRecDepth 20000 in
theorem ggX11_init_X7_init : GoodIn wsX11_init wsX7_init := goodIn_sl csX11_init ciX11_init _ [(7, 22, 2), (1, 1, 2), (3, 12, 1), (8, 0, 10), (20, 0, 4)] rfl gw_wsX7_init
set_option maxRecDepth 20000 in
theorem gX11_init_X7_init : GoodIn wsX11_init (wsX7_init) := ggX11_init_X7_init
noncomputable def NX11_init : Nat := 4908010606951871882538687085631453797318631075937750176086754525728144893254555074425524853526165639351551658817268694537948620424487722296604321811595545101378131131975358852212513416118083361344850693303817690531453894408644422826153091297390553262957093926699699628955346042906793130094080267865701797565893349273820278507899909863964935997020198835964141053703502647277895597197576011574033228162893626512586498375726890
theorem nX11_init : CN cX11_init NX11_init 176 := ⟨by decide +kernel, by decide +kernel⟩
theorem dX11_init_0 : decode cX11_init 0 = .ok (.aload_n 0, 1) := di_42 nX11_init (Eq.refl true) (Eq.refl true)
theorem dX11_init_1 : decode cX11_init 1 = .ok (.invokespecial 1, 3) := di_183 nX11_init (Eq.refl true) (Eq.refl true) (Eq.refl true)
theorem dX11_init_4 : decode cX11_init 4 = .ok (.aload_n 0, 1) := di_42 nX11_init (Eq.refl true) (Eq.refl true)
theorem dX11_init_5 : decode cX11_init 5 = .ok (.new 7, 3) := di_187 nX11_init (Eq.refl true) (Eq.refl true) (Eq.refl true)
theorem dX11_init_8 : decode cX11_init 8 = .ok (.dup, 1) := di_89 nX11_init (Eq.refl true) (Eq.refl true)
theorem dX11_init_9 : decode cX11_init 9 = .ok (.invokespecial 9, 3) := di_183 nX11_init (Eq.refl true) (Eq.refl true) (Eq.refl true)
theorem dX11_init_12 : decode cX11_init 12 = .ok (.putfield 10, 3) := di_181 nX11_init (Eq.refl true) (Eq.refl true) (Eq.refl true)
theorem dX11_init_15 : decode cX11_init 15 = .ok (.aload_n 0, 1) := di_42 nX11_init (Eq.refl true) (Eq.refl true)
theorem dX11_init_16 : decode cX11_init 16 = .ok (.new 16, 3) := di_187 nX11_init (Eq.refl true) (Eq.refl true) (Eq.refl true)
theorem dX11_init_19 : decode cX11_init 19 = .ok (.dup, 1) := di_89 nX11_init (Eq.refl true) (Eq.refl true)
theorem dX11_init_20 : decode cX11_init 20 = .ok (.invokespecial 18, 3) := di_183 nX11_init (Eq.refl true) (Eq.refl true) (Eq.refl true)
theorem dX11_init_23 : decode cX11_init 23 = .ok (.putfield 19, 3) := di_181 nX11_init (Eq.refl true) (Eq.refl true) (Eq.refl true)
theorem dX11_init_26 : decode cX11_init 26 = .ok (.aload_n 0, 1) := di_42 nX11_init (Eq.refl true) (Eq.refl true)
theorem dX11_init_27 : decode cX11_init 27 = .ok (.new 23, 3) := di_187 nX11_init (Eq.refl true) (Eq.refl true) (Eq.refl true)
theorem dX11_init_30 : decode cX11_init 30 = .ok (.dup, 1) := di_89 nX11_init (Eq.refl true) (Eq.refl true)
theorem dX11_init_31 : decode cX11_init 31 = .ok (.invokespecial 25, 3) := di_183 nX11_init (Eq.refl true) (Eq.refl true) (Eq.refl true)
theorem dX11_init_34 : decode cX11_init 34 = .ok (.putfield 26, 3) := di_181 nX11_init (Eq.refl true) (Eq.refl true) (Eq.refl true)
theorem dX11_init_37 : decode cX11_init 37 = .ok (.aload_n 0, 1) := di_42 nX11_init (Eq.refl true) (Eq.refl true)
theorem dX11_init_38 : decode cX11_init 38 = .ok (.new 30, 3) := di_187 nX11_init (Eq.refl true) (Eq.refl true) (Eq.refl true)
theorem dX11_init_41 : decode cX11_init 41 = .ok (.dup, 1) := di_89 nX11_init (Eq.refl true) (Eq.refl true)
theorem dX11_init_42 : decode cX11_init 42 = .ok (.invokespecial 32, 3) := di_183 nX11_init (Eq.refl true) (Eq.refl true) (Eq.refl true)
theorem dX11_init_45 : decode cX11_init 45 = .ok (.putfield 33, 3) := di_181 nX11_init (Eq.refl true) (Eq.refl true) (Eq.refl true)
theorem dX11_init_48 : decode cX11_init 48 = .ok (.aload_n 0, 1) := di_42 nX11_init (Eq.refl true) (Eq.refl true)
theorem dX11_init_49 : decode cX11_init 49 = .ok (.new 37, 3) := di_187 nX11_init (Eq.refl true) (Eq.refl true) (Eq.refl true)
theorem dX11_init_52 : decode cX11_init 52 = .ok (.dup, 1) := di_89 nX11_init (Eq.refl true) (Eq.refl true)
theorem dX11_init_53 : decode cX11_init 53 = .ok (.aload_n 0, 1) := di_42 nX11_init (Eq.refl true) (Eq.refl true)
theorem dX11_init_54 : decode cX11_init 54 = .ok (.getfield 26, 3) := di_180 nX11_init (Eq.refl true) (Eq.refl true) (Eq.refl true)
theorem dX11_init_57 : decode cX11_init 57 = .ok (.invokespecial 39, 3) := di_183 nX11_init (Eq.refl true) (Eq.refl true) (Eq.refl true)
theorem dX11_init_60 : decode cX11_init 60 = .ok (.putfield 42, 3) := di_181 nX11_init (Eq.refl true) (Eq.refl true) (Eq.refl true)
theorem dX11_init_63 : decode cX11_init 63 = .ok (.aload_n 0, 1) := di_42 nX11_init (Eq.refl true) (Eq.refl true)
theorem dX11_init_64 : decode cX11_init 64 = .ok (.bipush 10, 2) := di_16 (x := 10) nX11_init (Eq.refl true) (Eq.refl true) rfl
theorem dX11_init_66 : decode cX11_init 66 = .ok (.anewarray 46, 3) := di_189 nX11_init (Eq.refl true) (Eq.refl true) (Eq.refl true)
theorem dX11_init_69 : decode cX11_init 69 = .ok (.putfield 48, 3) := di_181 nX11_init (Eq.refl true) (Eq.refl true) (Eq.refl true)
theorem dX11_init_72 : decode cX11_init 72 = .ok (.aload_n 0, 1) := di_42 nX11_init (Eq.refl true) (Eq.refl true)
theorem dX11_init_73 : decode cX11_init 73 = .ok (.iconst 0, 1) := di_3 nX11_init (Eq.refl true) (Eq.refl true)
theorem dX11_init_74 : decode cX11_init 74 = .ok (.putfield 52, 3) := di_181 nX11_init (Eq.refl true) (Eq.refl true) (Eq.refl true)
theorem dX11_init_77 : decode cX11_init 77 = .ok (.aload_n 0, 1) := di_42 nX11_init (Eq.refl true) (Eq.refl true)
theorem dX11_init_78 : decode cX11_init 78 = .ok (.new 46, 3) := di_187 nX11_init (Eq.refl true) (Eq.refl true) (Eq.refl true)
theorem dX11_init_81 : decode cX11_init 81 = .ok (.dup, 1) := di_89 nX11_init (Eq.refl true) (Eq.refl true)
theorem dX11_init_82 : decode cX11_init 82 = .ok (.invokespecial 56, 3) := di_183 nX11_init (Eq.refl true) (Eq.refl true) (Eq.refl true)
theorem dX11_init_85 : decode cX11_init 85 = .ok (.putfield 57, 3) := di_181 nX11_init (Eq.refl true) (Eq.refl true) (Eq.refl true)
theorem dX11_init_88 : decode cX11_init 88 = .ok (.aload_n 0, 1) := di_42 nX11_init (Eq.refl true) (Eq.refl true)
theorem dX11_init_89 : decode cX11_init 89 = .ok (.new 61, 3) := di_187 nX11_init (Eq.refl true) (Eq.refl true) (Eq.refl true)
theorem dX11_init_92 : decode cX11_init 92 = .ok (.dup, 1) := di_89 nX11_init (Eq.refl true) (Eq.refl true)
theorem dX11_init_93 : decode cX11_init 93 = .ok (.aload_n 0, 1) := di_42 nX11_init (Eq.refl true) (Eq.refl true)
theorem dX11_init_94 : decode cX11_init 94 = .ok (.getfield 26, 3) := di_180 nX11_init (Eq.refl true) (Eq.refl true) (Eq.refl true)
theorem dX11_init_97 : decode cX11_init 97 = .ok (.aload_n 0, 1) := di_42 nX11_init (Eq.refl true) (Eq.refl true)
theorem dX11_init_98 : decode cX11_init 98 = .ok (.getfield 19, 3) := di_180 nX11_init (Eq.refl true) (Eq.refl true) (Eq.refl true)
theorem dX11_init_101 : decode cX11_init 101 = .ok (.aload_n 0, 1) := di_42 nX11_init (Eq.refl true) (Eq.refl true)
theorem dX11_init_102 : decode cX11_init 102 = .ok (.getfield 42, 3) := di_180 nX11_init (Eq.refl true) (Eq.refl true) (Eq.refl true)
theorem dX11_init_105 : decode cX11_init 105 = .ok (.invokespecial 63, 3) := di_183 nX11_init (Eq.refl true) (Eq.refl true) (Eq.refl true)
theorem dX11_init_108 : decode cX11_init 108 = .ok (.putfield 66, 3) := di_181 nX11_init (Eq.refl true) (Eq.refl true) (Eq.refl true)
theorem dX11_init_111 : decode cX11_init 111 = .ok (.aload_n 0, 1) := di_42 nX11_init (Eq.refl true) (Eq.refl true)
theorem dX11_init_112 : decode cX11_init 112 = .ok (.new 70, 3) := di_187 nX11_init (Eq.refl true) (Eq.refl true) (Eq.refl true)
theorem dX11_init_115 : decode cX11_init 115 = .ok (.dup, 1) := di_89 nX11_init (Eq.refl true) (Eq.refl true)
theorem dX11_init_116 : decode cX11_init 116 = .ok (.aload_n 0, 1) := di_42 nX11_init (Eq.refl true) (Eq.refl true)
theorem dX11_init_117 : decode cX11_init 117 = .ok (.getfield 26, 3) := di_180 nX11_init (Eq.refl true) (Eq.refl true) (Eq.refl true)
theorem dX11_init_120 : decode cX11_init 120 = .ok (.aload_n 0, 1) := di_42 nX11_init (Eq.refl true) (Eq.refl true)
theorem dX11_init_121 : decode cX11_init 121 = .ok (.getfield 19, 3) := di_180 nX11_init (Eq.refl true) (Eq.refl true) (Eq.refl true)
theorem dX11_init_124 : decode cX11_init 124 = .ok (.aload_n 0, 1) := di_42 nX11_init (Eq.refl true) (Eq.refl true)
theorem dX11_init_125 : decode cX11_init 125 = .ok (.getfield 42, 3) := di_180 nX11_init (Eq.refl true) (Eq.refl true) (Eq.refl true)
theorem dX11_init_128 : decode cX11_init 128 = .ok (.aload_n 0, 1) := di_42 nX11_init (Eq.refl true) (Eq.refl true)
theorem dX11_init_129 : decode cX11_init 129 = .ok (.getfield 33, 3) := di_180 nX11_init (Eq.refl true) (Eq.refl true) (Eq.refl true)
theorem dX11_init_132 : decode cX11_init 132 = .ok (.invokespecial 72, 3) := di_183 nX11_init (Eq.refl true) (Eq.refl true) (Eq.refl true)
theorem dX11_init_135 : decode cX11_init 135 = .ok (.putfield 75, 3) := di_181 nX11_init (Eq.refl true) (Eq.refl true) (Eq.refl true)
theorem dX11_init_138 : decode cX11_init 138 = .ok (.aload_n 0, 1) := di_42 nX11_init (Eq.refl true) (Eq.refl true)
theorem dX11_init_139 : decode cX11_init 139 = .ok (.new 79, 3) := di_187 nX11_init (Eq.refl true) (Eq.refl true) (Eq.refl true)
theorem dX11_init_142 : decode cX11_init 142 = .ok (.dup, 1) := di_89 nX11_init (Eq.refl true) (Eq.refl true)
theorem dX11_init_143 : decode cX11_init 143 = .ok (.aload_n 0, 1) := di_42 nX11_init (Eq.refl true) (Eq.refl true)
theorem dX11_init_144 : decode cX11_init 144 = .ok (.getfield 19, 3) := di_180 nX11_init (Eq.refl true) (Eq.refl true) (Eq.refl true)
theorem dX11_init_147 : decode cX11_init 147 = .ok (.invokespecial 81, 3) := di_183 nX11_init (Eq.refl true) (Eq.refl true) (Eq.refl true)
theorem dX11_init_150 : decode cX11_init 150 = .ok (.putfield 84, 3) := di_181 nX11_init (Eq.refl true) (Eq.refl true) (Eq.refl true)
theorem dX11_init_153 : decode cX11_init 153 = .ok (.aload_n 0, 1) := di_42 nX11_init (Eq.refl true) (Eq.refl true)
theorem dX11_init_154 : decode cX11_init 154 = .ok (.new 88, 3) := di_187 nX11_init (Eq.refl true) (Eq.refl true) (Eq.refl true)
theorem dX11_init_157 : decode cX11_init 157 = .ok (.dup, 1) := di_89 nX11_init (Eq.refl true) (Eq.refl true)
theorem dX11_init_158 : decode cX11_init 158 = .ok (.invokespecial 90, 3) := di_183 nX11_init (Eq.refl true) (Eq.refl true) (Eq.refl true)
theorem dX11_init_161 : decode cX11_init 161 = .ok (.putfield 91, 3) := di_181 nX11_init (Eq.refl true) (Eq.refl true) (Eq.refl true)
theorem dX11_init_164 : decode cX11_init 164 = .ok (.aload_n 0, 1) := di_42 nX11_init (Eq.refl true) (Eq.refl true)
theorem dX11_init_165 : decode cX11_init 165 = .ok (.new 95, 3) := di_187 nX11_init (Eq.refl true) (Eq.refl true) (Eq.refl true)
theorem dX11_init_168 : decode cX11_init 168 = .ok (.dup, 1) := di_89 nX11_init (Eq.refl true) (Eq.refl true)
theorem dX11_init_169 : decode cX11_init 169 = .ok (.invokespecial 97, 3) := di_183 nX11_init (Eq.refl true) (Eq.refl true) (Eq.refl true)
theorem dX11_init_172 : decode cX11_init 172 = .ok (.putfield 98, 3) := di_181 nX11_init (Eq.refl true) (Eq.refl true) (Eq.refl true)
theorem dX11_init_175 : decode cX11_init 175 = .ok (.return_, 1) := di_177 nX11_init (Eq.refl true) (Eq.refl true)
noncomputable def csX11_feed : List (List Cond) := [[Cond.code yX11_feed cX11_feed 3 (some .int)], [Cond.fieldLink RX11 10 "SeatsRound" "tape" "LSeatsRound$Tape;", Cond.fieldLink RX11 102 "SeatsRound$Tape" "length" "I", Cond.methodLink RX11 105 yX9_append, Cond.instanceMethod yX9_append, Cond.selects RX9 yX9_append yX9_append, Cond.initialized RX9, Cond.code yX9_append cX9_append 4 none, Cond.fieldLink RX9 15 "SeatsRound$Tape" "length" "I", Cond.fieldLink RX9 9 "SeatsRound$Tape" "bytes" "[B"], wsX110, wsX90]
set_option maxRecDepth 20000 in
theorem ciX11_feed : ∀ l ∈ csX11_feed, ∀ w ∈ l, w ∈ wsX11_feed := by
  unfold csX11_feed
  refine List.forall_mem_cons.mpr ⟨fun _ h => List.mem_cons.mpr (Or.inl (List.mem_singleton.mp h)), List.forall_mem_cons.mpr ⟨fun _ h => List.mem_cons_of_mem _ (List.mem_append_left _ (List.mem_append_left _ h)), List.forall_mem_cons.mpr ⟨fun _ h => List.mem_cons_of_mem _ (List.mem_append_left _ (List.mem_append_right _ h)), List.forall_mem_cons.mpr ⟨fun _ h => List.mem_cons_of_mem _ (List.mem_append_right _ h), fun l h => absurd h List.not_mem_nil⟩⟩⟩⟩
set_option maxRecDepth 20000 in
theorem ggX11_feed_X9_append : GoodIn wsX11_feed wsX9_append := goodIn_sl csX11_feed ciX11_feed _ [(1, 6, 3), (3, 0, 2)] rfl gw_wsX9_append
set_option maxRecDepth 20000 in
theorem gX11_feed_X9_append : GoodIn wsX11_feed (wsV RX11 105 RX9 yX9_append wsX9_append) := goodIn_app (goodIn_sl csX11_feed ciX11_feed _ [(1, 2, 4)] rfl rfl) ggX11_feed_X9_append
noncomputable def NX11_feed : Nat := 404885096875021243934123986515596839386331643064033427605343121992363711263904887126911106312943319025780327451
theorem nX11_feed : CN cX11_feed NX11_feed 46 := ⟨by decide +kernel, by decide +kernel⟩
theorem dX11_feed_0 : decode cX11_feed 0 = .ok (.iload_n 1, 1) := di_27 nX11_feed (Eq.refl true) (Eq.refl true)
theorem dX11_feed_1 : decode cX11_feed 1 = .ok (.iconst 1, 1) := di_4 nX11_feed (Eq.refl true) (Eq.refl true)
theorem dX11_feed_2 : decode cX11_feed 2 = .ok (.if_icmp .lt 8, 3) := di_161 (x := 8) nX11_feed (Eq.refl true) (Eq.refl true) (Eq.refl true) rfl
theorem dX11_feed_5 : decode cX11_feed 5 = .ok (.iload_n 1, 1) := di_27 nX11_feed (Eq.refl true) (Eq.refl true)
theorem dX11_feed_6 : decode cX11_feed 6 = .ok (.iconst 4, 1) := di_7 nX11_feed (Eq.refl true) (Eq.refl true)
theorem dX11_feed_7 : decode cX11_feed 7 = .ok (.if_icmp .le 5, 3) := di_164 (x := 5) nX11_feed (Eq.refl true) (Eq.refl true) (Eq.refl true) rfl
theorem dX11_feed_10 : decode cX11_feed 10 = .ok (.iconst (-1), 1) := di_2 nX11_feed (Eq.refl true) (Eq.refl true)
theorem dX11_feed_11 : decode cX11_feed 11 = .ok (.ireturn, 1) := di_172 nX11_feed (Eq.refl true) (Eq.refl true)
theorem dX11_feed_12 : decode cX11_feed 12 = .ok (.aload_n 0, 1) := di_42 nX11_feed (Eq.refl true) (Eq.refl true)
theorem dX11_feed_13 : decode cX11_feed 13 = .ok (.getfield 10, 3) := di_180 nX11_feed (Eq.refl true) (Eq.refl true) (Eq.refl true)
theorem dX11_feed_16 : decode cX11_feed 16 = .ok (.getfield 102, 3) := di_180 nX11_feed (Eq.refl true) (Eq.refl true) (Eq.refl true)
theorem dX11_feed_19 : decode cX11_feed 19 = .ok (.iload_n 1, 1) := di_27 nX11_feed (Eq.refl true) (Eq.refl true)
theorem dX11_feed_20 : decode cX11_feed 20 = .ok (.iadd, 1) := di_96 nX11_feed (Eq.refl true) (Eq.refl true)
theorem dX11_feed_21 : decode cX11_feed 21 = .ok (.bipush 80, 2) := di_16 (x := 80) nX11_feed (Eq.refl true) (Eq.refl true) rfl
theorem dX11_feed_23 : decode cX11_feed 23 = .ok (.if_icmp .le 6, 3) := di_164 (x := 6) nX11_feed (Eq.refl true) (Eq.refl true) (Eq.refl true) rfl
theorem dX11_feed_29 : decode cX11_feed 29 = .ok (.aload_n 0, 1) := di_42 nX11_feed (Eq.refl true) (Eq.refl true)
theorem dX11_feed_30 : decode cX11_feed 30 = .ok (.getfield 10, 3) := di_180 nX11_feed (Eq.refl true) (Eq.refl true) (Eq.refl true)
theorem dX11_feed_33 : decode cX11_feed 33 = .ok (.iload_n 1, 1) := di_27 nX11_feed (Eq.refl true) (Eq.refl true)
theorem dX11_feed_34 : decode cX11_feed 34 = .ok (.iload_n 2, 1) := di_28 nX11_feed (Eq.refl true) (Eq.refl true)
theorem dX11_feed_35 : decode cX11_feed 35 = .ok (.invokevirtual 105, 3) := di_182 nX11_feed (Eq.refl true) (Eq.refl true) (Eq.refl true)
theorem dX11_feed_38 : decode cX11_feed 38 = .ok (.aload_n 0, 1) := di_42 nX11_feed (Eq.refl true) (Eq.refl true)
theorem dX11_feed_39 : decode cX11_feed 39 = .ok (.getfield 10, 3) := di_180 nX11_feed (Eq.refl true) (Eq.refl true) (Eq.refl true)
theorem dX11_feed_42 : decode cX11_feed 42 = .ok (.getfield 102, 3) := di_180 nX11_feed (Eq.refl true) (Eq.refl true) (Eq.refl true)
theorem dX11_feed_45 : decode cX11_feed 45 = .ok (.ireturn, 1) := di_172 nX11_feed (Eq.refl true) (Eq.refl true)
noncomputable def NX11_name : Nat := 1147612127957798033475211054507080697553424080644397309279279831910921339744799326619080412582626589000075619561342784734254207013520073886482224178001426520714585335749018465259302797914102043920768440788907741631975158513539880339690498339882
theorem nX11_name : CN cX11_name NX11_name 101 := ⟨by decide +kernel, by decide +kernel⟩
theorem dX11_name_0 : decode cX11_name 0 = .ok (.aload_n 0, 1) := di_42 nX11_name (Eq.refl true) (Eq.refl true)
theorem dX11_name_1 : decode cX11_name 1 = .ok (.getfield 10, 3) := di_180 nX11_name (Eq.refl true) (Eq.refl true) (Eq.refl true)
theorem dX11_name_4 : decode cX11_name 4 = .ok (.getfield 102, 3) := di_180 nX11_name (Eq.refl true) (Eq.refl true) (Eq.refl true)
theorem dX11_name_7 : decode cX11_name 7 = .ok (.iconst 1, 1) := di_4 nX11_name (Eq.refl true) (Eq.refl true)
theorem dX11_name_8 : decode cX11_name 8 = .ok (.if_icmp .lt 15, 3) := di_161 (x := 15) nX11_name (Eq.refl true) (Eq.refl true) (Eq.refl true) rfl
theorem dX11_name_23 : decode cX11_name 23 = .ok (.iconst (-1), 1) := di_2 nX11_name (Eq.refl true) (Eq.refl true)
theorem dX11_name_24 : decode cX11_name 24 = .ok (.ireturn, 1) := di_172 nX11_name (Eq.refl true) (Eq.refl true)
noncomputable def csX11_number : List (List Cond) := [[Cond.code yX11_number cX11_number 3 (some .int)], [Cond.fieldLink RX11 19 "SeatsRound" "nameList" "LSeatsRound$NameList;", Cond.methodLink RX11 123 yX4_has, Cond.instanceMethod yX4_has, Cond.selects RX4 yX4_has yX4_has, Cond.initialized RX4, Cond.code yX4_has cX4_has 2 (some .boolean), Cond.fieldLink RX4 24 "SeatsRound$NameList" "count" "I", Cond.methodLink RX11 127 yX4_placeOf, Cond.instanceMethod yX4_placeOf, Cond.selects RX4 yX4_placeOf yX4_placeOf, Cond.code yX4_placeOf cX4_placeOf 5 (some .int), Cond.fieldLink RX4 16 "SeatsRound$NameList" "size" "[I", Cond.fieldLink RX4 11 "SeatsRound$NameList" "bytes" "[[B", Cond.constant RX4 38 (16777619)], wsX110, wsX40]
set_option maxRecDepth 20000 in
theorem ciX11_number : ∀ l ∈ csX11_number, ∀ w ∈ l, w ∈ wsX11_number := by
  unfold csX11_number
  refine List.forall_mem_cons.mpr ⟨fun _ h => List.mem_cons.mpr (Or.inl (List.mem_singleton.mp h)), List.forall_mem_cons.mpr ⟨fun _ h => List.mem_cons_of_mem _ (List.mem_append_left _ (List.mem_append_left _ h)), List.forall_mem_cons.mpr ⟨fun _ h => List.mem_cons_of_mem _ (List.mem_append_left _ (List.mem_append_right _ h)), List.forall_mem_cons.mpr ⟨fun _ h => List.mem_cons_of_mem _ (List.mem_append_right _ h), fun l h => absurd h List.not_mem_nil⟩⟩⟩⟩
set_option maxRecDepth 20000 in
theorem ggX11_number_X4_has : GoodIn wsX11_number wsX4_has := goodIn_sl csX11_number ciX11_number _ [(1, 5, 2), (3, 0, 4)] rfl gw_wsX4_has
set_option maxRecDepth 20000 in
theorem gX11_number_X4_has : GoodIn wsX11_number (wsV RX11 123 RX4 yX4_has wsX4_has) := goodIn_app (goodIn_sl csX11_number ciX11_number _ [(1, 1, 4)] rfl rfl) ggX11_number_X4_has
noncomputable def NX11_number : Nat := 16521844445204307196547127549641138332869218378623005738
theorem nX11_number : CN cX11_number NX11_number 23 := ⟨by decide +kernel, by decide +kernel⟩
theorem dX11_number_0 : decode cX11_number 0 = .ok (.aload_n 0, 1) := di_42 nX11_number (Eq.refl true) (Eq.refl true)
theorem dX11_number_1 : decode cX11_number 1 = .ok (.getfield 19, 3) := di_180 nX11_number (Eq.refl true) (Eq.refl true) (Eq.refl true)
theorem dX11_number_4 : decode cX11_number 4 = .ok (.iload_n 1, 1) := di_27 nX11_number (Eq.refl true) (Eq.refl true)
theorem dX11_number_5 : decode cX11_number 5 = .ok (.invokevirtual 123, 3) := di_182 nX11_number (Eq.refl true) (Eq.refl true) (Eq.refl true)
theorem dX11_number_8 : decode cX11_number 8 = .ok (.ifCond .ne 5, 3) := di_154 (x := 5) nX11_number (Eq.refl true) (Eq.refl true) (Eq.refl true) rfl
theorem dX11_number_11 : decode cX11_number 11 = .ok (.iconst (-1), 1) := di_2 nX11_number (Eq.refl true) (Eq.refl true)
theorem dX11_number_12 : decode cX11_number 12 = .ok (.ireturn, 1) := di_172 nX11_number (Eq.refl true) (Eq.refl true)
noncomputable def csX11_keeper : List (List Cond) := [[Cond.code yX11_keeper cX11_keeper 3 (some .int)], [Cond.fieldLink RX11 26 "SeatsRound" "keepers" "LSeatsRound$Keepers;", Cond.fieldLink RX11 134 "SeatsRound$Keepers" "count" "I", Cond.methodLink RX11 131 yX11_isStrength, Cond.static yX11_isStrength, Cond.initialized RX11, Cond.code yX11_isStrength cX11_isStrength 1 (some .boolean), Cond.methodLink RX11 135 yX2_add, Cond.instanceMethod yX2_add, Cond.selects RX2 yX2_add yX2_add, Cond.initialized RX2, Cond.code yX2_add cX2_add 3 (some .int), Cond.fieldLink RX2 9 "SeatsRound$Keepers" "kind" "[I", Cond.fieldLink RX2 28 "SeatsRound$Keepers" "count" "I", Cond.fieldLink RX2 15 "SeatsRound$Keepers" "street" "[I", Cond.fieldLink RX2 18 "SeatsRound$Keepers" "strength" "[I", Cond.fieldLink RX2 21 "SeatsRound$Keepers" "table" "[I"], wsX110, wsX20]
set_option maxRecDepth 20000 in
theorem ciX11_keeper : ∀ l ∈ csX11_keeper, ∀ w ∈ l, w ∈ wsX11_keeper := by
  unfold csX11_keeper
  refine List.forall_mem_cons.mpr ⟨fun _ h => List.mem_cons.mpr (Or.inl (List.mem_singleton.mp h)), List.forall_mem_cons.mpr ⟨fun _ h => List.mem_cons_of_mem _ (List.mem_append_left _ (List.mem_append_left _ h)), List.forall_mem_cons.mpr ⟨fun _ h => List.mem_cons_of_mem _ (List.mem_append_left _ (List.mem_append_right _ h)), List.forall_mem_cons.mpr ⟨fun _ h => List.mem_cons_of_mem _ (List.mem_append_right _ h), fun l h => absurd h List.not_mem_nil⟩⟩⟩⟩
set_option maxRecDepth 20000 in
theorem ggX11_keeper_X11_isStrength : GoodIn wsX11_keeper wsX11_isStrength := goodIn_sl csX11_keeper ciX11_keeper _ [(1, 5, 1)] rfl gw_wsX11_isStrength
set_option maxRecDepth 20000 in
theorem gX11_keeper_X11_isStrength : GoodIn wsX11_keeper (va_wsS RX11 131 yX11_isStrength wsX11_isStrength) := goodIn_app (goodIn_sl csX11_keeper ciX11_keeper _ [(1, 2, 3)] rfl rfl) ggX11_keeper_X11_isStrength
set_option maxRecDepth 20000 in
theorem ggX11_keeper_X2_add : GoodIn wsX11_keeper wsX2_add := goodIn_sl csX11_keeper ciX11_keeper _ [(1, 10, 6), (3, 0, 6)] rfl gw_wsX2_add
set_option maxRecDepth 20000 in
theorem gX11_keeper_X2_add : GoodIn wsX11_keeper (wsV RX11 135 RX2 yX2_add wsX2_add) := goodIn_app (goodIn_sl csX11_keeper ciX11_keeper _ [(1, 6, 4)] rfl rfl) ggX11_keeper_X2_add
noncomputable def NX11_keeper : Nat := 24151077209842147813341353127450783518399586016314902788345498556043289452702184369031307342916148566811
theorem nX11_keeper : CN cX11_keeper NX11_keeper 43 := ⟨by decide +kernel, by decide +kernel⟩
theorem dX11_keeper_0 : decode cX11_keeper 0 = .ok (.iload_n 1, 1) := di_27 nX11_keeper (Eq.refl true) (Eq.refl true)
theorem dX11_keeper_1 : decode cX11_keeper 1 = .ok (.ifCond .lt 15, 3) := di_155 (x := 15) nX11_keeper (Eq.refl true) (Eq.refl true) (Eq.refl true) rfl
theorem dX11_keeper_4 : decode cX11_keeper 4 = .ok (.iload_n 1, 1) := di_27 nX11_keeper (Eq.refl true) (Eq.refl true)
theorem dX11_keeper_5 : decode cX11_keeper 5 = .ok (.iconst 5, 1) := di_8 nX11_keeper (Eq.refl true) (Eq.refl true)
theorem dX11_keeper_6 : decode cX11_keeper 6 = .ok (.if_icmp .gt 10, 3) := di_163 (x := 10) nX11_keeper (Eq.refl true) (Eq.refl true) (Eq.refl true) rfl
theorem dX11_keeper_9 : decode cX11_keeper 9 = .ok (.iload_n 2, 1) := di_28 nX11_keeper (Eq.refl true) (Eq.refl true)
theorem dX11_keeper_10 : decode cX11_keeper 10 = .ok (.invokestatic 131, 3) := di_184 nX11_keeper (Eq.refl true) (Eq.refl true) (Eq.refl true)
theorem dX11_keeper_13 : decode cX11_keeper 13 = .ok (.ifCond .ne 5, 3) := di_154 (x := 5) nX11_keeper (Eq.refl true) (Eq.refl true) (Eq.refl true) rfl
theorem dX11_keeper_16 : decode cX11_keeper 16 = .ok (.iconst (-1), 1) := di_2 nX11_keeper (Eq.refl true) (Eq.refl true)
theorem dX11_keeper_17 : decode cX11_keeper 17 = .ok (.ireturn, 1) := di_172 nX11_keeper (Eq.refl true) (Eq.refl true)
theorem dX11_keeper_18 : decode cX11_keeper 18 = .ok (.aload_n 0, 1) := di_42 nX11_keeper (Eq.refl true) (Eq.refl true)
theorem dX11_keeper_19 : decode cX11_keeper 19 = .ok (.getfield 26, 3) := di_180 nX11_keeper (Eq.refl true) (Eq.refl true) (Eq.refl true)
theorem dX11_keeper_22 : decode cX11_keeper 22 = .ok (.getfield 134, 3) := di_180 nX11_keeper (Eq.refl true) (Eq.refl true) (Eq.refl true)
theorem dX11_keeper_25 : decode cX11_keeper 25 = .ok (.bipush 12, 2) := di_16 (x := 12) nX11_keeper (Eq.refl true) (Eq.refl true) rfl
theorem dX11_keeper_27 : decode cX11_keeper 27 = .ok (.if_icmp .lt 6, 3) := di_161 (x := 6) nX11_keeper (Eq.refl true) (Eq.refl true) (Eq.refl true) rfl
theorem dX11_keeper_33 : decode cX11_keeper 33 = .ok (.aload_n 0, 1) := di_42 nX11_keeper (Eq.refl true) (Eq.refl true)
theorem dX11_keeper_34 : decode cX11_keeper 34 = .ok (.getfield 26, 3) := di_180 nX11_keeper (Eq.refl true) (Eq.refl true) (Eq.refl true)
theorem dX11_keeper_37 : decode cX11_keeper 37 = .ok (.iload_n 1, 1) := di_27 nX11_keeper (Eq.refl true) (Eq.refl true)
theorem dX11_keeper_38 : decode cX11_keeper 38 = .ok (.iload_n 2, 1) := di_28 nX11_keeper (Eq.refl true) (Eq.refl true)
theorem dX11_keeper_39 : decode cX11_keeper 39 = .ok (.invokevirtual 135, 3) := di_182 nX11_keeper (Eq.refl true) (Eq.refl true) (Eq.refl true)
theorem dX11_keeper_42 : decode cX11_keeper 42 = .ok (.ireturn, 1) := di_172 nX11_keeper (Eq.refl true) (Eq.refl true)
noncomputable def csX11_become : List (List Cond) := [[Cond.code yX11_become cX11_become 4 (some .int)], wsX11_become_r1, wsX11_become_r2, wsX110, wsX20, wsX60, wsX40]
set_option maxRecDepth 20000 in
theorem ciX11_become : ∀ l ∈ csX11_become, ∀ w ∈ l, w ∈ wsX11_become := by
  unfold csX11_become
  refine List.forall_mem_cons.mpr ⟨fun _ h => List.mem_cons.mpr (Or.inl (List.mem_singleton.mp h)), List.forall_mem_cons.mpr ⟨fun _ h => List.mem_cons_of_mem _ (List.mem_append_left _ (List.mem_append_left _ (List.mem_append_left _ (List.mem_append_left _ (List.mem_append_left _ h))))), List.forall_mem_cons.mpr ⟨fun _ h => List.mem_cons_of_mem _ (List.mem_append_left _ (List.mem_append_left _ (List.mem_append_left _ (List.mem_append_left _ (List.mem_append_right _ h))))), List.forall_mem_cons.mpr ⟨fun _ h => List.mem_cons_of_mem _ (List.mem_append_left _ (List.mem_append_left _ (List.mem_append_left _ (List.mem_append_right _ h)))), List.forall_mem_cons.mpr ⟨fun _ h => List.mem_cons_of_mem _ (List.mem_append_left _ (List.mem_append_left _ (List.mem_append_right _ h))), List.forall_mem_cons.mpr ⟨fun _ h => List.mem_cons_of_mem _ (List.mem_append_left _ (List.mem_append_right _ h)), List.forall_mem_cons.mpr ⟨fun _ h => List.mem_cons_of_mem _ (List.mem_append_right _ h), fun l h => absurd h List.not_mem_nil⟩⟩⟩⟩⟩⟩⟩
set_option maxRecDepth 20000 in
theorem ggX11_become_X2_has : GoodIn wsX11_become wsX2_has := goodIn_sl csX11_become ciX11_become _ [(1, 7, 2), (4, 0, 6)] rfl gw_wsX2_has
set_option maxRecDepth 20000 in
theorem gX11_become_X2_has : GoodIn wsX11_become (wsV RX11 137 RX2 yX2_has wsX2_has) := goodIn_app (goodIn_sl csX11_become ciX11_become _ [(1, 3, 4)] rfl rfl) ggX11_become_X2_has
noncomputable def NX11_become : Nat := 2098833176990470016605073777436889879034098876013329377474385144634552269473616834727780112868971140982511074826857140779164006926179282641269802
theorem nX11_become : CN cX11_become NX11_become 60 := ⟨by decide +kernel, by decide +kernel⟩
theorem dX11_become_0 : decode cX11_become 0 = .ok (.aload_n 0, 1) := di_42 nX11_become (Eq.refl true) (Eq.refl true)
theorem dX11_become_1 : decode cX11_become 1 = .ok (.getfield 26, 3) := di_180 nX11_become (Eq.refl true) (Eq.refl true) (Eq.refl true)
theorem dX11_become_4 : decode cX11_become 4 = .ok (.iload_n 1, 1) := di_27 nX11_become (Eq.refl true) (Eq.refl true)
theorem dX11_become_5 : decode cX11_become 5 = .ok (.invokevirtual 137, 3) := di_182 nX11_become (Eq.refl true) (Eq.refl true) (Eq.refl true)
theorem dX11_become_8 : decode cX11_become 8 = .ok (.ifCond .eq 10, 3) := di_153 (x := 10) nX11_become (Eq.refl true) (Eq.refl true) (Eq.refl true) rfl
theorem dX11_become_18 : decode cX11_become 18 = .ok (.iconst (-1), 1) := di_2 nX11_become (Eq.refl true) (Eq.refl true)
theorem dX11_become_19 : decode cX11_become 19 = .ok (.ireturn, 1) := di_172 nX11_become (Eq.refl true) (Eq.refl true)
noncomputable def csX11_strength : List (List Cond) := [[Cond.code yX11_strength cX11_strength 4 (some .int)], [Cond.fieldLink RX11 26 "SeatsRound" "keepers" "LSeatsRound$Keepers;", Cond.fieldLink RX11 149 "SeatsRound$Keepers" "strength" "[I", Cond.methodLink RX11 137 yX2_has, Cond.instanceMethod yX2_has, Cond.selects RX2 yX2_has yX2_has, Cond.initialized RX2, Cond.code yX2_has cX2_has 2 (some .boolean), Cond.fieldLink RX2 28 "SeatsRound$Keepers" "count" "I", Cond.methodLink RX11 131 yX11_isStrength, Cond.static yX11_isStrength, Cond.initialized RX11, Cond.code yX11_isStrength cX11_isStrength 1 (some .boolean)], wsX110, wsX20]
set_option maxRecDepth 20000 in
theorem ciX11_strength : ∀ l ∈ csX11_strength, ∀ w ∈ l, w ∈ wsX11_strength := by
  unfold csX11_strength
  refine List.forall_mem_cons.mpr ⟨fun _ h => List.mem_cons.mpr (Or.inl (List.mem_singleton.mp h)), List.forall_mem_cons.mpr ⟨fun _ h => List.mem_cons_of_mem _ (List.mem_append_left _ (List.mem_append_left _ h)), List.forall_mem_cons.mpr ⟨fun _ h => List.mem_cons_of_mem _ (List.mem_append_left _ (List.mem_append_right _ h)), List.forall_mem_cons.mpr ⟨fun _ h => List.mem_cons_of_mem _ (List.mem_append_right _ h), fun l h => absurd h List.not_mem_nil⟩⟩⟩⟩
set_option maxRecDepth 20000 in
theorem ggX11_strength_X2_has : GoodIn wsX11_strength wsX2_has := goodIn_sl csX11_strength ciX11_strength _ [(1, 6, 2), (3, 0, 6)] rfl gw_wsX2_has
set_option maxRecDepth 20000 in
theorem gX11_strength_X2_has : GoodIn wsX11_strength (wsV RX11 137 RX2 yX2_has wsX2_has) := goodIn_app (goodIn_sl csX11_strength ciX11_strength _ [(1, 2, 4)] rfl rfl) ggX11_strength_X2_has
noncomputable def NX11_strength : Nat := 94114384858064303495601919095917899074702492704672620574043508619542721902721824389145985195547079722
theorem nX11_strength : CN cX11_strength NX11_strength 42 := ⟨by decide +kernel, by decide +kernel⟩
theorem dX11_strength_0 : decode cX11_strength 0 = .ok (.aload_n 0, 1) := di_42 nX11_strength (Eq.refl true) (Eq.refl true)
theorem dX11_strength_1 : decode cX11_strength 1 = .ok (.getfield 26, 3) := di_180 nX11_strength (Eq.refl true) (Eq.refl true) (Eq.refl true)
theorem dX11_strength_4 : decode cX11_strength 4 = .ok (.iload_n 1, 1) := di_27 nX11_strength (Eq.refl true) (Eq.refl true)
theorem dX11_strength_5 : decode cX11_strength 5 = .ok (.invokevirtual 137, 3) := di_182 nX11_strength (Eq.refl true) (Eq.refl true) (Eq.refl true)
theorem dX11_strength_8 : decode cX11_strength 8 = .ok (.ifCond .eq 10, 3) := di_153 (x := 10) nX11_strength (Eq.refl true) (Eq.refl true) (Eq.refl true) rfl
theorem dX11_strength_18 : decode cX11_strength 18 = .ok (.iconst (-1), 1) := di_2 nX11_strength (Eq.refl true) (Eq.refl true)
theorem dX11_strength_19 : decode cX11_strength 19 = .ok (.ireturn, 1) := di_172 nX11_strength (Eq.refl true) (Eq.refl true)
noncomputable def csX11_ofKeeper : List (List Cond) := [[Cond.code yX11_ofKeeper cX11_ofKeeper 3 (some .int)], wsX11_ofKeeper_r1, wsX11_ofKeeper_r2, wsX110, wsX20, wsX60]
set_option maxRecDepth 20000 in
theorem ciX11_ofKeeper : ∀ l ∈ csX11_ofKeeper, ∀ w ∈ l, w ∈ wsX11_ofKeeper := by
  unfold csX11_ofKeeper
  refine List.forall_mem_cons.mpr ⟨fun _ h => List.mem_cons.mpr (Or.inl (List.mem_singleton.mp h)), List.forall_mem_cons.mpr ⟨fun _ h => List.mem_cons_of_mem _ (List.mem_append_left _ (List.mem_append_left _ (List.mem_append_left _ (List.mem_append_left _ h)))), List.forall_mem_cons.mpr ⟨fun _ h => List.mem_cons_of_mem _ (List.mem_append_left _ (List.mem_append_left _ (List.mem_append_left _ (List.mem_append_right _ h)))), List.forall_mem_cons.mpr ⟨fun _ h => List.mem_cons_of_mem _ (List.mem_append_left _ (List.mem_append_left _ (List.mem_append_right _ h))), List.forall_mem_cons.mpr ⟨fun _ h => List.mem_cons_of_mem _ (List.mem_append_left _ (List.mem_append_right _ h)), List.forall_mem_cons.mpr ⟨fun _ h => List.mem_cons_of_mem _ (List.mem_append_right _ h), fun l h => absurd h List.not_mem_nil⟩⟩⟩⟩⟩⟩
set_option maxRecDepth 20000 in
theorem ggX11_ofKeeper_X2_has : GoodIn wsX11_ofKeeper wsX2_has := goodIn_sl csX11_ofKeeper ciX11_ofKeeper _ [(1, 12, 2), (4, 0, 6)] rfl gw_wsX2_has
set_option maxRecDepth 20000 in
theorem gX11_ofKeeper_X2_has : GoodIn wsX11_ofKeeper (wsV RX11 137 RX2 yX2_has wsX2_has) := goodIn_app (goodIn_sl csX11_ofKeeper ciX11_ofKeeper _ [(1, 8, 4)] rfl rfl) ggX11_ofKeeper_X2_has
noncomputable def NX11_ofKeeper : Nat := 177133491302021044539842148719464531247376734139320474613746713936420975291323081252442182250057220033684744091331210480479301261075774625955978162279244518157168951726273913641107733740355736839492676712437706162091317424524177403048454462842539946264684888597177907407661442098803128729013904973378582014260937483105167622120450861224389252660808411821098
theorem nX11_ofKeeper : CN cX11_ofKeeper NX11_ofKeeper 148 := ⟨by decide +kernel, by decide +kernel⟩
theorem dX11_ofKeeper_0 : decode cX11_ofKeeper 0 = .ok (.aload_n 0, 1) := di_42 nX11_ofKeeper (Eq.refl true) (Eq.refl true)
theorem dX11_ofKeeper_1 : decode cX11_ofKeeper 1 = .ok (.getfield 26, 3) := di_180 nX11_ofKeeper (Eq.refl true) (Eq.refl true) (Eq.refl true)
theorem dX11_ofKeeper_4 : decode cX11_ofKeeper 4 = .ok (.iload_n 1, 1) := di_27 nX11_ofKeeper (Eq.refl true) (Eq.refl true)
theorem dX11_ofKeeper_5 : decode cX11_ofKeeper 5 = .ok (.invokevirtual 137, 3) := di_182 nX11_ofKeeper (Eq.refl true) (Eq.refl true) (Eq.refl true)
theorem dX11_ofKeeper_8 : decode cX11_ofKeeper 8 = .ok (.ifCond .ne 6, 3) := di_154 (x := 6) nX11_ofKeeper (Eq.refl true) (Eq.refl true) (Eq.refl true) rfl
theorem dX11_ofKeeper_11 : decode cX11_ofKeeper 11 = .ok (.ldc 152, 2) := di_18 nX11_ofKeeper (Eq.refl true) (Eq.refl true)
theorem dX11_ofKeeper_13 : decode cX11_ofKeeper 13 = .ok (.ireturn, 1) := di_172 nX11_ofKeeper (Eq.refl true) (Eq.refl true)
noncomputable def NX11_isKind : Nat := 228642873346908414640777661109581683482
theorem nX11_isKind : CN cX11_isKind NX11_isKind 16 := ⟨by decide +kernel, by decide +kernel⟩
theorem dX11_isKind_0 : decode cX11_isKind 0 = .ok (.iload_n 0, 1) := di_26 nX11_isKind (Eq.refl true) (Eq.refl true)
theorem dX11_isKind_1 : decode cX11_isKind 1 = .ok (.ifCond .lt 13, 3) := di_155 (x := 13) nX11_isKind (Eq.refl true) (Eq.refl true) (Eq.refl true) rfl
theorem dX11_isKind_4 : decode cX11_isKind 4 = .ok (.iload_n 0, 1) := di_26 nX11_isKind (Eq.refl true) (Eq.refl true)
theorem dX11_isKind_5 : decode cX11_isKind 5 = .ok (.bipush 6, 2) := di_16 (x := 6) nX11_isKind (Eq.refl true) (Eq.refl true) rfl
theorem dX11_isKind_7 : decode cX11_isKind 7 = .ok (.if_icmp .gt 7, 3) := di_163 (x := 7) nX11_isKind (Eq.refl true) (Eq.refl true) (Eq.refl true) rfl
theorem dX11_isKind_10 : decode cX11_isKind 10 = .ok (.iconst 1, 1) := di_4 nX11_isKind (Eq.refl true) (Eq.refl true)
theorem dX11_isKind_11 : decode cX11_isKind 11 = .ok (.goto 4, 3) := di_167 (x := 4) nX11_isKind (Eq.refl true) (Eq.refl true) (Eq.refl true) rfl
theorem dX11_isKind_14 : decode cX11_isKind 14 = .ok (.iconst 0, 1) := di_3 nX11_isKind (Eq.refl true) (Eq.refl true)
theorem dX11_isKind_15 : decode cX11_isKind 15 = .ok (.ireturn, 1) := di_172 nX11_isKind (Eq.refl true) (Eq.refl true)
noncomputable def NX11_isStrength : Nat := 58532575576808554148039225359240987214874
theorem nX11_isStrength : CN cX11_isStrength NX11_isStrength 17 := ⟨by decide +kernel, by decide +kernel⟩
theorem dX11_isStrength_0 : decode cX11_isStrength 0 = .ok (.iload_n 0, 1) := di_26 nX11_isStrength (Eq.refl true) (Eq.refl true)
theorem dX11_isStrength_1 : decode cX11_isStrength 1 = .ok (.iconst 1, 1) := di_4 nX11_isStrength (Eq.refl true) (Eq.refl true)
theorem dX11_isStrength_2 : decode cX11_isStrength 2 = .ok (.if_icmp .lt 13, 3) := di_161 (x := 13) nX11_isStrength (Eq.refl true) (Eq.refl true) (Eq.refl true) rfl
theorem dX11_isStrength_5 : decode cX11_isStrength 5 = .ok (.iload_n 0, 1) := di_26 nX11_isStrength (Eq.refl true) (Eq.refl true)
theorem dX11_isStrength_6 : decode cX11_isStrength 6 = .ok (.bipush 8, 2) := di_16 (x := 8) nX11_isStrength (Eq.refl true) (Eq.refl true) rfl
theorem dX11_isStrength_8 : decode cX11_isStrength 8 = .ok (.if_icmp .gt 7, 3) := di_163 (x := 7) nX11_isStrength (Eq.refl true) (Eq.refl true) (Eq.refl true) rfl
theorem dX11_isStrength_11 : decode cX11_isStrength 11 = .ok (.iconst 1, 1) := di_4 nX11_isStrength (Eq.refl true) (Eq.refl true)
theorem dX11_isStrength_12 : decode cX11_isStrength 12 = .ok (.goto 4, 3) := di_167 (x := 4) nX11_isStrength (Eq.refl true) (Eq.refl true) (Eq.refl true) rfl
theorem dX11_isStrength_15 : decode cX11_isStrength 15 = .ok (.iconst 0, 1) := di_3 nX11_isStrength (Eq.refl true) (Eq.refl true)
theorem dX11_isStrength_16 : decode cX11_isStrength 16 = .ok (.ireturn, 1) := di_172 nX11_isStrength (Eq.refl true) (Eq.refl true)
noncomputable def NX11_table : Nat := 14017426589891155195220667496541412677871294099700014491786326700008454291837734059875158207080351093721886327121696990662518045538699964842240060453057938303272547372519525818439677489662487444901193208859589495438357939117405500493159447325463954850898417640269658550902956236187108895138367191283810402081065575132935393593843428629047990768024568755632775875984005189407526817638916
theorem nX11_table : CN cX11_table NX11_table 160 := ⟨by decide +kernel, by decide +kernel⟩
theorem dX11_table_0 : decode cX11_table 0 = .ok (.iconst 1, 1) := di_4 nX11_table (Eq.refl true) (Eq.refl true)
theorem dX11_table_1 : decode cX11_table 1 = .ok (.aload_n 0, 1) := di_42 nX11_table (Eq.refl true) (Eq.refl true)
theorem dX11_table_2 : decode cX11_table 2 = .ok (.getfield 26, 3) := di_180 nX11_table (Eq.refl true) (Eq.refl true) (Eq.refl true)
theorem dX11_table_5 : decode cX11_table 5 = .ok (.getfield 134, 3) := di_180 nX11_table (Eq.refl true) (Eq.refl true) (Eq.refl true)
theorem dX11_table_8 : decode cX11_table 8 = .ok (.ishl, 1) := di_120 nX11_table (Eq.refl true) (Eq.refl true)
theorem dX11_table_9 : decode cX11_table 9 = .ok (.iconst 1, 1) := di_4 nX11_table (Eq.refl true) (Eq.refl true)
theorem dX11_table_10 : decode cX11_table 10 = .ok (.isub, 1) := di_100 nX11_table (Eq.refl true) (Eq.refl true)
theorem dX11_table_11 : decode cX11_table 11 = .ok (.istore_n 3, 1) := di_62 nX11_table (Eq.refl true) (Eq.refl true)
theorem dX11_table_12 : decode cX11_table 12 = .ok (.iload_n 1, 1) := di_27 nX11_table (Eq.refl true) (Eq.refl true)
theorem dX11_table_13 : decode cX11_table 13 = .ok (.ifCond .eq 11, 3) := di_153 (x := 11) nX11_table (Eq.refl true) (Eq.refl true) (Eq.refl true) rfl
theorem dX11_table_16 : decode cX11_table 16 = .ok (.iload_n 1, 1) := di_27 nX11_table (Eq.refl true) (Eq.refl true)
theorem dX11_table_17 : decode cX11_table 17 = .ok (.iload_n 3, 1) := di_29 nX11_table (Eq.refl true) (Eq.refl true)
theorem dX11_table_18 : decode cX11_table 18 = .ok (.iconst (-1), 1) := di_2 nX11_table (Eq.refl true) (Eq.refl true)
theorem dX11_table_19 : decode cX11_table 19 = .ok (.ixor, 1) := di_130 nX11_table (Eq.refl true) (Eq.refl true)
theorem dX11_table_20 : decode cX11_table 20 = .ok (.iand, 1) := di_126 nX11_table (Eq.refl true) (Eq.refl true)
theorem dX11_table_21 : decode cX11_table 21 = .ok (.ifCond .eq 5, 3) := di_153 (x := 5) nX11_table (Eq.refl true) (Eq.refl true) (Eq.refl true) rfl
theorem dX11_table_24 : decode cX11_table 24 = .ok (.iconst (-1), 1) := di_2 nX11_table (Eq.refl true) (Eq.refl true)
theorem dX11_table_25 : decode cX11_table 25 = .ok (.ireturn, 1) := di_172 nX11_table (Eq.refl true) (Eq.refl true)
noncomputable def csX11_ofTable : List (List Cond) := [[Cond.code yX11_ofTable cX11_ofTable 4 (some .int)], wsX11_ofTable_r1, wsX11_ofTable_r2, wsX11_ofTable_r3, wsX80, wsX110]
set_option maxRecDepth 20000 in
theorem ciX11_ofTable : ∀ l ∈ csX11_ofTable, ∀ w ∈ l, w ∈ wsX11_ofTable := by
  unfold csX11_ofTable
  refine List.forall_mem_cons.mpr ⟨fun _ h => List.mem_cons.mpr (Or.inl (List.mem_singleton.mp h)), List.forall_mem_cons.mpr ⟨fun _ h => List.mem_cons_of_mem _ (List.mem_append_left _ (List.mem_append_left _ (List.mem_append_left _ h))), List.forall_mem_cons.mpr ⟨fun _ h => List.mem_cons_of_mem _ (List.mem_append_left _ (List.mem_append_left _ (List.mem_append_right _ (List.mem_append_left _ h)))), List.forall_mem_cons.mpr ⟨fun _ h => List.mem_cons_of_mem _ (List.mem_append_left _ (List.mem_append_left _ (List.mem_append_right _ (List.mem_append_right _ h)))), List.forall_mem_cons.mpr ⟨fun _ h => List.mem_cons_of_mem _ (List.mem_append_left _ (List.mem_append_right _ h)), List.forall_mem_cons.mpr ⟨fun _ h => List.mem_cons_of_mem _ (List.mem_append_right _ h), fun l h => absurd h List.not_mem_nil⟩⟩⟩⟩⟩⟩
set_option maxRecDepth 20000 in
theorem ggX11_ofTable_X11_tableAt : GoodIn wsX11_ofTable wsX11_tableAt := goodIn_sl csX11_ofTable ciX11_ofTable _ [(1, 9, 3), (5, 0, 13)] rfl gw_wsX11_tableAt
set_option maxRecDepth 20000 in
theorem gX11_ofTable_X11_tableAt : GoodIn wsX11_ofTable (wsV RX11 192 RX11 yX11_tableAt wsX11_tableAt) := goodIn_app (goodIn_sl csX11_ofTable ciX11_ofTable _ [(1, 5, 4)] rfl rfl) ggX11_ofTable_X11_tableAt
noncomputable def NX11_ofTable : Nat := 13166548761681169007503033936740777199922042884170264890033733536338065323648557702347956058348084990787720772899396263125370355166140896007517681796818413010937764086041327103868344203627313157058730794
theorem nX11_ofTable : CN cX11_ofTable NX11_ofTable 84 := ⟨by decide +kernel, by decide +kernel⟩
theorem dX11_ofTable_0 : decode cX11_ofTable 0 = .ok (.aload_n 0, 1) := di_42 nX11_ofTable (Eq.refl true) (Eq.refl true)
theorem dX11_ofTable_1 : decode cX11_ofTable 1 = .ok (.iload_n 1, 1) := di_27 nX11_ofTable (Eq.refl true) (Eq.refl true)
theorem dX11_ofTable_2 : decode cX11_ofTable 2 = .ok (.invokevirtual 192, 3) := di_182 nX11_ofTable (Eq.refl true) (Eq.refl true) (Eq.refl true)
theorem dX11_ofTable_5 : decode cX11_ofTable 5 = .ok (.astore_n 3, 1) := di_78 nX11_ofTable (Eq.refl true) (Eq.refl true)
theorem dX11_ofTable_6 : decode cX11_ofTable 6 = .ok (.aload_n 3, 1) := di_45 nX11_ofTable (Eq.refl true) (Eq.refl true)
theorem dX11_ofTable_7 : decode cX11_ofTable 7 = .ok (.ifnonnull 5, 3) := di_199 (x := 5) nX11_ofTable (Eq.refl true) (Eq.refl true) (Eq.refl true) rfl
theorem dX11_ofTable_10 : decode cX11_ofTable 10 = .ok (.iconst (-1), 1) := di_2 nX11_ofTable (Eq.refl true) (Eq.refl true)
theorem dX11_ofTable_11 : decode cX11_ofTable 11 = .ok (.ireturn, 1) := di_172 nX11_ofTable (Eq.refl true) (Eq.refl true)
noncomputable def csX11_seat : List (List Cond) := [[Cond.code yX11_seat cX11_seat 4 (some .int)], [Cond.fieldLink RX11 218 "SeatsRound$Table" "owner" "[B", Cond.methodLink RX11 192 yX11_tableAt, Cond.instanceMethod yX11_tableAt, Cond.selects RX11 yX11_tableAt yX11_tableAt, Cond.initialized RX11, Cond.code yX11_tableAt cX11_tableAt 2 (some (.object "SeatsRound$Table")), Cond.fieldLink RX11 52 "SeatsRound" "tableCount" "I", Cond.fieldLink RX11 48 "SeatsRound" "tables" "[LSeatsRound$Table;", Cond.methodLink RX11 215 yX11_isPlace, Cond.static yX11_isPlace, Cond.code yX11_isPlace cX11_isPlace 1 (some .boolean)], wsX80, wsX110]
set_option maxRecDepth 20000 in
theorem ciX11_seat : ∀ l ∈ csX11_seat, ∀ w ∈ l, w ∈ wsX11_seat := by
  unfold csX11_seat
  refine List.forall_mem_cons.mpr ⟨fun _ h => List.mem_cons.mpr (Or.inl (List.mem_singleton.mp h)), List.forall_mem_cons.mpr ⟨fun _ h => List.mem_cons_of_mem _ (List.mem_append_left _ (List.mem_append_left _ h)), List.forall_mem_cons.mpr ⟨fun _ h => List.mem_cons_of_mem _ (List.mem_append_left _ (List.mem_append_right _ h)), List.forall_mem_cons.mpr ⟨fun _ h => List.mem_cons_of_mem _ (List.mem_append_right _ h), fun l h => absurd h List.not_mem_nil⟩⟩⟩⟩
set_option maxRecDepth 20000 in
theorem ggX11_seat_X11_tableAt : GoodIn wsX11_seat wsX11_tableAt := goodIn_sl csX11_seat ciX11_seat _ [(1, 5, 3), (3, 0, 13)] rfl gw_wsX11_tableAt
set_option maxRecDepth 20000 in
theorem gX11_seat_X11_tableAt : GoodIn wsX11_seat (wsV RX11 192 RX11 yX11_tableAt wsX11_tableAt) := goodIn_app (goodIn_sl csX11_seat ciX11_seat _ [(1, 1, 4)] rfl rfl) ggX11_seat_X11_tableAt
noncomputable def NX11_seat : Nat := 367816239192791500536788241887921652254170166029312273639046033567729912603948163675541752430074666
theorem nX11_seat : CN cX11_seat NX11_seat 41 := ⟨by decide +kernel, by decide +kernel⟩
theorem dX11_seat_0 : decode cX11_seat 0 = .ok (.aload_n 0, 1) := di_42 nX11_seat (Eq.refl true) (Eq.refl true)
theorem dX11_seat_1 : decode cX11_seat 1 = .ok (.iload_n 1, 1) := di_27 nX11_seat (Eq.refl true) (Eq.refl true)
theorem dX11_seat_2 : decode cX11_seat 2 = .ok (.invokevirtual 192, 3) := di_182 nX11_seat (Eq.refl true) (Eq.refl true) (Eq.refl true)
theorem dX11_seat_5 : decode cX11_seat 5 = .ok (.astore_n 3, 1) := di_78 nX11_seat (Eq.refl true) (Eq.refl true)
theorem dX11_seat_6 : decode cX11_seat 6 = .ok (.aload_n 3, 1) := di_45 nX11_seat (Eq.refl true) (Eq.refl true)
theorem dX11_seat_7 : decode cX11_seat 7 = .ok (.ifnull 10, 3) := di_198 (x := 10) nX11_seat (Eq.refl true) (Eq.refl true) (Eq.refl true) rfl
theorem dX11_seat_17 : decode cX11_seat 17 = .ok (.iconst (-1), 1) := di_2 nX11_seat (Eq.refl true) (Eq.refl true)
theorem dX11_seat_18 : decode cX11_seat 18 = .ok (.ireturn, 1) := di_172 nX11_seat (Eq.refl true) (Eq.refl true)
noncomputable def csX11_picked : List (List Cond) := [[Cond.code yX11_picked cX11_picked 5 (some .int)], wsX11_picked_r1, wsX11_picked_r2, wsX11_picked_r3, wsX110, wsX10, wsX80]
set_option maxRecDepth 20000 in
theorem ciX11_picked : ∀ l ∈ csX11_picked, ∀ w ∈ l, w ∈ wsX11_picked := by
  unfold csX11_picked
  refine List.forall_mem_cons.mpr ⟨fun _ h => List.mem_cons.mpr (Or.inl (List.mem_singleton.mp h)), List.forall_mem_cons.mpr ⟨fun _ h => List.mem_cons_of_mem _ (List.mem_append_left _ (List.mem_append_left _ (List.mem_append_left _ (List.mem_append_left _ h)))), List.forall_mem_cons.mpr ⟨fun _ h => List.mem_cons_of_mem _ (List.mem_append_left _ (List.mem_append_left _ (List.mem_append_left _ (List.mem_append_right _ (List.mem_append_left _ h))))), List.forall_mem_cons.mpr ⟨fun _ h => List.mem_cons_of_mem _ (List.mem_append_left _ (List.mem_append_left _ (List.mem_append_left _ (List.mem_append_right _ (List.mem_append_right _ h))))), List.forall_mem_cons.mpr ⟨fun _ h => List.mem_cons_of_mem _ (List.mem_append_left _ (List.mem_append_left _ (List.mem_append_right _ h))), List.forall_mem_cons.mpr ⟨fun _ h => List.mem_cons_of_mem _ (List.mem_append_left _ (List.mem_append_right _ h)), List.forall_mem_cons.mpr ⟨fun _ h => List.mem_cons_of_mem _ (List.mem_append_right _ h), fun l h => absurd h List.not_mem_nil⟩⟩⟩⟩⟩⟩⟩
set_option maxRecDepth 20000 in
theorem ggX11_picked_X11_tableAt : GoodIn wsX11_picked wsX11_tableAt := goodIn_sl csX11_picked ciX11_picked _ [(1, 7, 3), (4, 0, 13)] rfl gw_wsX11_tableAt
set_option maxRecDepth 20000 in
theorem gX11_picked_X11_tableAt : GoodIn wsX11_picked (wsV RX11 192 RX11 yX11_tableAt wsX11_tableAt) := goodIn_app (goodIn_sl csX11_picked ciX11_picked _ [(1, 3, 4)] rfl rfl) ggX11_picked_X11_tableAt
noncomputable def NX11_picked : Nat := 2097520820206341998174190343185577826178196095263170505749032988294391762660821578806926505527155446062414819043975296754970997547541394718333738
theorem nX11_picked : CN cX11_picked NX11_picked 60 := ⟨by decide +kernel, by decide +kernel⟩
theorem dX11_picked_0 : decode cX11_picked 0 = .ok (.aload_n 0, 1) := di_42 nX11_picked (Eq.refl true) (Eq.refl true)
theorem dX11_picked_1 : decode cX11_picked 1 = .ok (.iload_n 1, 1) := di_27 nX11_picked (Eq.refl true) (Eq.refl true)
theorem dX11_picked_2 : decode cX11_picked 2 = .ok (.invokevirtual 192, 3) := di_182 nX11_picked (Eq.refl true) (Eq.refl true) (Eq.refl true)
theorem dX11_picked_5 : decode cX11_picked 5 = .ok (.astore 4, 2) := di_58 nX11_picked (Eq.refl true) (Eq.refl true)
theorem dX11_picked_7 : decode cX11_picked 7 = .ok (.aload 4, 2) := di_25 nX11_picked (Eq.refl true) (Eq.refl true)
theorem dX11_picked_9 : decode cX11_picked 9 = .ok (.ifnull 14, 3) := di_198 (x := 14) nX11_picked (Eq.refl true) (Eq.refl true) (Eq.refl true) rfl
theorem dX11_picked_23 : decode cX11_picked 23 = .ok (.iconst (-1), 1) := di_2 nX11_picked (Eq.refl true) (Eq.refl true)
theorem dX11_picked_24 : decode cX11_picked 24 = .ok (.ireturn, 1) := di_172 nX11_picked (Eq.refl true) (Eq.refl true)
noncomputable def csX11_keeperOf : List (List Cond) := [[Cond.code yX11_keeperOf cX11_keeperOf 5 (some .int)], wsX11_keeperOf_r1, wsX11_keeperOf_r2, wsX11_keeperOf_r3, wsX11_keeperOf_r4, wsX11_keeperOf_r5, wsX110, wsX80, wsX10, wsX40, wsX20]
set_option maxRecDepth 20000 in
theorem ciX11_keeperOf : ∀ l ∈ csX11_keeperOf, ∀ w ∈ l, w ∈ wsX11_keeperOf := by
  unfold csX11_keeperOf
  refine List.forall_mem_cons.mpr ⟨fun _ h => List.mem_cons.mpr (Or.inl (List.mem_singleton.mp h)), List.forall_mem_cons.mpr ⟨fun _ h => List.mem_cons_of_mem _ (List.mem_append_left _ (List.mem_append_left _ (List.mem_append_left _ (List.mem_append_left _ (List.mem_append_left _ (List.mem_append_left _ h)))))), List.forall_mem_cons.mpr ⟨fun _ h => List.mem_cons_of_mem _ (List.mem_append_left _ (List.mem_append_left _ (List.mem_append_left _ (List.mem_append_left _ (List.mem_append_left _ (List.mem_append_right _ (List.mem_append_left _ h))))))), List.forall_mem_cons.mpr ⟨fun _ h => List.mem_cons_of_mem _ (List.mem_append_left _ (List.mem_append_left _ (List.mem_append_left _ (List.mem_append_left _ (List.mem_append_left _ (List.mem_append_right _ (List.mem_append_right _ (List.mem_append_left _ h)))))))), List.forall_mem_cons.mpr ⟨fun _ h => List.mem_cons_of_mem _ (List.mem_append_left _ (List.mem_append_left _ (List.mem_append_left _ (List.mem_append_left _ (List.mem_append_left _ (List.mem_append_right _ (List.mem_append_right _ (List.mem_append_right _ (List.mem_append_left _ h))))))))), List.forall_mem_cons.mpr ⟨fun _ h => List.mem_cons_of_mem _ (List.mem_append_left _ (List.mem_append_left _ (List.mem_append_left _ (List.mem_append_left _ (List.mem_append_left _ (List.mem_append_right _ (List.mem_append_right _ (List.mem_append_right _ (List.mem_append_right _ h))))))))), List.forall_mem_cons.mpr ⟨fun _ h => List.mem_cons_of_mem _ (List.mem_append_left _ (List.mem_append_left _ (List.mem_append_left _ (List.mem_append_left _ (List.mem_append_right _ h))))), List.forall_mem_cons.mpr ⟨fun _ h => List.mem_cons_of_mem _ (List.mem_append_left _ (List.mem_append_left _ (List.mem_append_left _ (List.mem_append_right _ h)))), List.forall_mem_cons.mpr ⟨fun _ h => List.mem_cons_of_mem _ (List.mem_append_left _ (List.mem_append_left _ (List.mem_append_right _ h))), List.forall_mem_cons.mpr ⟨fun _ h => List.mem_cons_of_mem _ (List.mem_append_left _ (List.mem_append_right _ h)), List.forall_mem_cons.mpr ⟨fun _ h => List.mem_cons_of_mem _ (List.mem_append_right _ h), fun l h => absurd h List.not_mem_nil⟩⟩⟩⟩⟩⟩⟩⟩⟩⟩⟩
set_option maxRecDepth 20000 in
theorem ggX11_keeperOf_X11_tableAt : GoodIn wsX11_keeperOf wsX11_tableAt := goodIn_sl csX11_keeperOf ciX11_keeperOf _ [(1, 9, 3), (6, 0, 13)] rfl gw_wsX11_tableAt
set_option maxRecDepth 20000 in
theorem gX11_keeperOf_X11_tableAt : GoodIn wsX11_keeperOf (wsV RX11 192 RX11 yX11_tableAt wsX11_tableAt) := goodIn_app (goodIn_sl csX11_keeperOf ciX11_keeperOf _ [(1, 5, 4)] rfl rfl) ggX11_keeperOf_X11_tableAt
noncomputable def NX11_keeperOf : Nat := 3705998504493124574665332678208381021256602751269980280865760832826068816233490181127761129913453794950203937292263917399780404503614511196279467094505638104934605426882265694012412917633110497537818280017400715156266
theorem nX11_keeperOf : CN cX11_keeperOf NX11_keeperOf 90 := ⟨by decide +kernel, by decide +kernel⟩
theorem dX11_keeperOf_0 : decode cX11_keeperOf 0 = .ok (.aload_n 0, 1) := di_42 nX11_keeperOf (Eq.refl true) (Eq.refl true)
theorem dX11_keeperOf_1 : decode cX11_keeperOf 1 = .ok (.iload_n 1, 1) := di_27 nX11_keeperOf (Eq.refl true) (Eq.refl true)
theorem dX11_keeperOf_2 : decode cX11_keeperOf 2 = .ok (.invokevirtual 192, 3) := di_182 nX11_keeperOf (Eq.refl true) (Eq.refl true) (Eq.refl true)
theorem dX11_keeperOf_5 : decode cX11_keeperOf 5 = .ok (.astore 4, 2) := di_58 nX11_keeperOf (Eq.refl true) (Eq.refl true)
theorem dX11_keeperOf_7 : decode cX11_keeperOf 7 = .ok (.aload 4, 2) := di_25 nX11_keeperOf (Eq.refl true) (Eq.refl true)
theorem dX11_keeperOf_9 : decode cX11_keeperOf 9 = .ok (.ifnull 19, 3) := di_198 (x := 19) nX11_keeperOf (Eq.refl true) (Eq.refl true) (Eq.refl true) rfl
theorem dX11_keeperOf_28 : decode cX11_keeperOf 28 = .ok (.iconst (-1), 1) := di_2 nX11_keeperOf (Eq.refl true) (Eq.refl true)
theorem dX11_keeperOf_29 : decode cX11_keeperOf 29 = .ok (.ireturn, 1) := di_172 nX11_keeperOf (Eq.refl true) (Eq.refl true)
noncomputable def csX11_tooFew : List (List Cond) := [[Cond.code yX11_tooFew cX11_tooFew 5 (some .int)], wsX11_tooFew_r1, wsX11_tooFew_r2, wsX11_tooFew_r3, wsX11_tooFew_r4, wsX11_tooFew_r5, wsX110, wsX40, wsX80, wsX10, wsX20]
set_option maxRecDepth 20000 in
theorem ciX11_tooFew : ∀ l ∈ csX11_tooFew, ∀ w ∈ l, w ∈ wsX11_tooFew := by
  unfold csX11_tooFew
  refine List.forall_mem_cons.mpr ⟨fun _ h => List.mem_cons.mpr (Or.inl (List.mem_singleton.mp h)), List.forall_mem_cons.mpr ⟨fun _ h => List.mem_cons_of_mem _ (List.mem_append_left _ (List.mem_append_left _ (List.mem_append_left _ (List.mem_append_left _ (List.mem_append_left _ (List.mem_append_left _ h)))))), List.forall_mem_cons.mpr ⟨fun _ h => List.mem_cons_of_mem _ (List.mem_append_left _ (List.mem_append_left _ (List.mem_append_left _ (List.mem_append_left _ (List.mem_append_left _ (List.mem_append_right _ (List.mem_append_left _ h))))))), List.forall_mem_cons.mpr ⟨fun _ h => List.mem_cons_of_mem _ (List.mem_append_left _ (List.mem_append_left _ (List.mem_append_left _ (List.mem_append_left _ (List.mem_append_left _ (List.mem_append_right _ (List.mem_append_right _ (List.mem_append_left _ h)))))))), List.forall_mem_cons.mpr ⟨fun _ h => List.mem_cons_of_mem _ (List.mem_append_left _ (List.mem_append_left _ (List.mem_append_left _ (List.mem_append_left _ (List.mem_append_left _ (List.mem_append_right _ (List.mem_append_right _ (List.mem_append_right _ (List.mem_append_left _ h))))))))), List.forall_mem_cons.mpr ⟨fun _ h => List.mem_cons_of_mem _ (List.mem_append_left _ (List.mem_append_left _ (List.mem_append_left _ (List.mem_append_left _ (List.mem_append_left _ (List.mem_append_right _ (List.mem_append_right _ (List.mem_append_right _ (List.mem_append_right _ h))))))))), List.forall_mem_cons.mpr ⟨fun _ h => List.mem_cons_of_mem _ (List.mem_append_left _ (List.mem_append_left _ (List.mem_append_left _ (List.mem_append_left _ (List.mem_append_right _ h))))), List.forall_mem_cons.mpr ⟨fun _ h => List.mem_cons_of_mem _ (List.mem_append_left _ (List.mem_append_left _ (List.mem_append_left _ (List.mem_append_right _ h)))), List.forall_mem_cons.mpr ⟨fun _ h => List.mem_cons_of_mem _ (List.mem_append_left _ (List.mem_append_left _ (List.mem_append_right _ h))), List.forall_mem_cons.mpr ⟨fun _ h => List.mem_cons_of_mem _ (List.mem_append_left _ (List.mem_append_right _ h)), List.forall_mem_cons.mpr ⟨fun _ h => List.mem_cons_of_mem _ (List.mem_append_right _ h), fun l h => absurd h List.not_mem_nil⟩⟩⟩⟩⟩⟩⟩⟩⟩⟩⟩
set_option maxRecDepth 20000 in
theorem ggX11_tooFew_X11_tableAt : GoodIn wsX11_tooFew wsX11_tableAt := goodIn_sl csX11_tooFew ciX11_tooFew _ [(1, 10, 3), (6, 0, 13)] rfl gw_wsX11_tableAt
set_option maxRecDepth 20000 in
theorem gX11_tooFew_X11_tableAt : GoodIn wsX11_tooFew (wsV RX11 192 RX11 yX11_tableAt wsX11_tableAt) := goodIn_app (goodIn_sl csX11_tooFew ciX11_tooFew _ [(1, 6, 4)] rfl rfl) ggX11_tooFew_X11_tableAt
noncomputable def NX11_tooFew : Nat := 46805776249993571176262319923115677550250795351873460012962950815292689032263393797036850965124867085781642966620682567132349817539931170772187919873268624728556949199741549399540862688042
theorem nX11_tooFew : CN cX11_tooFew NX11_tooFew 78 := ⟨by decide +kernel, by decide +kernel⟩
theorem dX11_tooFew_0 : decode cX11_tooFew 0 = .ok (.aload_n 0, 1) := di_42 nX11_tooFew (Eq.refl true) (Eq.refl true)
theorem dX11_tooFew_1 : decode cX11_tooFew 1 = .ok (.iload_n 1, 1) := di_27 nX11_tooFew (Eq.refl true) (Eq.refl true)
theorem dX11_tooFew_2 : decode cX11_tooFew 2 = .ok (.invokevirtual 192, 3) := di_182 nX11_tooFew (Eq.refl true) (Eq.refl true) (Eq.refl true)
theorem dX11_tooFew_5 : decode cX11_tooFew 5 = .ok (.astore_n 2, 1) := di_77 nX11_tooFew (Eq.refl true) (Eq.refl true)
theorem dX11_tooFew_6 : decode cX11_tooFew 6 = .ok (.aload_n 2, 1) := di_44 nX11_tooFew (Eq.refl true) (Eq.refl true)
theorem dX11_tooFew_7 : decode cX11_tooFew 7 = .ok (.ifnonnull 5, 3) := di_199 (x := 5) nX11_tooFew (Eq.refl true) (Eq.refl true) (Eq.refl true) rfl
theorem dX11_tooFew_10 : decode cX11_tooFew 10 = .ok (.iconst (-1), 1) := di_2 nX11_tooFew (Eq.refl true) (Eq.refl true)
theorem dX11_tooFew_11 : decode cX11_tooFew 11 = .ok (.ireturn, 1) := di_172 nX11_tooFew (Eq.refl true) (Eq.refl true)
noncomputable def csX11_share : List (List Cond) := [[Cond.code yX11_share cX11_share 7 (some .int)], wsX11_share_r1, wsX11_share_r2, wsX11_share_r3, wsX110, wsX80, wsX40, wsX20]
set_option maxRecDepth 20000 in
theorem ciX11_share : ∀ l ∈ csX11_share, ∀ w ∈ l, w ∈ wsX11_share := by
  unfold csX11_share
  refine List.forall_mem_cons.mpr ⟨fun _ h => List.mem_cons.mpr (Or.inl (List.mem_singleton.mp h)), List.forall_mem_cons.mpr ⟨fun _ h => List.mem_cons_of_mem _ (List.mem_append_left _ (List.mem_append_left _ (List.mem_append_left _ (List.mem_append_left _ (List.mem_append_left _ h))))), List.forall_mem_cons.mpr ⟨fun _ h => List.mem_cons_of_mem _ (List.mem_append_left _ (List.mem_append_left _ (List.mem_append_left _ (List.mem_append_left _ (List.mem_append_right _ (List.mem_append_left _ h)))))), List.forall_mem_cons.mpr ⟨fun _ h => List.mem_cons_of_mem _ (List.mem_append_left _ (List.mem_append_left _ (List.mem_append_left _ (List.mem_append_left _ (List.mem_append_right _ (List.mem_append_right _ h)))))), List.forall_mem_cons.mpr ⟨fun _ h => List.mem_cons_of_mem _ (List.mem_append_left _ (List.mem_append_left _ (List.mem_append_left _ (List.mem_append_right _ h)))), List.forall_mem_cons.mpr ⟨fun _ h => List.mem_cons_of_mem _ (List.mem_append_left _ (List.mem_append_left _ (List.mem_append_right _ h))), List.forall_mem_cons.mpr ⟨fun _ h => List.mem_cons_of_mem _ (List.mem_append_left _ (List.mem_append_right _ h)), List.forall_mem_cons.mpr ⟨fun _ h => List.mem_cons_of_mem _ (List.mem_append_right _ h), fun l h => absurd h List.not_mem_nil⟩⟩⟩⟩⟩⟩⟩⟩
set_option maxRecDepth 20000 in
theorem ggX11_share_X11_tableAt : GoodIn wsX11_share wsX11_tableAt := goodIn_sl csX11_share ciX11_share _ [(1, 9, 3), (4, 0, 13)] rfl gw_wsX11_tableAt
set_option maxRecDepth 20000 in
theorem gX11_share_X11_tableAt : GoodIn wsX11_share (wsV RX11 192 RX11 yX11_tableAt wsX11_tableAt) := goodIn_app (goodIn_sl csX11_share ciX11_share _ [(1, 5, 4)] rfl rfl) ggX11_share_X11_tableAt
noncomputable def NX11_share : Nat := 4926460373176930386709951591853758128760269562058002074235281194752109443445771856555398024926511980850724813072921217126764349916612778959243506248287998877068110961717836583931489568505021658351874262262831579913850094571127327774080466289498669849386
theorem nX11_share : CN cX11_share NX11_share 105 := ⟨by decide +kernel, by decide +kernel⟩
theorem dX11_share_0 : decode cX11_share 0 = .ok (.aload_n 0, 1) := di_42 nX11_share (Eq.refl true) (Eq.refl true)
theorem dX11_share_1 : decode cX11_share 1 = .ok (.iload_n 1, 1) := di_27 nX11_share (Eq.refl true) (Eq.refl true)
theorem dX11_share_2 : decode cX11_share 2 = .ok (.invokevirtual 192, 3) := di_182 nX11_share (Eq.refl true) (Eq.refl true) (Eq.refl true)
theorem dX11_share_5 : decode cX11_share 5 = .ok (.astore 4, 2) := di_58 nX11_share (Eq.refl true) (Eq.refl true)
theorem dX11_share_7 : decode cX11_share 7 = .ok (.aload 4, 2) := di_25 nX11_share (Eq.refl true) (Eq.refl true)
theorem dX11_share_9 : decode cX11_share 9 = .ok (.ifnull 23, 3) := di_198 (x := 23) nX11_share (Eq.refl true) (Eq.refl true) (Eq.refl true) rfl
theorem dX11_share_32 : decode cX11_share 32 = .ok (.iconst (-1), 1) := di_2 nX11_share (Eq.refl true) (Eq.refl true)
theorem dX11_share_33 : decode cX11_share 33 = .ok (.ireturn, 1) := di_172 nX11_share (Eq.refl true) (Eq.refl true)
noncomputable def csX11_moves : List (List Cond) := [[Cond.code yX11_moves cX11_moves 11 (some .int)], wsX11_moves_r1, wsX11_moves_r2, wsX11_moves_r3, wsX11_moves_r4, wsX11_moves_r5, wsX110, wsX40, wsX80, wsX10, wsX20]
set_option maxRecDepth 20000 in
theorem ciX11_moves : ∀ l ∈ csX11_moves, ∀ w ∈ l, w ∈ wsX11_moves := by
  unfold csX11_moves
  refine List.forall_mem_cons.mpr ⟨fun _ h => List.mem_cons.mpr (Or.inl (List.mem_singleton.mp h)), List.forall_mem_cons.mpr ⟨fun _ h => List.mem_cons_of_mem _ (List.mem_append_left _ (List.mem_append_left _ (List.mem_append_left _ (List.mem_append_left _ (List.mem_append_left _ (List.mem_append_left _ h)))))), List.forall_mem_cons.mpr ⟨fun _ h => List.mem_cons_of_mem _ (List.mem_append_left _ (List.mem_append_left _ (List.mem_append_left _ (List.mem_append_left _ (List.mem_append_left _ (List.mem_append_right _ (List.mem_append_left _ h))))))), List.forall_mem_cons.mpr ⟨fun _ h => List.mem_cons_of_mem _ (List.mem_append_left _ (List.mem_append_left _ (List.mem_append_left _ (List.mem_append_left _ (List.mem_append_left _ (List.mem_append_right _ (List.mem_append_right _ (List.mem_append_left _ h)))))))), List.forall_mem_cons.mpr ⟨fun _ h => List.mem_cons_of_mem _ (List.mem_append_left _ (List.mem_append_left _ (List.mem_append_left _ (List.mem_append_left _ (List.mem_append_left _ (List.mem_append_right _ (List.mem_append_right _ (List.mem_append_right _ (List.mem_append_left _ h))))))))), List.forall_mem_cons.mpr ⟨fun _ h => List.mem_cons_of_mem _ (List.mem_append_left _ (List.mem_append_left _ (List.mem_append_left _ (List.mem_append_left _ (List.mem_append_left _ (List.mem_append_right _ (List.mem_append_right _ (List.mem_append_right _ (List.mem_append_right _ h))))))))), List.forall_mem_cons.mpr ⟨fun _ h => List.mem_cons_of_mem _ (List.mem_append_left _ (List.mem_append_left _ (List.mem_append_left _ (List.mem_append_left _ (List.mem_append_right _ h))))), List.forall_mem_cons.mpr ⟨fun _ h => List.mem_cons_of_mem _ (List.mem_append_left _ (List.mem_append_left _ (List.mem_append_left _ (List.mem_append_right _ h)))), List.forall_mem_cons.mpr ⟨fun _ h => List.mem_cons_of_mem _ (List.mem_append_left _ (List.mem_append_left _ (List.mem_append_right _ h))), List.forall_mem_cons.mpr ⟨fun _ h => List.mem_cons_of_mem _ (List.mem_append_left _ (List.mem_append_right _ h)), List.forall_mem_cons.mpr ⟨fun _ h => List.mem_cons_of_mem _ (List.mem_append_right _ h), fun l h => absurd h List.not_mem_nil⟩⟩⟩⟩⟩⟩⟩⟩⟩⟩⟩
set_option maxRecDepth 20000 in
theorem ggX11_moves_X11_tableAt : GoodIn wsX11_moves wsX11_tableAt := goodIn_sl csX11_moves ciX11_moves _ [(1, 9, 3), (6, 0, 13)] rfl gw_wsX11_tableAt
set_option maxRecDepth 20000 in
theorem gX11_moves_X11_tableAt : GoodIn wsX11_moves (wsV RX11 192 RX11 yX11_tableAt wsX11_tableAt) := goodIn_app (goodIn_sl csX11_moves ciX11_moves _ [(1, 5, 4)] rfl rfl) ggX11_moves_X11_tableAt
noncomputable def NX11_moves : Nat := 4759838775957503735445843041407357991067474011902262009550272347427168942277988090161848671614398382372577614058789362589637346744226945623014006024887795664291511164183662308636096284511604657705966051972572347816829875341196457585096506669948055386486868754108917295959003921087986592227852128628103909464537521322146032465458777865450599417620984263459737665978427462357355509966145343343741239630177436636321394862725930
theorem nX11_moves : CN cX11_moves NX11_moves 176 := ⟨by decide +kernel, by decide +kernel⟩
theorem dX11_moves_0 : decode cX11_moves 0 = .ok (.aload_n 0, 1) := di_42 nX11_moves (Eq.refl true) (Eq.refl true)
theorem dX11_moves_1 : decode cX11_moves 1 = .ok (.iload_n 1, 1) := di_27 nX11_moves (Eq.refl true) (Eq.refl true)
theorem dX11_moves_2 : decode cX11_moves 2 = .ok (.invokevirtual 192, 3) := di_182 nX11_moves (Eq.refl true) (Eq.refl true) (Eq.refl true)
theorem dX11_moves_5 : decode cX11_moves 5 = .ok (.astore 4, 2) := di_58 nX11_moves (Eq.refl true) (Eq.refl true)
theorem dX11_moves_7 : decode cX11_moves 7 = .ok (.aload_n 0, 1) := di_42 nX11_moves (Eq.refl true) (Eq.refl true)
theorem dX11_moves_8 : decode cX11_moves 8 = .ok (.iload_n 2, 1) := di_28 nX11_moves (Eq.refl true) (Eq.refl true)
theorem dX11_moves_9 : decode cX11_moves 9 = .ok (.invokevirtual 192, 3) := di_182 nX11_moves (Eq.refl true) (Eq.refl true) (Eq.refl true)
theorem dX11_moves_12 : decode cX11_moves 12 = .ok (.astore 5, 2) := di_58 nX11_moves (Eq.refl true) (Eq.refl true)
theorem dX11_moves_14 : decode cX11_moves 14 = .ok (.aload 4, 2) := di_25 nX11_moves (Eq.refl true) (Eq.refl true)
theorem dX11_moves_16 : decode cX11_moves 16 = .ok (.ifnull 17, 3) := di_198 (x := 17) nX11_moves (Eq.refl true) (Eq.refl true) (Eq.refl true) rfl
theorem dX11_moves_33 : decode cX11_moves 33 = .ok (.iconst (-1), 1) := di_2 nX11_moves (Eq.refl true) (Eq.refl true)
theorem dX11_moves_34 : decode cX11_moves 34 = .ok (.ireturn, 1) := di_172 nX11_moves (Eq.refl true) (Eq.refl true)
noncomputable def NX11_tableAt : Nat := 16857830943679072790582257161719247810682042208076471067
theorem nX11_tableAt : CN cX11_tableAt NX11_tableAt 23 := ⟨by decide +kernel, by decide +kernel⟩
theorem dX11_tableAt_0 : decode cX11_tableAt 0 = .ok (.iload_n 1, 1) := di_27 nX11_tableAt (Eq.refl true) (Eq.refl true)
theorem dX11_tableAt_1 : decode cX11_tableAt 1 = .ok (.ifCond .lt 20, 3) := di_155 (x := 20) nX11_tableAt (Eq.refl true) (Eq.refl true) (Eq.refl true) rfl
theorem dX11_tableAt_4 : decode cX11_tableAt 4 = .ok (.iload_n 1, 1) := di_27 nX11_tableAt (Eq.refl true) (Eq.refl true)
theorem dX11_tableAt_5 : decode cX11_tableAt 5 = .ok (.aload_n 0, 1) := di_42 nX11_tableAt (Eq.refl true) (Eq.refl true)
theorem dX11_tableAt_6 : decode cX11_tableAt 6 = .ok (.getfield 52, 3) := di_180 nX11_tableAt (Eq.refl true) (Eq.refl true) (Eq.refl true)
theorem dX11_tableAt_9 : decode cX11_tableAt 9 = .ok (.if_icmp .ge 12, 3) := di_162 (x := 12) nX11_tableAt (Eq.refl true) (Eq.refl true) (Eq.refl true) rfl
theorem dX11_tableAt_21 : decode cX11_tableAt 21 = .ok (.aconst_null, 1) := di_1 nX11_tableAt (Eq.refl true) (Eq.refl true)
theorem dX11_tableAt_22 : decode cX11_tableAt 22 = .ok (.areturn, 1) := di_176 nX11_tableAt (Eq.refl true) (Eq.refl true)
noncomputable def NX11_isPlace : Nat := 58532575576808554148036915847217530575642
theorem nX11_isPlace : CN cX11_isPlace NX11_isPlace 17 := ⟨by decide +kernel, by decide +kernel⟩
theorem dX11_isPlace_0 : decode cX11_isPlace 0 = .ok (.iload_n 0, 1) := di_26 nX11_isPlace (Eq.refl true) (Eq.refl true)
theorem dX11_isPlace_1 : decode cX11_isPlace 1 = .ok (.ifCond .lt 14, 3) := di_155 (x := 14) nX11_isPlace (Eq.refl true) (Eq.refl true) (Eq.refl true) rfl
theorem dX11_isPlace_4 : decode cX11_isPlace 4 = .ok (.iload_n 0, 1) := di_26 nX11_isPlace (Eq.refl true) (Eq.refl true)
theorem dX11_isPlace_5 : decode cX11_isPlace 5 = .ok (.sipush 1000, 3) := di_17 (x := 1000) nX11_isPlace (Eq.refl true) (Eq.refl true) (Eq.refl true) rfl
theorem dX11_isPlace_8 : decode cX11_isPlace 8 = .ok (.if_icmp .ge 7, 3) := di_162 (x := 7) nX11_isPlace (Eq.refl true) (Eq.refl true) (Eq.refl true) rfl
theorem dX11_isPlace_11 : decode cX11_isPlace 11 = .ok (.iconst 1, 1) := di_4 nX11_isPlace (Eq.refl true) (Eq.refl true)
theorem dX11_isPlace_12 : decode cX11_isPlace 12 = .ok (.goto 4, 3) := di_167 (x := 4) nX11_isPlace (Eq.refl true) (Eq.refl true) (Eq.refl true) rfl
theorem dX11_isPlace_15 : decode cX11_isPlace 15 = .ok (.iconst 0, 1) := di_3 nX11_isPlace (Eq.refl true) (Eq.refl true)
theorem dX11_isPlace_16 : decode cX11_isPlace 16 = .ok (.ireturn, 1) := di_172 nX11_isPlace (Eq.refl true) (Eq.refl true)
noncomputable def csX11_knows : List (List Cond) := [[Cond.code yX11_knows cX11_knows 4 (some .int)], [Cond.fieldLink RX11 26 "SeatsRound" "keepers" "LSeatsRound$Keepers;", Cond.fieldLink RX11 52 "SeatsRound" "tableCount" "I", Cond.constant RX11 152 (-2000000000), Cond.fieldLink RX11 160 "SeatsRound$Keepers" "table" "[I", Cond.methodLink RX11 137 yX2_has, Cond.instanceMethod yX2_has, Cond.selects RX2 yX2_has yX2_has, Cond.initialized RX2, Cond.code yX2_has cX2_has 2 (some .boolean), Cond.fieldLink RX2 28 "SeatsRound$Keepers" "count" "I"], wsX110, wsX20]
set_option maxRecDepth 20000 in
theorem ciX11_knows : ∀ l ∈ csX11_knows, ∀ w ∈ l, w ∈ wsX11_knows := by
  unfold csX11_knows
  refine List.forall_mem_cons.mpr ⟨fun _ h => List.mem_cons.mpr (Or.inl (List.mem_singleton.mp h)), List.forall_mem_cons.mpr ⟨fun _ h => List.mem_cons_of_mem _ (List.mem_append_left _ (List.mem_append_left _ h)), List.forall_mem_cons.mpr ⟨fun _ h => List.mem_cons_of_mem _ (List.mem_append_left _ (List.mem_append_right _ h)), List.forall_mem_cons.mpr ⟨fun _ h => List.mem_cons_of_mem _ (List.mem_append_right _ h), fun l h => absurd h List.not_mem_nil⟩⟩⟩⟩
set_option maxRecDepth 20000 in
theorem ggX11_knows_X2_has : GoodIn wsX11_knows wsX2_has := goodIn_sl csX11_knows ciX11_knows _ [(1, 8, 2), (3, 0, 6)] rfl gw_wsX2_has
set_option maxRecDepth 20000 in
theorem gX11_knows_X2_has : GoodIn wsX11_knows (wsV RX11 137 RX2 yX2_has wsX2_has) := goodIn_app (goodIn_sl csX11_knows ciX11_knows _ [(1, 4, 4)] rfl rfl) ggX11_knows_X2_has
noncomputable def NX11_knows : Nat := 6781656137232103767829519152241323007972490396946268774745175769971733117325704557919637486004897381921241741855339562
theorem nX11_knows : CN cX11_knows NX11_knows 49 := ⟨by decide +kernel, by decide +kernel⟩
theorem dX11_knows_0 : decode cX11_knows 0 = .ok (.aload_n 0, 1) := di_42 nX11_knows (Eq.refl true) (Eq.refl true)
theorem dX11_knows_1 : decode cX11_knows 1 = .ok (.getfield 26, 3) := di_180 nX11_knows (Eq.refl true) (Eq.refl true) (Eq.refl true)
theorem dX11_knows_4 : decode cX11_knows 4 = .ok (.iload_n 1, 1) := di_27 nX11_knows (Eq.refl true) (Eq.refl true)
theorem dX11_knows_5 : decode cX11_knows 5 = .ok (.invokevirtual 137, 3) := di_182 nX11_knows (Eq.refl true) (Eq.refl true) (Eq.refl true)
theorem dX11_knows_8 : decode cX11_knows 8 = .ok (.ifCond .eq 16, 3) := di_153 (x := 16) nX11_knows (Eq.refl true) (Eq.refl true) (Eq.refl true) rfl
theorem dX11_knows_24 : decode cX11_knows 24 = .ok (.ldc 152, 2) := di_18 nX11_knows (Eq.refl true) (Eq.refl true)
theorem dX11_knows_26 : decode cX11_knows 26 = .ok (.ireturn, 1) := di_172 nX11_knows (Eq.refl true) (Eq.refl true)
noncomputable def csX11_write : List (List Cond) := [[Cond.code yX11_write cX11_write 4 (some .int)], wsX11_write_r1, wsX11_write_r2, wsX11_write_r3, wsX11_write_r4, wsX11_write_r5, wsX11_write_r6, wsX11_write_r7, wsX110, wsX20, wsX40, wsX60, wsX80, wsX10]
set_option maxRecDepth 20000 in
theorem ciX11_write : ∀ l ∈ csX11_write, ∀ w ∈ l, w ∈ wsX11_write := by
  unfold csX11_write
  refine List.forall_mem_cons.mpr ⟨fun _ h => List.mem_cons.mpr (Or.inl (List.mem_singleton.mp h)), List.forall_mem_cons.mpr ⟨fun _ h => List.mem_cons_of_mem _ (List.mem_append_left _ (List.mem_append_left _ (List.mem_append_left _ (List.mem_append_left _ (List.mem_append_left _ (List.mem_append_left _ (List.mem_append_left _ h))))))), List.forall_mem_cons.mpr ⟨fun _ h => List.mem_cons_of_mem _ (List.mem_append_left _ (List.mem_append_left _ (List.mem_append_left _ (List.mem_append_left _ (List.mem_append_left _ (List.mem_append_left _ (List.mem_append_right _ (List.mem_append_left _ h)))))))), List.forall_mem_cons.mpr ⟨fun _ h => List.mem_cons_of_mem _ (List.mem_append_left _ (List.mem_append_left _ (List.mem_append_left _ (List.mem_append_left _ (List.mem_append_left _ (List.mem_append_left _ (List.mem_append_right _ (List.mem_append_right _ (List.mem_append_left _ h))))))))), List.forall_mem_cons.mpr ⟨fun _ h => List.mem_cons_of_mem _ (List.mem_append_left _ (List.mem_append_left _ (List.mem_append_left _ (List.mem_append_left _ (List.mem_append_left _ (List.mem_append_left _ (List.mem_append_right _ (List.mem_append_right _ (List.mem_append_right _ (List.mem_append_left _ h)))))))))), List.forall_mem_cons.mpr ⟨fun _ h => List.mem_cons_of_mem _ (List.mem_append_left _ (List.mem_append_left _ (List.mem_append_left _ (List.mem_append_left _ (List.mem_append_left _ (List.mem_append_left _ (List.mem_append_right _ (List.mem_append_right _ (List.mem_append_right _ (List.mem_append_right _ (List.mem_append_left _ h))))))))))), List.forall_mem_cons.mpr ⟨fun _ h => List.mem_cons_of_mem _ (List.mem_append_left _ (List.mem_append_left _ (List.mem_append_left _ (List.mem_append_left _ (List.mem_append_left _ (List.mem_append_left _ (List.mem_append_right _ (List.mem_append_right _ (List.mem_append_right _ (List.mem_append_right _ (List.mem_append_right _ (List.mem_append_left _ h)))))))))))), List.forall_mem_cons.mpr ⟨fun _ h => List.mem_cons_of_mem _ (List.mem_append_left _ (List.mem_append_left _ (List.mem_append_left _ (List.mem_append_left _ (List.mem_append_left _ (List.mem_append_left _ (List.mem_append_right _ (List.mem_append_right _ (List.mem_append_right _ (List.mem_append_right _ (List.mem_append_right _ (List.mem_append_right _ h)))))))))))), List.forall_mem_cons.mpr ⟨fun _ h => List.mem_cons_of_mem _ (List.mem_append_left _ (List.mem_append_left _ (List.mem_append_left _ (List.mem_append_left _ (List.mem_append_left _ (List.mem_append_right _ h)))))), List.forall_mem_cons.mpr ⟨fun _ h => List.mem_cons_of_mem _ (List.mem_append_left _ (List.mem_append_left _ (List.mem_append_left _ (List.mem_append_left _ (List.mem_append_right _ h))))), List.forall_mem_cons.mpr ⟨fun _ h => List.mem_cons_of_mem _ (List.mem_append_left _ (List.mem_append_left _ (List.mem_append_left _ (List.mem_append_right _ h)))), List.forall_mem_cons.mpr ⟨fun _ h => List.mem_cons_of_mem _ (List.mem_append_left _ (List.mem_append_left _ (List.mem_append_right _ h))), List.forall_mem_cons.mpr ⟨fun _ h => List.mem_cons_of_mem _ (List.mem_append_left _ (List.mem_append_right _ h)), List.forall_mem_cons.mpr ⟨fun _ h => List.mem_cons_of_mem _ (List.mem_append_right _ h), fun l h => absurd h List.not_mem_nil⟩⟩⟩⟩⟩⟩⟩⟩⟩⟩⟩⟩⟩⟩
set_option maxRecDepth 20000 in
theorem ggX11_write_X2_has : GoodIn wsX11_write wsX2_has := goodIn_sl csX11_write ciX11_write _ [(1, 8, 2), (9, 0, 6)] rfl gw_wsX2_has
set_option maxRecDepth 20000 in
theorem gX11_write_X2_has : GoodIn wsX11_write (wsV RX11 137 RX2 yX2_has wsX2_has) := goodIn_app (goodIn_sl csX11_write ciX11_write _ [(1, 4, 4)] rfl rfl) ggX11_write_X2_has
noncomputable def NX11_write : Nat := 590560397713837500157472323759929686290386243231752954011511112292572743689334103242811213462126912043031671039621081730929465224398672389721868660142365520938
theorem nX11_write : CN cX11_write NX11_write 66 := ⟨by decide +kernel, by decide +kernel⟩
theorem dX11_write_0 : decode cX11_write 0 = .ok (.aload_n 0, 1) := di_42 nX11_write (Eq.refl true) (Eq.refl true)
theorem dX11_write_1 : decode cX11_write 1 = .ok (.getfield 26, 3) := di_180 nX11_write (Eq.refl true) (Eq.refl true) (Eq.refl true)
theorem dX11_write_4 : decode cX11_write 4 = .ok (.iload_n 1, 1) := di_27 nX11_write (Eq.refl true) (Eq.refl true)
theorem dX11_write_5 : decode cX11_write 5 = .ok (.invokevirtual 137, 3) := di_182 nX11_write (Eq.refl true) (Eq.refl true) (Eq.refl true)
theorem dX11_write_8 : decode cX11_write 8 = .ok (.ifCond .eq 14, 3) := di_153 (x := 14) nX11_write (Eq.refl true) (Eq.refl true) (Eq.refl true) rfl
theorem dX11_write_22 : decode cX11_write 22 = .ok (.iconst (-1), 1) := di_2 nX11_write (Eq.refl true) (Eq.refl true)
theorem dX11_write_23 : decode cX11_write 23 = .ok (.ireturn, 1) := di_172 nX11_write (Eq.refl true) (Eq.refl true)
noncomputable def csX11_read : List (List Cond) := [[Cond.code yX11_read cX11_read 4 (some .int)], wsX11_read_r1, wsX11_read_r2, wsX11_read_r3, wsX11_read_r4, wsX11_read_r5, wsX11_read_r6, wsX110, wsX20, wsX40, wsX60, wsX80, wsX10]
set_option maxRecDepth 20000 in
theorem ciX11_read : ∀ l ∈ csX11_read, ∀ w ∈ l, w ∈ wsX11_read := by
  unfold csX11_read
  refine List.forall_mem_cons.mpr ⟨fun _ h => List.mem_cons.mpr (Or.inl (List.mem_singleton.mp h)), List.forall_mem_cons.mpr ⟨fun _ h => List.mem_cons_of_mem _ (List.mem_append_left _ (List.mem_append_left _ (List.mem_append_left _ (List.mem_append_left _ (List.mem_append_left _ (List.mem_append_left _ (List.mem_append_left _ h))))))), List.forall_mem_cons.mpr ⟨fun _ h => List.mem_cons_of_mem _ (List.mem_append_left _ (List.mem_append_left _ (List.mem_append_left _ (List.mem_append_left _ (List.mem_append_left _ (List.mem_append_left _ (List.mem_append_right _ (List.mem_append_left _ h)))))))), List.forall_mem_cons.mpr ⟨fun _ h => List.mem_cons_of_mem _ (List.mem_append_left _ (List.mem_append_left _ (List.mem_append_left _ (List.mem_append_left _ (List.mem_append_left _ (List.mem_append_left _ (List.mem_append_right _ (List.mem_append_right _ (List.mem_append_left _ h))))))))), List.forall_mem_cons.mpr ⟨fun _ h => List.mem_cons_of_mem _ (List.mem_append_left _ (List.mem_append_left _ (List.mem_append_left _ (List.mem_append_left _ (List.mem_append_left _ (List.mem_append_left _ (List.mem_append_right _ (List.mem_append_right _ (List.mem_append_right _ (List.mem_append_left _ h)))))))))), List.forall_mem_cons.mpr ⟨fun _ h => List.mem_cons_of_mem _ (List.mem_append_left _ (List.mem_append_left _ (List.mem_append_left _ (List.mem_append_left _ (List.mem_append_left _ (List.mem_append_left _ (List.mem_append_right _ (List.mem_append_right _ (List.mem_append_right _ (List.mem_append_right _ (List.mem_append_left _ h))))))))))), List.forall_mem_cons.mpr ⟨fun _ h => List.mem_cons_of_mem _ (List.mem_append_left _ (List.mem_append_left _ (List.mem_append_left _ (List.mem_append_left _ (List.mem_append_left _ (List.mem_append_left _ (List.mem_append_right _ (List.mem_append_right _ (List.mem_append_right _ (List.mem_append_right _ (List.mem_append_right _ h))))))))))), List.forall_mem_cons.mpr ⟨fun _ h => List.mem_cons_of_mem _ (List.mem_append_left _ (List.mem_append_left _ (List.mem_append_left _ (List.mem_append_left _ (List.mem_append_left _ (List.mem_append_right _ h)))))), List.forall_mem_cons.mpr ⟨fun _ h => List.mem_cons_of_mem _ (List.mem_append_left _ (List.mem_append_left _ (List.mem_append_left _ (List.mem_append_left _ (List.mem_append_right _ h))))), List.forall_mem_cons.mpr ⟨fun _ h => List.mem_cons_of_mem _ (List.mem_append_left _ (List.mem_append_left _ (List.mem_append_left _ (List.mem_append_right _ h)))), List.forall_mem_cons.mpr ⟨fun _ h => List.mem_cons_of_mem _ (List.mem_append_left _ (List.mem_append_left _ (List.mem_append_right _ h))), List.forall_mem_cons.mpr ⟨fun _ h => List.mem_cons_of_mem _ (List.mem_append_left _ (List.mem_append_right _ h)), List.forall_mem_cons.mpr ⟨fun _ h => List.mem_cons_of_mem _ (List.mem_append_right _ h), fun l h => absurd h List.not_mem_nil⟩⟩⟩⟩⟩⟩⟩⟩⟩⟩⟩⟩⟩
set_option maxRecDepth 20000 in
theorem ggX11_read_X2_has : GoodIn wsX11_read wsX2_has := goodIn_sl csX11_read ciX11_read _ [(1, 8, 2), (8, 0, 6)] rfl gw_wsX2_has
set_option maxRecDepth 20000 in
theorem gX11_read_X2_has : GoodIn wsX11_read (wsV RX11 137 RX2 yX2_has wsX2_has) := goodIn_app (goodIn_sl csX11_read ciX11_read _ [(1, 4, 4)] rfl rfl) ggX11_read_X2_has
noncomputable def NX11_read : Nat := 590614028945557270545870619859922509674896160695035323585022006538347630745454397430718420959319579656742431167053827675132880239929920176001654394738389857322
theorem nX11_read : CN cX11_read NX11_read 66 := ⟨by decide +kernel, by decide +kernel⟩
theorem dX11_read_0 : decode cX11_read 0 = .ok (.aload_n 0, 1) := di_42 nX11_read (Eq.refl true) (Eq.refl true)
theorem dX11_read_1 : decode cX11_read 1 = .ok (.getfield 26, 3) := di_180 nX11_read (Eq.refl true) (Eq.refl true) (Eq.refl true)
theorem dX11_read_4 : decode cX11_read 4 = .ok (.iload_n 1, 1) := di_27 nX11_read (Eq.refl true) (Eq.refl true)
theorem dX11_read_5 : decode cX11_read 5 = .ok (.invokevirtual 137, 3) := di_182 nX11_read (Eq.refl true) (Eq.refl true) (Eq.refl true)
theorem dX11_read_8 : decode cX11_read 8 = .ok (.ifCond .eq 14, 3) := di_153 (x := 14) nX11_read (Eq.refl true) (Eq.refl true) (Eq.refl true) rfl
theorem dX11_read_22 : decode cX11_read 22 = .ok (.iconst (-1), 1) := di_2 nX11_read (Eq.refl true) (Eq.refl true)
theorem dX11_read_23 : decode cX11_read 23 = .ok (.ireturn, 1) := di_172 nX11_read (Eq.refl true) (Eq.refl true)
noncomputable def csX11_onShelf : List (List Cond) := [[Cond.code yX11_onShelf cX11_onShelf 4 (some .int)], [Cond.fieldLink RX11 26 "SeatsRound" "keepers" "LSeatsRound$Keepers;", Cond.fieldLink RX11 19 "SeatsRound" "nameList" "LSeatsRound$NameList;", Cond.fieldLink RX11 66 "SeatsRound" "parcels" "LSeatsRound$Parcels;", Cond.fieldLink RX11 277 "SeatsRound$Parcels" "version" "[[I", Cond.fieldLink RX11 281 "SeatsRound$Parcels" "kept" "[[I", Cond.fieldLink RX11 284 "SeatsRound$Parcels" "keptFor" "[[I", Cond.fieldLink RX11 287 "SeatsRound$Parcels" "pieces" "[[I", Cond.methodLink RX11 137 yX2_has, Cond.instanceMethod yX2_has, Cond.selects RX2 yX2_has yX2_has, Cond.initialized RX2, Cond.code yX2_has cX2_has 2 (some .boolean), Cond.fieldLink RX2 28 "SeatsRound$Keepers" "count" "I", Cond.methodLink RX11 123 yX4_has, Cond.instanceMethod yX4_has, Cond.selects RX4 yX4_has yX4_has, Cond.initialized RX4, Cond.code yX4_has cX4_has 2 (some .boolean), Cond.fieldLink RX4 24 "SeatsRound$NameList" "count" "I"], wsX110, wsX60, wsX20, wsX40]
set_option maxRecDepth 20000 in
theorem ciX11_onShelf : ∀ l ∈ csX11_onShelf, ∀ w ∈ l, w ∈ wsX11_onShelf := by
  unfold csX11_onShelf
  refine List.forall_mem_cons.mpr ⟨fun _ h => List.mem_cons.mpr (Or.inl (List.mem_singleton.mp h)), List.forall_mem_cons.mpr ⟨fun _ h => List.mem_cons_of_mem _ (List.mem_append_left _ (List.mem_append_left _ (List.mem_append_left _ (List.mem_append_left _ h)))), List.forall_mem_cons.mpr ⟨fun _ h => List.mem_cons_of_mem _ (List.mem_append_left _ (List.mem_append_left _ (List.mem_append_left _ (List.mem_append_right _ h)))), List.forall_mem_cons.mpr ⟨fun _ h => List.mem_cons_of_mem _ (List.mem_append_left _ (List.mem_append_left _ (List.mem_append_right _ h))), List.forall_mem_cons.mpr ⟨fun _ h => List.mem_cons_of_mem _ (List.mem_append_left _ (List.mem_append_right _ h)), List.forall_mem_cons.mpr ⟨fun _ h => List.mem_cons_of_mem _ (List.mem_append_right _ h), fun l h => absurd h List.not_mem_nil⟩⟩⟩⟩⟩⟩
set_option maxRecDepth 20000 in
theorem ggX11_onShelf_X2_has : GoodIn wsX11_onShelf wsX2_has := goodIn_sl csX11_onShelf ciX11_onShelf _ [(1, 11, 2), (4, 0, 6)] rfl gw_wsX2_has
set_option maxRecDepth 20000 in
theorem gX11_onShelf_X2_has : GoodIn wsX11_onShelf (wsV RX11 137 RX2 yX2_has wsX2_has) := goodIn_app (goodIn_sl csX11_onShelf ciX11_onShelf _ [(1, 7, 4)] rfl rfl) ggX11_onShelf_X2_has
noncomputable def NX11_onShelf : Nat := 7199635419095278527259411807119884764180244660716955807206161002873482871705667402284614547699568357913704804367977216303194059033160669393427286775122488744033120925678889228526370590597325237980784243258200419776382765516997393090112181089451889122647357968698374940509677856190664437326113864201258
theorem nX11_onShelf : CN cX11_onShelf NX11_onShelf 125 := ⟨by decide +kernel, by decide +kernel⟩
theorem dX11_onShelf_0 : decode cX11_onShelf 0 = .ok (.aload_n 0, 1) := di_42 nX11_onShelf (Eq.refl true) (Eq.refl true)
theorem dX11_onShelf_1 : decode cX11_onShelf 1 = .ok (.getfield 26, 3) := di_180 nX11_onShelf (Eq.refl true) (Eq.refl true) (Eq.refl true)
theorem dX11_onShelf_4 : decode cX11_onShelf 4 = .ok (.iload_n 1, 1) := di_27 nX11_onShelf (Eq.refl true) (Eq.refl true)
theorem dX11_onShelf_5 : decode cX11_onShelf 5 = .ok (.invokevirtual 137, 3) := di_182 nX11_onShelf (Eq.refl true) (Eq.refl true) (Eq.refl true)
theorem dX11_onShelf_8 : decode cX11_onShelf 8 = .ok (.ifCond .eq 14, 3) := di_153 (x := 14) nX11_onShelf (Eq.refl true) (Eq.refl true) (Eq.refl true) rfl
theorem dX11_onShelf_22 : decode cX11_onShelf 22 = .ok (.iconst (-1), 1) := di_2 nX11_onShelf (Eq.refl true) (Eq.refl true)
theorem dX11_onShelf_23 : decode cX11_onShelf 23 = .ok (.ireturn, 1) := di_172 nX11_onShelf (Eq.refl true) (Eq.refl true)
noncomputable def csX11_fall : List (List Cond) := [[Cond.code yX11_fall cX11_fall 4 (some .int)], [Cond.fieldLink RX11 26 "SeatsRound" "keepers" "LSeatsRound$Keepers;", Cond.fieldLink RX11 169 "SeatsRound$Keepers" "fallen" "[Z", Cond.fieldLink RX11 66 "SeatsRound" "parcels" "LSeatsRound$Parcels;", Cond.methodLink RX11 137 yX2_has, Cond.instanceMethod yX2_has, Cond.selects RX2 yX2_has yX2_has, Cond.initialized RX2, Cond.code yX2_has cX2_has 2 (some .boolean), Cond.fieldLink RX2 28 "SeatsRound$Keepers" "count" "I", Cond.methodLink RX11 290 yX6_empty, Cond.instanceMethod yX6_empty, Cond.selects RX6 yX6_empty yX6_empty, Cond.initialized RX6, Cond.code yX6_empty cX6_empty 2 none, Cond.fieldLink RX6 11 "SeatsRound$Parcels" "version" "[[I", Cond.fieldLink RX6 16 "SeatsRound$Parcels" "kept" "[[I", Cond.methodLink RX6 124 yJ7_fill_53178, Cond.static yJ7_fill_53178, Cond.initialized RJ7, Cond.code yJ7_fill_53178 cJ7_fill_53178 4 none], wsX110, wsX20, wsX60]
set_option maxRecDepth 20000 in
theorem ciX11_fall : ∀ l ∈ csX11_fall, ∀ w ∈ l, w ∈ wsX11_fall := by
  unfold csX11_fall
  refine List.forall_mem_cons.mpr ⟨fun _ h => List.mem_cons.mpr (Or.inl (List.mem_singleton.mp h)), List.forall_mem_cons.mpr ⟨fun _ h => List.mem_cons_of_mem _ (List.mem_append_left _ (List.mem_append_left _ (List.mem_append_left _ h))), List.forall_mem_cons.mpr ⟨fun _ h => List.mem_cons_of_mem _ (List.mem_append_left _ (List.mem_append_left _ (List.mem_append_right _ h))), List.forall_mem_cons.mpr ⟨fun _ h => List.mem_cons_of_mem _ (List.mem_append_left _ (List.mem_append_right _ h)), List.forall_mem_cons.mpr ⟨fun _ h => List.mem_cons_of_mem _ (List.mem_append_right _ h), fun l h => absurd h List.not_mem_nil⟩⟩⟩⟩⟩
set_option maxRecDepth 20000 in
theorem ggX11_fall_X2_has : GoodIn wsX11_fall wsX2_has := goodIn_sl csX11_fall ciX11_fall _ [(1, 7, 2), (3, 0, 6)] rfl gw_wsX2_has
set_option maxRecDepth 20000 in
theorem gX11_fall_X2_has : GoodIn wsX11_fall (wsV RX11 137 RX2 yX2_has wsX2_has) := goodIn_app (goodIn_sl csX11_fall ciX11_fall _ [(1, 3, 4)] rfl rfl) ggX11_fall_X2_has
noncomputable def NX11_fall : Nat := 10897657674333988029795149011295934256031036900845302722177337567918449812160694321131830276410692104144211288739635785139485593889032317692208908869892081937760732315953244714026
theorem nX11_fall : CN cX11_fall NX11_fall 74 := ⟨by decide +kernel, by decide +kernel⟩
theorem dX11_fall_0 : decode cX11_fall 0 = .ok (.aload_n 0, 1) := di_42 nX11_fall (Eq.refl true) (Eq.refl true)
theorem dX11_fall_1 : decode cX11_fall 1 = .ok (.getfield 26, 3) := di_180 nX11_fall (Eq.refl true) (Eq.refl true) (Eq.refl true)
theorem dX11_fall_4 : decode cX11_fall 4 = .ok (.iload_n 1, 1) := di_27 nX11_fall (Eq.refl true) (Eq.refl true)
theorem dX11_fall_5 : decode cX11_fall 5 = .ok (.invokevirtual 137, 3) := di_182 nX11_fall (Eq.refl true) (Eq.refl true) (Eq.refl true)
theorem dX11_fall_8 : decode cX11_fall 8 = .ok (.ifCond .eq 12, 3) := di_153 (x := 12) nX11_fall (Eq.refl true) (Eq.refl true) (Eq.refl true) rfl
theorem dX11_fall_20 : decode cX11_fall 20 = .ok (.iconst (-1), 1) := di_2 nX11_fall (Eq.refl true) (Eq.refl true)
theorem dX11_fall_21 : decode cX11_fall 21 = .ok (.ireturn, 1) := di_172 nX11_fall (Eq.refl true) (Eq.refl true)
noncomputable def csX11_half : List (List Cond) := [[Cond.code yX11_half cX11_half 4 (some .int)], wsX11_half_r1, wsX11_half_r2, wsX110, wsX60, wsX40, wsX20]
set_option maxRecDepth 20000 in
theorem ciX11_half : ∀ l ∈ csX11_half, ∀ w ∈ l, w ∈ wsX11_half := by
  unfold csX11_half
  refine List.forall_mem_cons.mpr ⟨fun _ h => List.mem_cons.mpr (Or.inl (List.mem_singleton.mp h)), List.forall_mem_cons.mpr ⟨fun _ h => List.mem_cons_of_mem _ (List.mem_append_left _ (List.mem_append_left _ (List.mem_append_left _ (List.mem_append_left _ (List.mem_append_left _ h))))), List.forall_mem_cons.mpr ⟨fun _ h => List.mem_cons_of_mem _ (List.mem_append_left _ (List.mem_append_left _ (List.mem_append_left _ (List.mem_append_left _ (List.mem_append_right _ h))))), List.forall_mem_cons.mpr ⟨fun _ h => List.mem_cons_of_mem _ (List.mem_append_left _ (List.mem_append_left _ (List.mem_append_left _ (List.mem_append_right _ h)))), List.forall_mem_cons.mpr ⟨fun _ h => List.mem_cons_of_mem _ (List.mem_append_left _ (List.mem_append_left _ (List.mem_append_right _ h))), List.forall_mem_cons.mpr ⟨fun _ h => List.mem_cons_of_mem _ (List.mem_append_left _ (List.mem_append_right _ h)), List.forall_mem_cons.mpr ⟨fun _ h => List.mem_cons_of_mem _ (List.mem_append_right _ h), fun l h => absurd h List.not_mem_nil⟩⟩⟩⟩⟩⟩⟩
set_option maxRecDepth 20000 in
theorem ggX11_half_X4_has : GoodIn wsX11_half wsX4_has := goodIn_sl csX11_half ciX11_half _ [(1, 8, 2), (5, 0, 4)] rfl gw_wsX4_has
set_option maxRecDepth 20000 in
theorem gX11_half_X4_has : GoodIn wsX11_half (wsV RX11 123 RX4 yX4_has wsX4_has) := goodIn_app (goodIn_sl csX11_half ciX11_half _ [(1, 4, 4)] rfl rfl) ggX11_half_X4_has
noncomputable def NX11_half : Nat := 38723176188934344233835909321841217214443987243629618726656992129460583415111943763936117747950431817718061057218541118766222787428053064331715468466096344353780778
theorem nX11_half : CN cX11_half NX11_half 68 := ⟨by decide +kernel, by decide +kernel⟩
theorem dX11_half_0 : decode cX11_half 0 = .ok (.aload_n 0, 1) := di_42 nX11_half (Eq.refl true) (Eq.refl true)
theorem dX11_half_1 : decode cX11_half 1 = .ok (.getfield 19, 3) := di_180 nX11_half (Eq.refl true) (Eq.refl true) (Eq.refl true)
theorem dX11_half_4 : decode cX11_half 4 = .ok (.iload_n 1, 1) := di_27 nX11_half (Eq.refl true) (Eq.refl true)
theorem dX11_half_5 : decode cX11_half 5 = .ok (.invokevirtual 123, 3) := di_182 nX11_half (Eq.refl true) (Eq.refl true) (Eq.refl true)
theorem dX11_half_8 : decode cX11_half 8 = .ok (.ifCond .eq 30, 3) := di_153 (x := 30) nX11_half (Eq.refl true) (Eq.refl true) (Eq.refl true) rfl
theorem dX11_half_38 : decode cX11_half 38 = .ok (.iconst (-1), 1) := di_2 nX11_half (Eq.refl true) (Eq.refl true)
theorem dX11_half_39 : decode cX11_half 39 = .ok (.ireturn, 1) := di_172 nX11_half (Eq.refl true) (Eq.refl true)
noncomputable def csX11_mend : List (List Cond) := [[Cond.code yX11_mend cX11_mend 3 (some .int)], wsX11_mend_r1, wsX11_mend_r2, wsX11_mend_r3, wsX11_mend_r4, wsX11_mend_r5, wsX11_mend_r6, wsX110, wsX60, wsX40, wsX80, wsX10, wsX20]
set_option maxRecDepth 20000 in
theorem ciX11_mend : ∀ l ∈ csX11_mend, ∀ w ∈ l, w ∈ wsX11_mend := by
  unfold csX11_mend
  refine List.forall_mem_cons.mpr ⟨fun _ h => List.mem_cons.mpr (Or.inl (List.mem_singleton.mp h)), List.forall_mem_cons.mpr ⟨fun _ h => List.mem_cons_of_mem _ (List.mem_append_left _ (List.mem_append_left _ (List.mem_append_left _ (List.mem_append_left _ (List.mem_append_left _ (List.mem_append_left _ (List.mem_append_left _ h))))))), List.forall_mem_cons.mpr ⟨fun _ h => List.mem_cons_of_mem _ (List.mem_append_left _ (List.mem_append_left _ (List.mem_append_left _ (List.mem_append_left _ (List.mem_append_left _ (List.mem_append_left _ (List.mem_append_right _ (List.mem_append_left _ h)))))))), List.forall_mem_cons.mpr ⟨fun _ h => List.mem_cons_of_mem _ (List.mem_append_left _ (List.mem_append_left _ (List.mem_append_left _ (List.mem_append_left _ (List.mem_append_left _ (List.mem_append_left _ (List.mem_append_right _ (List.mem_append_right _ (List.mem_append_left _ h))))))))), List.forall_mem_cons.mpr ⟨fun _ h => List.mem_cons_of_mem _ (List.mem_append_left _ (List.mem_append_left _ (List.mem_append_left _ (List.mem_append_left _ (List.mem_append_left _ (List.mem_append_left _ (List.mem_append_right _ (List.mem_append_right _ (List.mem_append_right _ (List.mem_append_left _ h)))))))))), List.forall_mem_cons.mpr ⟨fun _ h => List.mem_cons_of_mem _ (List.mem_append_left _ (List.mem_append_left _ (List.mem_append_left _ (List.mem_append_left _ (List.mem_append_left _ (List.mem_append_left _ (List.mem_append_right _ (List.mem_append_right _ (List.mem_append_right _ (List.mem_append_right _ (List.mem_append_left _ h))))))))))), List.forall_mem_cons.mpr ⟨fun _ h => List.mem_cons_of_mem _ (List.mem_append_left _ (List.mem_append_left _ (List.mem_append_left _ (List.mem_append_left _ (List.mem_append_left _ (List.mem_append_left _ (List.mem_append_right _ (List.mem_append_right _ (List.mem_append_right _ (List.mem_append_right _ (List.mem_append_right _ h))))))))))), List.forall_mem_cons.mpr ⟨fun _ h => List.mem_cons_of_mem _ (List.mem_append_left _ (List.mem_append_left _ (List.mem_append_left _ (List.mem_append_left _ (List.mem_append_left _ (List.mem_append_right _ h)))))), List.forall_mem_cons.mpr ⟨fun _ h => List.mem_cons_of_mem _ (List.mem_append_left _ (List.mem_append_left _ (List.mem_append_left _ (List.mem_append_left _ (List.mem_append_right _ h))))), List.forall_mem_cons.mpr ⟨fun _ h => List.mem_cons_of_mem _ (List.mem_append_left _ (List.mem_append_left _ (List.mem_append_left _ (List.mem_append_right _ h)))), List.forall_mem_cons.mpr ⟨fun _ h => List.mem_cons_of_mem _ (List.mem_append_left _ (List.mem_append_left _ (List.mem_append_right _ h))), List.forall_mem_cons.mpr ⟨fun _ h => List.mem_cons_of_mem _ (List.mem_append_left _ (List.mem_append_right _ h)), List.forall_mem_cons.mpr ⟨fun _ h => List.mem_cons_of_mem _ (List.mem_append_right _ h), fun l h => absurd h List.not_mem_nil⟩⟩⟩⟩⟩⟩⟩⟩⟩⟩⟩⟩⟩
set_option maxRecDepth 20000 in
theorem ggX11_mend_X11_tableAt : GoodIn wsX11_mend wsX11_tableAt := goodIn_sl csX11_mend ciX11_mend _ [(1, 5, 3), (7, 0, 13)] rfl gw_wsX11_tableAt
set_option maxRecDepth 20000 in
theorem gX11_mend_X11_tableAt : GoodIn wsX11_mend (wsV RX11 192 RX11 yX11_tableAt wsX11_tableAt) := goodIn_app (goodIn_sl csX11_mend ciX11_mend _ [(1, 1, 4)] rfl rfl) ggX11_mend_X11_tableAt
noncomputable def NX11_mend : Nat := 251612388412760474308973023533525386101930365164330
theorem nX11_mend : CN cX11_mend NX11_mend 21 := ⟨by decide +kernel, by decide +kernel⟩
theorem dX11_mend_0 : decode cX11_mend 0 = .ok (.aload_n 0, 1) := di_42 nX11_mend (Eq.refl true) (Eq.refl true)
theorem dX11_mend_1 : decode cX11_mend 1 = .ok (.iload_n 1, 1) := di_27 nX11_mend (Eq.refl true) (Eq.refl true)
theorem dX11_mend_2 : decode cX11_mend 2 = .ok (.invokevirtual 192, 3) := di_182 nX11_mend (Eq.refl true) (Eq.refl true) (Eq.refl true)
theorem dX11_mend_5 : decode cX11_mend 5 = .ok (.astore_n 2, 1) := di_77 nX11_mend (Eq.refl true) (Eq.refl true)
theorem dX11_mend_6 : decode cX11_mend 6 = .ok (.aload_n 2, 1) := di_44 nX11_mend (Eq.refl true) (Eq.refl true)
theorem dX11_mend_7 : decode cX11_mend 7 = .ok (.ifnonnull 5, 3) := di_199 (x := 5) nX11_mend (Eq.refl true) (Eq.refl true) (Eq.refl true) rfl
theorem dX11_mend_10 : decode cX11_mend 10 = .ok (.iconst (-1), 1) := di_2 nX11_mend (Eq.refl true) (Eq.refl true)
theorem dX11_mend_11 : decode cX11_mend 11 = .ok (.ireturn, 1) := di_172 nX11_mend (Eq.refl true) (Eq.refl true)
noncomputable def csX11_trees : List (List Cond) := [[Cond.code yX11_trees cX11_trees 4 (some .int)], wsX11_trees_r1, wsX11_trees_r2, wsX110, wsX20, wsX60, wsX40]
set_option maxRecDepth 20000 in
theorem ciX11_trees : ∀ l ∈ csX11_trees, ∀ w ∈ l, w ∈ wsX11_trees := by
  unfold csX11_trees
  refine List.forall_mem_cons.mpr ⟨fun _ h => List.mem_cons.mpr (Or.inl (List.mem_singleton.mp h)), List.forall_mem_cons.mpr ⟨fun _ h => List.mem_cons_of_mem _ (List.mem_append_left _ (List.mem_append_left _ (List.mem_append_left _ (List.mem_append_left _ (List.mem_append_left _ h))))), List.forall_mem_cons.mpr ⟨fun _ h => List.mem_cons_of_mem _ (List.mem_append_left _ (List.mem_append_left _ (List.mem_append_left _ (List.mem_append_left _ (List.mem_append_right _ h))))), List.forall_mem_cons.mpr ⟨fun _ h => List.mem_cons_of_mem _ (List.mem_append_left _ (List.mem_append_left _ (List.mem_append_left _ (List.mem_append_right _ h)))), List.forall_mem_cons.mpr ⟨fun _ h => List.mem_cons_of_mem _ (List.mem_append_left _ (List.mem_append_left _ (List.mem_append_right _ h))), List.forall_mem_cons.mpr ⟨fun _ h => List.mem_cons_of_mem _ (List.mem_append_left _ (List.mem_append_right _ h)), List.forall_mem_cons.mpr ⟨fun _ h => List.mem_cons_of_mem _ (List.mem_append_right _ h), fun l h => absurd h List.not_mem_nil⟩⟩⟩⟩⟩⟩⟩
set_option maxRecDepth 20000 in
theorem ggX11_trees_X2_has : GoodIn wsX11_trees wsX2_has := goodIn_sl csX11_trees ciX11_trees _ [(1, 6, 2), (4, 0, 6)] rfl gw_wsX2_has
set_option maxRecDepth 20000 in
theorem gX11_trees_X2_has : GoodIn wsX11_trees (wsV RX11 137 RX2 yX2_has wsX2_has) := goodIn_app (goodIn_sl csX11_trees ciX11_trees _ [(1, 2, 4)] rfl rfl) ggX11_trees_X2_has
noncomputable def NX11_trees : Nat := 649858737689611396616883510190885258047342481835393007029707012381168758596448701751653237498739050409231531952512495758771274153292211424727630011866805518268816074781738
theorem nX11_trees : CN cX11_trees NX11_trees 71 := ⟨by decide +kernel, by decide +kernel⟩
theorem dX11_trees_0 : decode cX11_trees 0 = .ok (.aload_n 0, 1) := di_42 nX11_trees (Eq.refl true) (Eq.refl true)
theorem dX11_trees_1 : decode cX11_trees 1 = .ok (.getfield 26, 3) := di_180 nX11_trees (Eq.refl true) (Eq.refl true) (Eq.refl true)
theorem dX11_trees_4 : decode cX11_trees 4 = .ok (.iload_n 1, 1) := di_27 nX11_trees (Eq.refl true) (Eq.refl true)
theorem dX11_trees_5 : decode cX11_trees 5 = .ok (.invokevirtual 137, 3) := di_182 nX11_trees (Eq.refl true) (Eq.refl true) (Eq.refl true)
theorem dX11_trees_8 : decode cX11_trees 8 = .ok (.ifCond .eq 19, 3) := di_153 (x := 19) nX11_trees (Eq.refl true) (Eq.refl true) (Eq.refl true) rfl
theorem dX11_trees_27 : decode cX11_trees 27 = .ok (.iconst (-1), 1) := di_2 nX11_trees (Eq.refl true) (Eq.refl true)
theorem dX11_trees_28 : decode cX11_trees 28 = .ok (.ireturn, 1) := di_172 nX11_trees (Eq.refl true) (Eq.refl true)
noncomputable def csX11_noon : List (List Cond) := [[Cond.code yX11_noon cX11_noon 7 (some .int)], [Cond.fieldLink RX11 196 "SeatsRound$Table" "members" "I", Cond.methodLink RX11 192 yX11_tableAt, Cond.instanceMethod yX11_tableAt, Cond.selects RX11 yX11_tableAt yX11_tableAt, Cond.initialized RX11, Cond.code yX11_tableAt cX11_tableAt 2 (some (.object "SeatsRound$Table")), Cond.fieldLink RX11 52 "SeatsRound" "tableCount" "I", Cond.fieldLink RX11 48 "SeatsRound" "tables" "[LSeatsRound$Table;", Cond.methodLink RX11 246 yJ6_bitCount_0f7a4, Cond.static yJ6_bitCount_0f7a4, Cond.initialized RJ6, Cond.code yJ6_bitCount_0f7a4 cJ6_bitCount_0f7a4 1 (some .int), Cond.constant RJ6 265 (1431655765), Cond.constant RJ6 266 (858993459), Cond.constant RJ6 267 (252645135), Cond.methodLink RX11 309 yX11_upward, Cond.static yX11_upward, Cond.code yX11_upward cX11_upward 2 (some .int)], wsX80, wsX110]
set_option maxRecDepth 20000 in
theorem ciX11_noon : ∀ l ∈ csX11_noon, ∀ w ∈ l, w ∈ wsX11_noon := by
  unfold csX11_noon
  refine List.forall_mem_cons.mpr ⟨fun _ h => List.mem_cons.mpr (Or.inl (List.mem_singleton.mp h)), List.forall_mem_cons.mpr ⟨fun _ h => List.mem_cons_of_mem _ (List.mem_append_left _ (List.mem_append_left _ h)), List.forall_mem_cons.mpr ⟨fun _ h => List.mem_cons_of_mem _ (List.mem_append_left _ (List.mem_append_right _ h)), List.forall_mem_cons.mpr ⟨fun _ h => List.mem_cons_of_mem _ (List.mem_append_right _ h), fun l h => absurd h List.not_mem_nil⟩⟩⟩⟩
set_option maxRecDepth 20000 in
theorem ggX11_noon_X11_tableAt : GoodIn wsX11_noon wsX11_tableAt := goodIn_sl csX11_noon ciX11_noon _ [(1, 5, 3), (3, 0, 13)] rfl gw_wsX11_tableAt
set_option maxRecDepth 20000 in
theorem gX11_noon_X11_tableAt : GoodIn wsX11_noon (wsV RX11 192 RX11 yX11_tableAt wsX11_tableAt) := goodIn_app (goodIn_sl csX11_noon ciX11_noon _ [(1, 1, 4)] rfl rfl) ggX11_noon_X11_tableAt
noncomputable def NX11_noon : Nat := 47044024484910360826307073521307323756788099007439784117292657816126962536535546652695213877395683264622086449846134165060315900943709001735907182551170036343459930444585005236070961781546
theorem nX11_noon : CN cX11_noon NX11_noon 78 := ⟨by decide +kernel, by decide +kernel⟩
theorem dX11_noon_0 : decode cX11_noon 0 = .ok (.aload_n 0, 1) := di_42 nX11_noon (Eq.refl true) (Eq.refl true)
theorem dX11_noon_1 : decode cX11_noon 1 = .ok (.iload_n 1, 1) := di_27 nX11_noon (Eq.refl true) (Eq.refl true)
theorem dX11_noon_2 : decode cX11_noon 2 = .ok (.invokevirtual 192, 3) := di_182 nX11_noon (Eq.refl true) (Eq.refl true) (Eq.refl true)
theorem dX11_noon_5 : decode cX11_noon 5 = .ok (.astore 4, 2) := di_58 nX11_noon (Eq.refl true) (Eq.refl true)
theorem dX11_noon_7 : decode cX11_noon 7 = .ok (.aload 4, 2) := di_25 nX11_noon (Eq.refl true) (Eq.refl true)
theorem dX11_noon_9 : decode cX11_noon 9 = .ok (.ifnull 25, 3) := di_198 (x := 25) nX11_noon (Eq.refl true) (Eq.refl true) (Eq.refl true) rfl
theorem dX11_noon_34 : decode cX11_noon 34 = .ok (.iconst (-1), 1) := di_2 nX11_noon (Eq.refl true) (Eq.refl true)
theorem dX11_noon_35 : decode cX11_noon 35 = .ok (.ireturn, 1) := di_172 nX11_noon (Eq.refl true) (Eq.refl true)
noncomputable def csX11_lies : List (List Cond) := [[Cond.code yX11_lies cX11_lies 7 (some .int)], [Cond.fieldLink RX11 26 "SeatsRound" "keepers" "LSeatsRound$Keepers;", Cond.fieldLink RX11 149 "SeatsRound$Keepers" "strength" "[I", Cond.methodLink RX11 312 Lib.Math.max.name, Cond.static Lib.Math.max.name, Cond.initialized "java/lang/Math", Cond.code Lib.Math.max.name Lib.Math.max.code 2 (some .int), Cond.methodLink RX11 137 yX2_has, Cond.instanceMethod yX2_has, Cond.selects RX2 yX2_has yX2_has, Cond.initialized RX2, Cond.code yX2_has cX2_has 2 (some .boolean), Cond.fieldLink RX2 28 "SeatsRound$Keepers" "count" "I", Cond.methodLink RX11 309 yX11_upward, Cond.static yX11_upward, Cond.initialized RX11, Cond.code yX11_upward cX11_upward 2 (some .int)], wsX110, wsX20]
set_option maxRecDepth 20000 in
theorem ciX11_lies : ∀ l ∈ csX11_lies, ∀ w ∈ l, w ∈ wsX11_lies := by
  unfold csX11_lies
  refine List.forall_mem_cons.mpr ⟨fun _ h => List.mem_cons.mpr (Or.inl (List.mem_singleton.mp h)), List.forall_mem_cons.mpr ⟨fun _ h => List.mem_cons_of_mem _ (List.mem_append_left _ (List.mem_append_left _ h)), List.forall_mem_cons.mpr ⟨fun _ h => List.mem_cons_of_mem _ (List.mem_append_left _ (List.mem_append_right _ h)), List.forall_mem_cons.mpr ⟨fun _ h => List.mem_cons_of_mem _ (List.mem_append_right _ h), fun l h => absurd h List.not_mem_nil⟩⟩⟩⟩
set_option maxRecDepth 20000 in
theorem ggX11_lies_X2_has : GoodIn wsX11_lies wsX2_has := goodIn_sl csX11_lies ciX11_lies _ [(1, 10, 2), (3, 0, 6)] rfl gw_wsX2_has
set_option maxRecDepth 20000 in
theorem gX11_lies_X2_has : GoodIn wsX11_lies (wsV RX11 137 RX2 yX2_has wsX2_has) := goodIn_app (goodIn_sl csX11_lies ciX11_lies _ [(1, 6, 4)] rfl rfl) ggX11_lies_X2_has
noncomputable def NX11_lies : Nat := 950941341202414402725624400235519271342564671713815650591913313675093560589264586297650189633852331779380728561761335164479487903231385192561063453928730964850675396484108894054080802135526176878178104443779347529118762
theorem nX11_lies : CN cX11_lies NX11_lies 91 := ⟨by decide +kernel, by decide +kernel⟩
theorem dX11_lies_0 : decode cX11_lies 0 = .ok (.aload_n 0, 1) := di_42 nX11_lies (Eq.refl true) (Eq.refl true)
theorem dX11_lies_1 : decode cX11_lies 1 = .ok (.getfield 26, 3) := di_180 nX11_lies (Eq.refl true) (Eq.refl true) (Eq.refl true)
theorem dX11_lies_4 : decode cX11_lies 4 = .ok (.iload_n 1, 1) := di_27 nX11_lies (Eq.refl true) (Eq.refl true)
theorem dX11_lies_5 : decode cX11_lies 5 = .ok (.invokevirtual 137, 3) := di_182 nX11_lies (Eq.refl true) (Eq.refl true) (Eq.refl true)
theorem dX11_lies_8 : decode cX11_lies 8 = .ok (.ifCond .eq 18, 3) := di_153 (x := 18) nX11_lies (Eq.refl true) (Eq.refl true) (Eq.refl true) rfl
theorem dX11_lies_26 : decode cX11_lies 26 = .ok (.iconst (-1), 1) := di_2 nX11_lies (Eq.refl true) (Eq.refl true)
theorem dX11_lies_27 : decode cX11_lies 27 = .ok (.ireturn, 1) := di_172 nX11_lies (Eq.refl true) (Eq.refl true)
noncomputable def csX11_comes : List (List Cond) := [[Cond.code yX11_comes cX11_comes 2 (some .int)], [Cond.fieldLink RX11 26 "SeatsRound" "keepers" "LSeatsRound$Keepers;", Cond.fieldLink RX11 75 "SeatsRound" "orders" "LSeatsRound$Orders;", Cond.fieldLink RX11 320 "SeatsRound$Orders" "toldCount" "I", Cond.fieldLink RX11 323 "SeatsRound$Orders" "told" "[I", Cond.methodLink RX11 137 yX2_has, Cond.instanceMethod yX2_has, Cond.selects RX2 yX2_has yX2_has, Cond.initialized RX2, Cond.code yX2_has cX2_has 2 (some .boolean), Cond.fieldLink RX2 28 "SeatsRound$Keepers" "count" "I", Cond.methodLink RX11 317 yX5_isTold, Cond.instanceMethod yX5_isTold, Cond.selects RX5 yX5_isTold yX5_isTold, Cond.initialized RX5, Cond.code yX5_isTold cX5_isTold 3 (some .boolean), Cond.fieldLink RX5 15 "SeatsRound$Orders" "toldCount" "I", Cond.fieldLink RX5 9 "SeatsRound$Orders" "told" "[I"], wsX110, wsX50, wsX20]
set_option maxRecDepth 20000 in
theorem ciX11_comes : ∀ l ∈ csX11_comes, ∀ w ∈ l, w ∈ wsX11_comes := by
  unfold csX11_comes
  refine List.forall_mem_cons.mpr ⟨fun _ h => List.mem_cons.mpr (Or.inl (List.mem_singleton.mp h)), List.forall_mem_cons.mpr ⟨fun _ h => List.mem_cons_of_mem _ (List.mem_append_left _ (List.mem_append_left _ (List.mem_append_left _ h))), List.forall_mem_cons.mpr ⟨fun _ h => List.mem_cons_of_mem _ (List.mem_append_left _ (List.mem_append_left _ (List.mem_append_right _ h))), List.forall_mem_cons.mpr ⟨fun _ h => List.mem_cons_of_mem _ (List.mem_append_left _ (List.mem_append_right _ h)), List.forall_mem_cons.mpr ⟨fun _ h => List.mem_cons_of_mem _ (List.mem_append_right _ h), fun l h => absurd h List.not_mem_nil⟩⟩⟩⟩⟩
set_option maxRecDepth 20000 in
theorem ggX11_comes_X2_has : GoodIn wsX11_comes wsX2_has := goodIn_sl csX11_comes ciX11_comes _ [(1, 8, 2), (4, 0, 6)] rfl gw_wsX2_has
set_option maxRecDepth 20000 in
theorem gX11_comes_X2_has : GoodIn wsX11_comes (wsV RX11 137 RX2 yX2_has wsX2_has) := goodIn_app (goodIn_sl csX11_comes ciX11_comes _ [(1, 4, 4)] rfl rfl) ggX11_comes_X2_has
noncomputable def NX11_comes : Nat := 2792008455657300054430690362671188715571358135282167274813609074110208950999862102750216336619966716444357031587696294804897995364824434346462225010176804171279718912777250853139498
theorem nX11_comes : CN cX11_comes NX11_comes 75 := ⟨by decide +kernel, by decide +kernel⟩
theorem dX11_comes_0 : decode cX11_comes 0 = .ok (.aload_n 0, 1) := di_42 nX11_comes (Eq.refl true) (Eq.refl true)
theorem dX11_comes_1 : decode cX11_comes 1 = .ok (.getfield 26, 3) := di_180 nX11_comes (Eq.refl true) (Eq.refl true) (Eq.refl true)
theorem dX11_comes_4 : decode cX11_comes 4 = .ok (.iload_n 1, 1) := di_27 nX11_comes (Eq.refl true) (Eq.refl true)
theorem dX11_comes_5 : decode cX11_comes 5 = .ok (.invokevirtual 137, 3) := di_182 nX11_comes (Eq.refl true) (Eq.refl true) (Eq.refl true)
theorem dX11_comes_8 : decode cX11_comes 8 = .ok (.ifCond .eq 14, 3) := di_153 (x := 14) nX11_comes (Eq.refl true) (Eq.refl true) (Eq.refl true) rfl
theorem dX11_comes_22 : decode cX11_comes 22 = .ok (.iconst (-1), 1) := di_2 nX11_comes (Eq.refl true) (Eq.refl true)
theorem dX11_comes_23 : decode cX11_comes 23 = .ok (.ireturn, 1) := di_172 nX11_comes (Eq.refl true) (Eq.refl true)
noncomputable def csX11_order : List (List Cond) := [[Cond.code yX11_order cX11_order 4 (some .int)], wsX11_order_r1, wsX11_order_r2, wsX11_order_r3, wsX11_order_r4, wsX11_order_r5, wsX11_order_r6, wsX11_order_r7, wsX11_order_r8, wsX11_order_r9, wsX11_order_r10, wsX11_order_r11, wsX110, wsX50, wsX80, wsX40, wsX10, wsX20, wsX30]
set_option maxRecDepth 20000 in
theorem ciX11_order : ∀ l ∈ csX11_order, ∀ w ∈ l, w ∈ wsX11_order := by
  unfold csX11_order
  refine List.forall_mem_cons.mpr ⟨fun _ h => List.mem_cons.mpr (Or.inl (List.mem_singleton.mp h)), List.forall_mem_cons.mpr ⟨fun _ h => List.mem_cons_of_mem _ (List.mem_append_left _ (List.mem_append_left _ (List.mem_append_left _ (List.mem_append_left _ (List.mem_append_left _ (List.mem_append_left _ (List.mem_append_left _ (List.mem_append_left _ h)))))))), List.forall_mem_cons.mpr ⟨fun _ h => List.mem_cons_of_mem _ (List.mem_append_left _ (List.mem_append_left _ (List.mem_append_left _ (List.mem_append_left _ (List.mem_append_left _ (List.mem_append_left _ (List.mem_append_left _ (List.mem_append_right _ (List.mem_append_left _ h))))))))), List.forall_mem_cons.mpr ⟨fun _ h => List.mem_cons_of_mem _ (List.mem_append_left _ (List.mem_append_left _ (List.mem_append_left _ (List.mem_append_left _ (List.mem_append_left _ (List.mem_append_left _ (List.mem_append_left _ (List.mem_append_right _ (List.mem_append_right _ (List.mem_append_left _ h)))))))))), List.forall_mem_cons.mpr ⟨fun _ h => List.mem_cons_of_mem _ (List.mem_append_left _ (List.mem_append_left _ (List.mem_append_left _ (List.mem_append_left _ (List.mem_append_left _ (List.mem_append_left _ (List.mem_append_left _ (List.mem_append_right _ (List.mem_append_right _ (List.mem_append_right _ (List.mem_append_left _ h))))))))))), List.forall_mem_cons.mpr ⟨fun _ h => List.mem_cons_of_mem _ (List.mem_append_left _ (List.mem_append_left _ (List.mem_append_left _ (List.mem_append_left _ (List.mem_append_left _ (List.mem_append_left _ (List.mem_append_left _ (List.mem_append_right _ (List.mem_append_right _ (List.mem_append_right _ (List.mem_append_right _ (List.mem_append_left _ h)))))))))))), List.forall_mem_cons.mpr ⟨fun _ h => List.mem_cons_of_mem _ (List.mem_append_left _ (List.mem_append_left _ (List.mem_append_left _ (List.mem_append_left _ (List.mem_append_left _ (List.mem_append_left _ (List.mem_append_left _ (List.mem_append_right _ (List.mem_append_right _ (List.mem_append_right _ (List.mem_append_right _ (List.mem_append_right _ (List.mem_append_left _ h))))))))))))), List.forall_mem_cons.mpr ⟨fun _ h => List.mem_cons_of_mem _ (List.mem_append_left _ (List.mem_append_left _ (List.mem_append_left _ (List.mem_append_left _ (List.mem_append_left _ (List.mem_append_left _ (List.mem_append_left _ (List.mem_append_right _ (List.mem_append_right _ (List.mem_append_right _ (List.mem_append_right _ (List.mem_append_right _ (List.mem_append_right _ (List.mem_append_left _ h)))))))))))))), List.forall_mem_cons.mpr ⟨fun _ h => List.mem_cons_of_mem _ (List.mem_append_left _ (List.mem_append_left _ (List.mem_append_left _ (List.mem_append_left _ (List.mem_append_left _ (List.mem_append_left _ (List.mem_append_left _ (List.mem_append_right _ (List.mem_append_right _ (List.mem_append_right _ (List.mem_append_right _ (List.mem_append_right _ (List.mem_append_right _ (List.mem_append_right _ (List.mem_append_left _ h))))))))))))))), List.forall_mem_cons.mpr ⟨fun _ h => List.mem_cons_of_mem _ (List.mem_append_left _ (List.mem_append_left _ (List.mem_append_left _ (List.mem_append_left _ (List.mem_append_left _ (List.mem_append_left _ (List.mem_append_left _ (List.mem_append_right _ (List.mem_append_right _ (List.mem_append_right _ (List.mem_append_right _ (List.mem_append_right _ (List.mem_append_right _ (List.mem_append_right _ (List.mem_append_right _ (List.mem_append_left _ h)))))))))))))))), List.forall_mem_cons.mpr ⟨fun _ h => List.mem_cons_of_mem _ (List.mem_append_left _ (List.mem_append_left _ (List.mem_append_left _ (List.mem_append_left _ (List.mem_append_left _ (List.mem_append_left _ (List.mem_append_left _ (List.mem_append_right _ (List.mem_append_right _ (List.mem_append_right _ (List.mem_append_right _ (List.mem_append_right _ (List.mem_append_right _ (List.mem_append_right _ (List.mem_append_right _ (List.mem_append_right _ (List.mem_append_left _ h))))))))))))))))), List.forall_mem_cons.mpr ⟨fun _ h => List.mem_cons_of_mem _ (List.mem_append_left _ (List.mem_append_left _ (List.mem_append_left _ (List.mem_append_left _ (List.mem_append_left _ (List.mem_append_left _ (List.mem_append_left _ (List.mem_append_right _ (List.mem_append_right _ (List.mem_append_right _ (List.mem_append_right _ (List.mem_append_right _ (List.mem_append_right _ (List.mem_append_right _ (List.mem_append_right _ (List.mem_append_right _ (List.mem_append_right _ h))))))))))))))))), List.forall_mem_cons.mpr ⟨fun _ h => List.mem_cons_of_mem _ (List.mem_append_left _ (List.mem_append_left _ (List.mem_append_left _ (List.mem_append_left _ (List.mem_append_left _ (List.mem_append_left _ (List.mem_append_right _ h))))))), List.forall_mem_cons.mpr ⟨fun _ h => List.mem_cons_of_mem _ (List.mem_append_left _ (List.mem_append_left _ (List.mem_append_left _ (List.mem_append_left _ (List.mem_append_left _ (List.mem_append_right _ h)))))), List.forall_mem_cons.mpr ⟨fun _ h => List.mem_cons_of_mem _ (List.mem_append_left _ (List.mem_append_left _ (List.mem_append_left _ (List.mem_append_left _ (List.mem_append_right _ h))))), List.forall_mem_cons.mpr ⟨fun _ h => List.mem_cons_of_mem _ (List.mem_append_left _ (List.mem_append_left _ (List.mem_append_left _ (List.mem_append_right _ h)))), List.forall_mem_cons.mpr ⟨fun _ h => List.mem_cons_of_mem _ (List.mem_append_left _ (List.mem_append_left _ (List.mem_append_right _ h))), List.forall_mem_cons.mpr ⟨fun _ h => List.mem_cons_of_mem _ (List.mem_append_left _ (List.mem_append_right _ h)), List.forall_mem_cons.mpr ⟨fun _ h => List.mem_cons_of_mem _ (List.mem_append_right _ h), fun l h => absurd h List.not_mem_nil⟩⟩⟩⟩⟩⟩⟩⟩⟩⟩⟩⟩⟩⟩⟩⟩⟩⟩⟩
set_option maxRecDepth 20000 in
theorem ggX11_order_X11_tableAt : GoodIn wsX11_order wsX11_tableAt := goodIn_sl csX11_order ciX11_order _ [(1, 7, 3), (12, 0, 13)] rfl gw_wsX11_tableAt
set_option maxRecDepth 20000 in
theorem gX11_order_X11_tableAt : GoodIn wsX11_order (wsV RX11 192 RX11 yX11_tableAt wsX11_tableAt) := goodIn_app (goodIn_sl csX11_order ciX11_order _ [(1, 3, 4)] rfl rfl) ggX11_order_X11_tableAt
noncomputable def NX11_order : Nat := 103479171459091982105249684071469800556408740782009313248729916695647577051589992475321854265078056194273235573546
theorem nX11_order : CN cX11_order NX11_order 47 := ⟨by decide +kernel, by decide +kernel⟩
theorem dX11_order_0 : decode cX11_order 0 = .ok (.aload_n 0, 1) := di_42 nX11_order (Eq.refl true) (Eq.refl true)
theorem dX11_order_1 : decode cX11_order 1 = .ok (.iload_n 1, 1) := di_27 nX11_order (Eq.refl true) (Eq.refl true)
theorem dX11_order_2 : decode cX11_order 2 = .ok (.invokevirtual 192, 3) := di_182 nX11_order (Eq.refl true) (Eq.refl true) (Eq.refl true)
theorem dX11_order_5 : decode cX11_order 5 = .ok (.astore_n 2, 1) := di_77 nX11_order (Eq.refl true) (Eq.refl true)
theorem dX11_order_6 : decode cX11_order 6 = .ok (.aload_n 2, 1) := di_44 nX11_order (Eq.refl true) (Eq.refl true)
theorem dX11_order_7 : decode cX11_order 7 = .ok (.ifnull 13, 3) := di_198 (x := 13) nX11_order (Eq.refl true) (Eq.refl true) (Eq.refl true) rfl
theorem dX11_order_20 : decode cX11_order 20 = .ok (.iconst (-1), 1) := di_2 nX11_order (Eq.refl true) (Eq.refl true)
theorem dX11_order_21 : decode cX11_order 21 = .ok (.ireturn, 1) := di_172 nX11_order (Eq.refl true) (Eq.refl true)
noncomputable def NX11_ordered : Nat := 4637323097887211001687653846599737569858242171402447320462009229679387
theorem nX11_ordered : CN cX11_ordered NX11_ordered 29 := ⟨by decide +kernel, by decide +kernel⟩
theorem dX11_ordered_0 : decode cX11_ordered 0 = .ok (.iload_n 1, 1) := di_27 nX11_ordered (Eq.refl true) (Eq.refl true)
theorem dX11_ordered_1 : decode cX11_ordered 1 = .ok (.ifCond .lt 26, 3) := di_155 (x := 26) nX11_ordered (Eq.refl true) (Eq.refl true) (Eq.refl true) rfl
theorem dX11_ordered_4 : decode cX11_ordered 4 = .ok (.iload_n 1, 1) := di_27 nX11_ordered (Eq.refl true) (Eq.refl true)
theorem dX11_ordered_5 : decode cX11_ordered 5 = .ok (.aload_n 0, 1) := di_42 nX11_ordered (Eq.refl true) (Eq.refl true)
theorem dX11_ordered_6 : decode cX11_ordered 6 = .ok (.getfield 75, 3) := di_180 nX11_ordered (Eq.refl true) (Eq.refl true) (Eq.refl true)
theorem dX11_ordered_9 : decode cX11_ordered 9 = .ok (.getfield 330, 3) := di_180 nX11_ordered (Eq.refl true) (Eq.refl true) (Eq.refl true)
theorem dX11_ordered_12 : decode cX11_ordered 12 = .ok (.if_icmp .ge 15, 3) := di_162 (x := 15) nX11_ordered (Eq.refl true) (Eq.refl true) (Eq.refl true) rfl
theorem dX11_ordered_27 : decode cX11_ordered 27 = .ok (.iconst (-1), 1) := di_2 nX11_ordered (Eq.refl true) (Eq.refl true)
theorem dX11_ordered_28 : decode cX11_ordered 28 = .ok (.ireturn, 1) := di_172 nX11_ordered (Eq.refl true) (Eq.refl true)
noncomputable def NX11_turning : Nat := 113908223814373619743926560769120447355498626871569243944960470653639670543392458962274181128030483450886806918372449759310890
theorem nX11_turning : CN cX11_turning NX11_turning 52 := ⟨by decide +kernel, by decide +kernel⟩
theorem dX11_turning_0 : decode cX11_turning 0 = .ok (.aload_n 0, 1) := di_42 nX11_turning (Eq.refl true) (Eq.refl true)
theorem dX11_turning_1 : decode cX11_turning 1 = .ok (.getfield 84, 3) := di_180 nX11_turning (Eq.refl true) (Eq.refl true) (Eq.refl true)
theorem dX11_turning_4 : decode cX11_turning 4 = .ok (.getfield 336, 3) := di_180 nX11_turning (Eq.refl true) (Eq.refl true) (Eq.refl true)
theorem dX11_turning_7 : decode cX11_turning 7 = .ok (.bipush 6, 2) := di_16 (x := 6) nX11_turning (Eq.refl true) (Eq.refl true) rfl
theorem dX11_turning_9 : decode cX11_turning 9 = .ok (.if_icmp .lt 6, 3) := di_161 (x := 6) nX11_turning (Eq.refl true) (Eq.refl true) (Eq.refl true) rfl
theorem dX11_turning_15 : decode cX11_turning 15 = .ok (.aload_n 0, 1) := di_42 nX11_turning (Eq.refl true) (Eq.refl true)
theorem dX11_turning_16 : decode cX11_turning 16 = .ok (.getfield 84, 3) := di_180 nX11_turning (Eq.refl true) (Eq.refl true) (Eq.refl true)
theorem dX11_turning_19 : decode cX11_turning 19 = .ok (.getfield 337, 3) := di_180 nX11_turning (Eq.refl true) (Eq.refl true) (Eq.refl true)
theorem dX11_turning_22 : decode cX11_turning 22 = .ok (.aload_n 0, 1) := di_42 nX11_turning (Eq.refl true) (Eq.refl true)
theorem dX11_turning_23 : decode cX11_turning 23 = .ok (.getfield 84, 3) := di_180 nX11_turning (Eq.refl true) (Eq.refl true) (Eq.refl true)
theorem dX11_turning_26 : decode cX11_turning 26 = .ok (.getfield 336, 3) := di_180 nX11_turning (Eq.refl true) (Eq.refl true) (Eq.refl true)
theorem dX11_turning_29 : decode cX11_turning 29 = .ok (.iload_n 1, 1) := di_27 nX11_turning (Eq.refl true) (Eq.refl true)
theorem dX11_turning_30 : decode cX11_turning 30 = .ok (.iastore, 1) := di_79 nX11_turning (Eq.refl true) (Eq.refl true)
theorem dX11_turning_31 : decode cX11_turning 31 = .ok (.aload_n 0, 1) := di_42 nX11_turning (Eq.refl true) (Eq.refl true)
theorem dX11_turning_32 : decode cX11_turning 32 = .ok (.getfield 84, 3) := di_180 nX11_turning (Eq.refl true) (Eq.refl true) (Eq.refl true)
theorem dX11_turning_35 : decode cX11_turning 35 = .ok (.dup, 1) := di_89 nX11_turning (Eq.refl true) (Eq.refl true)
theorem dX11_turning_36 : decode cX11_turning 36 = .ok (.getfield 336, 3) := di_180 nX11_turning (Eq.refl true) (Eq.refl true) (Eq.refl true)
theorem dX11_turning_39 : decode cX11_turning 39 = .ok (.iconst 1, 1) := di_4 nX11_turning (Eq.refl true) (Eq.refl true)
theorem dX11_turning_40 : decode cX11_turning 40 = .ok (.iadd, 1) := di_96 nX11_turning (Eq.refl true) (Eq.refl true)
theorem dX11_turning_41 : decode cX11_turning 41 = .ok (.putfield 336, 3) := di_181 nX11_turning (Eq.refl true) (Eq.refl true) (Eq.refl true)
theorem dX11_turning_44 : decode cX11_turning 44 = .ok (.aload_n 0, 1) := di_42 nX11_turning (Eq.refl true) (Eq.refl true)
theorem dX11_turning_45 : decode cX11_turning 45 = .ok (.getfield 84, 3) := di_180 nX11_turning (Eq.refl true) (Eq.refl true) (Eq.refl true)
theorem dX11_turning_48 : decode cX11_turning 48 = .ok (.getfield 336, 3) := di_180 nX11_turning (Eq.refl true) (Eq.refl true) (Eq.refl true)
theorem dX11_turning_51 : decode cX11_turning 51 = .ok (.ireturn, 1) := di_172 nX11_turning (Eq.refl true) (Eq.refl true)
noncomputable def csX11_harm : List (List Cond) := [[Cond.code yX11_harm cX11_harm 3 (some .int)], wsX11_harm_r1, wsX11_harm_r2, wsX11_harm_r3, wsX11_harm_r4, wsX11_harm_r5, wsX110, wsX100, wsX80, wsX40]
set_option maxRecDepth 20000 in
theorem ciX11_harm : ∀ l ∈ csX11_harm, ∀ w ∈ l, w ∈ wsX11_harm := by
  unfold csX11_harm
  refine List.forall_mem_cons.mpr ⟨fun _ h => List.mem_cons.mpr (Or.inl (List.mem_singleton.mp h)), List.forall_mem_cons.mpr ⟨fun _ h => List.mem_cons_of_mem _ (List.mem_append_left _ (List.mem_append_left _ (List.mem_append_left _ (List.mem_append_left _ (List.mem_append_left _ h))))), List.forall_mem_cons.mpr ⟨fun _ h => List.mem_cons_of_mem _ (List.mem_append_left _ (List.mem_append_left _ (List.mem_append_left _ (List.mem_append_left _ (List.mem_append_right _ (List.mem_append_left _ h)))))), List.forall_mem_cons.mpr ⟨fun _ h => List.mem_cons_of_mem _ (List.mem_append_left _ (List.mem_append_left _ (List.mem_append_left _ (List.mem_append_left _ (List.mem_append_right _ (List.mem_append_right _ (List.mem_append_left _ h))))))), List.forall_mem_cons.mpr ⟨fun _ h => List.mem_cons_of_mem _ (List.mem_append_left _ (List.mem_append_left _ (List.mem_append_left _ (List.mem_append_left _ (List.mem_append_right _ (List.mem_append_right _ (List.mem_append_right _ (List.mem_append_left _ h)))))))), List.forall_mem_cons.mpr ⟨fun _ h => List.mem_cons_of_mem _ (List.mem_append_left _ (List.mem_append_left _ (List.mem_append_left _ (List.mem_append_left _ (List.mem_append_right _ (List.mem_append_right _ (List.mem_append_right _ (List.mem_append_right _ h)))))))), List.forall_mem_cons.mpr ⟨fun _ h => List.mem_cons_of_mem _ (List.mem_append_left _ (List.mem_append_left _ (List.mem_append_left _ (List.mem_append_right _ h)))), List.forall_mem_cons.mpr ⟨fun _ h => List.mem_cons_of_mem _ (List.mem_append_left _ (List.mem_append_left _ (List.mem_append_right _ h))), List.forall_mem_cons.mpr ⟨fun _ h => List.mem_cons_of_mem _ (List.mem_append_left _ (List.mem_append_right _ h)), List.forall_mem_cons.mpr ⟨fun _ h => List.mem_cons_of_mem _ (List.mem_append_right _ h), fun l h => absurd h List.not_mem_nil⟩⟩⟩⟩⟩⟩⟩⟩⟩⟩
set_option maxRecDepth 20000 in
theorem ggX11_harm_X11_tableAt : GoodIn wsX11_harm wsX11_tableAt := goodIn_sl csX11_harm ciX11_harm _ [(1, 7, 3), (6, 0, 13)] rfl gw_wsX11_tableAt
set_option maxRecDepth 20000 in
theorem gX11_harm_X11_tableAt : GoodIn wsX11_harm (wsV RX11 192 RX11 yX11_tableAt wsX11_tableAt) := goodIn_app (goodIn_sl csX11_harm ciX11_harm _ [(1, 3, 4)] rfl rfl) ggX11_harm_X11_tableAt
noncomputable def NX11_harm : Nat := 1307661567715174280493142959605074480108649144359443131625498842387370790270650424106
theorem nX11_harm : CN cX11_harm NX11_harm 35 := ⟨by decide +kernel, by decide +kernel⟩
theorem dX11_harm_0 : decode cX11_harm 0 = .ok (.aload_n 0, 1) := di_42 nX11_harm (Eq.refl true) (Eq.refl true)
theorem dX11_harm_1 : decode cX11_harm 1 = .ok (.iload_n 1, 1) := di_27 nX11_harm (Eq.refl true) (Eq.refl true)
theorem dX11_harm_2 : decode cX11_harm 2 = .ok (.invokevirtual 192, 3) := di_182 nX11_harm (Eq.refl true) (Eq.refl true) (Eq.refl true)
theorem dX11_harm_5 : decode cX11_harm 5 = .ok (.astore_n 2, 1) := di_77 nX11_harm (Eq.refl true) (Eq.refl true)
theorem dX11_harm_6 : decode cX11_harm 6 = .ok (.aload_n 2, 1) := di_44 nX11_harm (Eq.refl true) (Eq.refl true)
theorem dX11_harm_7 : decode cX11_harm 7 = .ok (.ifnull 13, 3) := di_198 (x := 13) nX11_harm (Eq.refl true) (Eq.refl true) (Eq.refl true) rfl
theorem dX11_harm_20 : decode cX11_harm 20 = .ok (.iconst (-1), 1) := di_2 nX11_harm (Eq.refl true) (Eq.refl true)
theorem dX11_harm_21 : decode cX11_harm 21 = .ok (.ireturn, 1) := di_172 nX11_harm (Eq.refl true) (Eq.refl true)
noncomputable def NX11_harmed : Nat := 16506131830929925657428505425571274777077142979117888554
theorem nX11_harmed : CN cX11_harmed NX11_harmed 23 := ⟨by decide +kernel, by decide +kernel⟩
theorem dX11_harmed_0 : decode cX11_harmed 0 = .ok (.aload_n 0, 1) := di_42 nX11_harmed (Eq.refl true) (Eq.refl true)
theorem dX11_harmed_1 : decode cX11_harmed 1 = .ok (.getfield 84, 3) := di_180 nX11_harmed (Eq.refl true) (Eq.refl true) (Eq.refl true)
theorem dX11_harmed_4 : decode cX11_harmed 4 = .ok (.getfield 341, 3) := di_180 nX11_harmed (Eq.refl true) (Eq.refl true) (Eq.refl true)
theorem dX11_harmed_7 : decode cX11_harmed 7 = .ok (.iconst (-1), 1) := di_2 nX11_harmed (Eq.refl true) (Eq.refl true)
theorem dX11_harmed_8 : decode cX11_harmed 8 = .ok (.if_icmp .ne 7, 3) := di_160 (x := 7) nX11_harmed (Eq.refl true) (Eq.refl true) (Eq.refl true) rfl
theorem dX11_harmed_11 : decode cX11_harmed 11 = .ok (.iconst (-1), 1) := di_2 nX11_harmed (Eq.refl true) (Eq.refl true)
theorem dX11_harmed_12 : decode cX11_harmed 12 = .ok (.goto 10, 3) := di_167 (x := 10) nX11_harmed (Eq.refl true) (Eq.refl true) (Eq.refl true) rfl
theorem dX11_harmed_22 : decode cX11_harmed 22 = .ok (.ireturn, 1) := di_172 nX11_harmed (Eq.refl true) (Eq.refl true)
noncomputable def csX11_act : List (List Cond) := [[Cond.code yX11_act cX11_act 4 (some .int)], wsX11_act_r1, wsX11_act_r2, wsX110, wsX00, wsX20]
set_option maxRecDepth 20000 in
theorem ciX11_act : ∀ l ∈ csX11_act, ∀ w ∈ l, w ∈ wsX11_act := by
  unfold csX11_act
  refine List.forall_mem_cons.mpr ⟨fun _ h => List.mem_cons.mpr (Or.inl (List.mem_singleton.mp h)), List.forall_mem_cons.mpr ⟨fun _ h => List.mem_cons_of_mem _ (List.mem_append_left _ (List.mem_append_left _ (List.mem_append_left _ (List.mem_append_left _ h)))), List.forall_mem_cons.mpr ⟨fun _ h => List.mem_cons_of_mem _ (List.mem_append_left _ (List.mem_append_left _ (List.mem_append_left _ (List.mem_append_right _ h)))), List.forall_mem_cons.mpr ⟨fun _ h => List.mem_cons_of_mem _ (List.mem_append_left _ (List.mem_append_left _ (List.mem_append_right _ h))), List.forall_mem_cons.mpr ⟨fun _ h => List.mem_cons_of_mem _ (List.mem_append_left _ (List.mem_append_right _ h)), List.forall_mem_cons.mpr ⟨fun _ h => List.mem_cons_of_mem _ (List.mem_append_right _ h), fun l h => absurd h List.not_mem_nil⟩⟩⟩⟩⟩⟩
set_option maxRecDepth 20000 in
theorem ggX11_act_X2_has : GoodIn wsX11_act wsX2_has := goodIn_sl csX11_act ciX11_act _ [(1, 9, 2), (5, 0, 6)] rfl gw_wsX2_has
set_option maxRecDepth 20000 in
theorem gX11_act_X2_has : GoodIn wsX11_act (wsV RX11 137 RX2 yX2_has wsX2_has) := goodIn_app (goodIn_sl csX11_act ciX11_act _ [(1, 5, 4)] rfl rfl) ggX11_act_X2_has
noncomputable def NX11_act : Nat := 1738534982809262586601993900799338322060399255078325148901248146210420870536139068448667118378890822731733872969087235114
theorem nX11_act : CN cX11_act NX11_act 50 := ⟨by decide +kernel, by decide +kernel⟩
theorem dX11_act_0 : decode cX11_act 0 = .ok (.aload_n 0, 1) := di_42 nX11_act (Eq.refl true) (Eq.refl true)
theorem dX11_act_1 : decode cX11_act 1 = .ok (.getfield 91, 3) := di_180 nX11_act (Eq.refl true) (Eq.refl true) (Eq.refl true)
theorem dX11_act_4 : decode cX11_act 4 = .ok (.iconst 0, 1) := di_3 nX11_act (Eq.refl true) (Eq.refl true)
theorem dX11_act_5 : decode cX11_act 5 = .ok (.putfield 344, 3) := di_181 nX11_act (Eq.refl true) (Eq.refl true) (Eq.refl true)
theorem dX11_act_8 : decode cX11_act 8 = .ok (.aload_n 0, 1) := di_42 nX11_act (Eq.refl true) (Eq.refl true)
theorem dX11_act_9 : decode cX11_act 9 = .ok (.getfield 26, 3) := di_180 nX11_act (Eq.refl true) (Eq.refl true) (Eq.refl true)
theorem dX11_act_12 : decode cX11_act 12 = .ok (.iload_n 1, 1) := di_27 nX11_act (Eq.refl true) (Eq.refl true)
theorem dX11_act_13 : decode cX11_act 13 = .ok (.invokevirtual 137, 3) := di_182 nX11_act (Eq.refl true) (Eq.refl true) (Eq.refl true)
theorem dX11_act_16 : decode cX11_act 16 = .ok (.ifCond .ne 5, 3) := di_154 (x := 5) nX11_act (Eq.refl true) (Eq.refl true) (Eq.refl true) rfl
theorem dX11_act_19 : decode cX11_act 19 = .ok (.iconst 0, 1) := di_3 nX11_act (Eq.refl true) (Eq.refl true)
theorem dX11_act_20 : decode cX11_act 20 = .ok (.ireturn, 1) := di_172 nX11_act (Eq.refl true) (Eq.refl true)
noncomputable def NX11_trace : Nat := 1305290410977589852754723498050967272840742510007855894495650628198705620111128042267
theorem nX11_trace : CN cX11_trace NX11_trace 35 := ⟨by decide +kernel, by decide +kernel⟩
theorem dX11_trace_0 : decode cX11_trace 0 = .ok (.iload_n 1, 1) := di_27 nX11_trace (Eq.refl true) (Eq.refl true)
theorem dX11_trace_1 : decode cX11_trace 1 = .ok (.ifCond .lt 32, 3) := di_155 (x := 32) nX11_trace (Eq.refl true) (Eq.refl true) (Eq.refl true) rfl
theorem dX11_trace_4 : decode cX11_trace 4 = .ok (.iload_n 1, 1) := di_27 nX11_trace (Eq.refl true) (Eq.refl true)
theorem dX11_trace_5 : decode cX11_trace 5 = .ok (.aload_n 0, 1) := di_42 nX11_trace (Eq.refl true) (Eq.refl true)
theorem dX11_trace_6 : decode cX11_trace 6 = .ok (.getfield 91, 3) := di_180 nX11_trace (Eq.refl true) (Eq.refl true) (Eq.refl true)
theorem dX11_trace_9 : decode cX11_trace 9 = .ok (.getfield 344, 3) := di_180 nX11_trace (Eq.refl true) (Eq.refl true) (Eq.refl true)
theorem dX11_trace_12 : decode cX11_trace 12 = .ok (.if_icmp .ge 21, 3) := di_162 (x := 21) nX11_trace (Eq.refl true) (Eq.refl true) (Eq.refl true) rfl
theorem dX11_trace_33 : decode cX11_trace 33 = .ok (.iconst (-1), 1) := di_2 nX11_trace (Eq.refl true) (Eq.refl true)
theorem dX11_trace_34 : decode cX11_trace 34 = .ok (.ireturn, 1) := di_172 nX11_trace (Eq.refl true) (Eq.refl true)
noncomputable def csX11_keep : List (List Cond) := [[Cond.code yX11_keep cX11_keep 3 (some .int)], [Cond.fieldLink RX11 26 "SeatsRound" "keepers" "LSeatsRound$Keepers;", Cond.fieldLink RX11 98 "SeatsRound" "rows" "LSeatsRound$Rows;", Cond.methodLink RX11 354 yX11_isShelf, Cond.static yX11_isShelf, Cond.initialized RX11, Cond.code yX11_isShelf cX11_isShelf 1 (some .boolean), Cond.methodLink RX11 137 yX2_has, Cond.instanceMethod yX2_has, Cond.selects RX2 yX2_has yX2_has, Cond.initialized RX2, Cond.code yX2_has cX2_has 2 (some .boolean), Cond.fieldLink RX2 28 "SeatsRound$Keepers" "count" "I", Cond.methodLink RX11 357 yX7_holdKeeper, Cond.instanceMethod yX7_holdKeeper, Cond.selects RX7 yX7_holdKeeper yX7_holdKeeper, Cond.initialized RX7, Cond.code yX7_holdKeeper cX7_holdKeeper 3 none, Cond.fieldLink RX7 9 "SeatsRound$Rows" "keeper" "[I", Cond.fieldLink RX7 15 "SeatsRound$Rows" "sort" "[I", Cond.fieldLink RX7 18 "SeatsRound$Rows" "length" "[I"], wsX110, wsX20, wsX70]
set_option maxRecDepth 20000 in
theorem ciX11_keep : ∀ l ∈ csX11_keep, ∀ w ∈ l, w ∈ wsX11_keep := by
  unfold csX11_keep
  refine List.forall_mem_cons.mpr ⟨fun _ h => List.mem_cons.mpr (Or.inl (List.mem_singleton.mp h)), List.forall_mem_cons.mpr ⟨fun _ h => List.mem_cons_of_mem _ (List.mem_append_left _ (List.mem_append_left _ (List.mem_append_left _ h))), List.forall_mem_cons.mpr ⟨fun _ h => List.mem_cons_of_mem _ (List.mem_append_left _ (List.mem_append_left _ (List.mem_append_right _ h))), List.forall_mem_cons.mpr ⟨fun _ h => List.mem_cons_of_mem _ (List.mem_append_left _ (List.mem_append_right _ h)), List.forall_mem_cons.mpr ⟨fun _ h => List.mem_cons_of_mem _ (List.mem_append_right _ h), fun l h => absurd h List.not_mem_nil⟩⟩⟩⟩⟩
set_option maxRecDepth 20000 in
theorem ggX11_keep_X11_isShelf : GoodIn wsX11_keep wsX11_isShelf := goodIn_sl csX11_keep ciX11_keep _ [(1, 5, 1)] rfl gw_wsX11_isShelf
set_option maxRecDepth 20000 in
theorem gX11_keep_X11_isShelf : GoodIn wsX11_keep (va_wsS RX11 354 yX11_isShelf wsX11_isShelf) := goodIn_app (goodIn_sl csX11_keep ciX11_keep _ [(1, 2, 3)] rfl rfl) ggX11_keep_X11_isShelf
set_option maxRecDepth 20000 in
theorem ggX11_keep_X2_has : GoodIn wsX11_keep wsX2_has := goodIn_sl csX11_keep ciX11_keep _ [(1, 10, 2), (3, 0, 6)] rfl gw_wsX2_has
set_option maxRecDepth 20000 in
theorem gX11_keep_X2_has : GoodIn wsX11_keep (wsV RX11 137 RX2 yX2_has wsX2_has) := goodIn_app (goodIn_sl csX11_keep ciX11_keep _ [(1, 6, 4)] rfl rfl) ggX11_keep_X2_has
set_option maxRecDepth 20000 in
theorem ggX11_keep_X7_holdKeeper : GoodIn wsX11_keep wsX7_holdKeeper := goodIn_sl csX11_keep ciX11_keep _ [(1, 16, 4), (4, 0, 4)] rfl gw_wsX7_holdKeeper
set_option maxRecDepth 20000 in
theorem gX11_keep_X7_holdKeeper : GoodIn wsX11_keep (wsV RX11 357 RX7 yX7_holdKeeper wsX7_holdKeeper) := goodIn_app (goodIn_sl csX11_keep ciX11_keep _ [(1, 12, 4)] rfl rfl) ggX11_keep_X7_holdKeeper
noncomputable def NX11_keep : Nat := 334172397782688435649014162288245359793069513678984877108101610536103553662588077324315
theorem nX11_keep : CN cX11_keep NX11_keep 36 := ⟨by decide +kernel, by decide +kernel⟩
theorem dX11_keep_0 : decode cX11_keep 0 = .ok (.iload_n 1, 1) := di_27 nX11_keep (Eq.refl true) (Eq.refl true)
theorem dX11_keep_1 : decode cX11_keep 1 = .ok (.invokestatic 354, 3) := di_184 nX11_keep (Eq.refl true) (Eq.refl true) (Eq.refl true)
theorem dX11_keep_4 : decode cX11_keep 4 = .ok (.ifCond .eq 19, 3) := di_153 (x := 19) nX11_keep (Eq.refl true) (Eq.refl true) (Eq.refl true) rfl
theorem dX11_keep_7 : decode cX11_keep 7 = .ok (.iload_n 2, 1) := di_28 nX11_keep (Eq.refl true) (Eq.refl true)
theorem dX11_keep_8 : decode cX11_keep 8 = .ok (.iconst (-1), 1) := di_2 nX11_keep (Eq.refl true) (Eq.refl true)
theorem dX11_keep_9 : decode cX11_keep 9 = .ok (.if_icmp .eq 16, 3) := di_159 (x := 16) nX11_keep (Eq.refl true) (Eq.refl true) (Eq.refl true) rfl
theorem dX11_keep_12 : decode cX11_keep 12 = .ok (.aload_n 0, 1) := di_42 nX11_keep (Eq.refl true) (Eq.refl true)
theorem dX11_keep_13 : decode cX11_keep 13 = .ok (.getfield 26, 3) := di_180 nX11_keep (Eq.refl true) (Eq.refl true) (Eq.refl true)
theorem dX11_keep_16 : decode cX11_keep 16 = .ok (.iload_n 2, 1) := di_28 nX11_keep (Eq.refl true) (Eq.refl true)
theorem dX11_keep_17 : decode cX11_keep 17 = .ok (.invokevirtual 137, 3) := di_182 nX11_keep (Eq.refl true) (Eq.refl true) (Eq.refl true)
theorem dX11_keep_20 : decode cX11_keep 20 = .ok (.ifCond .ne 5, 3) := di_154 (x := 5) nX11_keep (Eq.refl true) (Eq.refl true) (Eq.refl true) rfl
theorem dX11_keep_23 : decode cX11_keep 23 = .ok (.iconst (-1), 1) := di_2 nX11_keep (Eq.refl true) (Eq.refl true)
theorem dX11_keep_24 : decode cX11_keep 24 = .ok (.ireturn, 1) := di_172 nX11_keep (Eq.refl true) (Eq.refl true)
theorem dX11_keep_25 : decode cX11_keep 25 = .ok (.aload_n 0, 1) := di_42 nX11_keep (Eq.refl true) (Eq.refl true)
theorem dX11_keep_26 : decode cX11_keep 26 = .ok (.getfield 98, 3) := di_180 nX11_keep (Eq.refl true) (Eq.refl true) (Eq.refl true)
theorem dX11_keep_29 : decode cX11_keep 29 = .ok (.iload_n 1, 1) := di_27 nX11_keep (Eq.refl true) (Eq.refl true)
theorem dX11_keep_30 : decode cX11_keep 30 = .ok (.iload_n 2, 1) := di_28 nX11_keep (Eq.refl true) (Eq.refl true)
theorem dX11_keep_31 : decode cX11_keep 31 = .ok (.invokevirtual 357, 3) := di_182 nX11_keep (Eq.refl true) (Eq.refl true) (Eq.refl true)
theorem dX11_keep_34 : decode cX11_keep 34 = .ok (.iconst 1, 1) := di_4 nX11_keep (Eq.refl true) (Eq.refl true)
theorem dX11_keep_35 : decode cX11_keep 35 = .ok (.ireturn, 1) := di_172 nX11_keep (Eq.refl true) (Eq.refl true)
noncomputable def csX11_row : List (List Cond) := [[Cond.code yX11_row cX11_row 4 (some .int)], [Cond.fieldLink RX11 98 "SeatsRound" "rows" "LSeatsRound$Rows;", Cond.methodLink RX11 354 yX11_isShelf, Cond.static yX11_isShelf, Cond.initialized RX11, Cond.code yX11_isShelf cX11_isShelf 1 (some .boolean), Cond.methodLink RX11 360 yX7_holdRow, Cond.instanceMethod yX7_holdRow, Cond.selects RX7 yX7_holdRow yX7_holdRow, Cond.initialized RX7, Cond.code yX7_holdRow cX7_holdRow 4 none, Cond.fieldLink RX7 9 "SeatsRound$Rows" "keeper" "[I", Cond.fieldLink RX7 15 "SeatsRound$Rows" "sort" "[I", Cond.fieldLink RX7 18 "SeatsRound$Rows" "length" "[I", Cond.fieldLink RX7 23 "SeatsRound$Rows" "elements" "[[J", Cond.methodLink RX7 32 yJ7_fill_d0a16, Cond.static yJ7_fill_d0a16, Cond.initialized RJ7, Cond.code yJ7_fill_d0a16 cJ7_fill_d0a16 5 none], wsX110, wsX70]
set_option maxRecDepth 20000 in
theorem ciX11_row : ∀ l ∈ csX11_row, ∀ w ∈ l, w ∈ wsX11_row := by
  unfold csX11_row
  refine List.forall_mem_cons.mpr ⟨fun _ h => List.mem_cons.mpr (Or.inl (List.mem_singleton.mp h)), List.forall_mem_cons.mpr ⟨fun _ h => List.mem_cons_of_mem _ (List.mem_append_left _ (List.mem_append_left _ h)), List.forall_mem_cons.mpr ⟨fun _ h => List.mem_cons_of_mem _ (List.mem_append_left _ (List.mem_append_right _ h)), List.forall_mem_cons.mpr ⟨fun _ h => List.mem_cons_of_mem _ (List.mem_append_right _ h), fun l h => absurd h List.not_mem_nil⟩⟩⟩⟩
set_option maxRecDepth 20000 in
theorem ggX11_row_X11_isShelf : GoodIn wsX11_row wsX11_isShelf := goodIn_sl csX11_row ciX11_row _ [(1, 4, 1)] rfl gw_wsX11_isShelf
set_option maxRecDepth 20000 in
theorem gX11_row_X11_isShelf : GoodIn wsX11_row (va_wsS RX11 354 yX11_isShelf wsX11_isShelf) := goodIn_app (goodIn_sl csX11_row ciX11_row _ [(1, 1, 3)] rfl rfl) ggX11_row_X11_isShelf
set_option maxRecDepth 20000 in
theorem ggX11_row_X7_holdRow : GoodIn wsX11_row wsX7_holdRow := goodIn_sl csX11_row ciX11_row _ [(1, 9, 9), (3, 0, 4)] rfl gw_wsX7_holdRow
set_option maxRecDepth 20000 in
theorem gX11_row_X7_holdRow : GoodIn wsX11_row (wsV RX11 360 RX7 yX7_holdRow wsX7_holdRow) := goodIn_app (goodIn_sl csX11_row ciX11_row _ [(1, 5, 4)] rfl rfl) ggX11_row_X7_holdRow
noncomputable def NX11_row : Nat := 24079665386067168278171009210500562069427342471555567115819484044490770399189551245931814196774262913051
theorem nX11_row : CN cX11_row NX11_row 43 := ⟨by decide +kernel, by decide +kernel⟩
theorem dX11_row_0 : decode cX11_row 0 = .ok (.iload_n 1, 1) := di_27 nX11_row (Eq.refl true) (Eq.refl true)
theorem dX11_row_1 : decode cX11_row 1 = .ok (.invokestatic 354, 3) := di_184 nX11_row (Eq.refl true) (Eq.refl true) (Eq.refl true)
theorem dX11_row_4 : decode cX11_row 4 = .ok (.ifCond .eq 18, 3) := di_153 (x := 18) nX11_row (Eq.refl true) (Eq.refl true) (Eq.refl true) rfl
theorem dX11_row_7 : decode cX11_row 7 = .ok (.iload_n 2, 1) := di_28 nX11_row (Eq.refl true) (Eq.refl true)
theorem dX11_row_8 : decode cX11_row 8 = .ok (.ifCond .lt 14, 3) := di_155 (x := 14) nX11_row (Eq.refl true) (Eq.refl true) (Eq.refl true) rfl
theorem dX11_row_11 : decode cX11_row 11 = .ok (.iload_n 2, 1) := di_28 nX11_row (Eq.refl true) (Eq.refl true)
theorem dX11_row_12 : decode cX11_row 12 = .ok (.iconst 4, 1) := di_7 nX11_row (Eq.refl true) (Eq.refl true)
theorem dX11_row_13 : decode cX11_row 13 = .ok (.if_icmp .gt 9, 3) := di_163 (x := 9) nX11_row (Eq.refl true) (Eq.refl true) (Eq.refl true) rfl
theorem dX11_row_16 : decode cX11_row 16 = .ok (.iload_n 3, 1) := di_29 nX11_row (Eq.refl true) (Eq.refl true)
theorem dX11_row_17 : decode cX11_row 17 = .ok (.bipush 60, 2) := di_16 (x := 60) nX11_row (Eq.refl true) (Eq.refl true) rfl
theorem dX11_row_19 : decode cX11_row 19 = .ok (.if_icmp .le 5, 3) := di_164 (x := 5) nX11_row (Eq.refl true) (Eq.refl true) (Eq.refl true) rfl
theorem dX11_row_22 : decode cX11_row 22 = .ok (.iconst (-1), 1) := di_2 nX11_row (Eq.refl true) (Eq.refl true)
theorem dX11_row_23 : decode cX11_row 23 = .ok (.ireturn, 1) := di_172 nX11_row (Eq.refl true) (Eq.refl true)
theorem dX11_row_24 : decode cX11_row 24 = .ok (.iload_n 3, 1) := di_29 nX11_row (Eq.refl true) (Eq.refl true)
theorem dX11_row_25 : decode cX11_row 25 = .ok (.ifCond .ge 6, 3) := di_156 (x := 6) nX11_row (Eq.refl true) (Eq.refl true) (Eq.refl true) rfl
theorem dX11_row_28 : decode cX11_row 28 = .ok (.bipush (-14), 2) := di_16 (x := 242) nX11_row (Eq.refl true) (Eq.refl true) rfl
theorem dX11_row_30 : decode cX11_row 30 = .ok (.ireturn, 1) := di_172 nX11_row (Eq.refl true) (Eq.refl true)
theorem dX11_row_31 : decode cX11_row 31 = .ok (.aload_n 0, 1) := di_42 nX11_row (Eq.refl true) (Eq.refl true)
theorem dX11_row_32 : decode cX11_row 32 = .ok (.getfield 98, 3) := di_180 nX11_row (Eq.refl true) (Eq.refl true) (Eq.refl true)
theorem dX11_row_35 : decode cX11_row 35 = .ok (.iload_n 1, 1) := di_27 nX11_row (Eq.refl true) (Eq.refl true)
theorem dX11_row_36 : decode cX11_row 36 = .ok (.iload_n 2, 1) := di_28 nX11_row (Eq.refl true) (Eq.refl true)
theorem dX11_row_37 : decode cX11_row 37 = .ok (.iload_n 3, 1) := di_29 nX11_row (Eq.refl true) (Eq.refl true)
theorem dX11_row_38 : decode cX11_row 38 = .ok (.invokevirtual 360, 3) := di_182 nX11_row (Eq.refl true) (Eq.refl true) (Eq.refl true)
theorem dX11_row_41 : decode cX11_row 41 = .ok (.iconst 1, 1) := di_4 nX11_row (Eq.refl true) (Eq.refl true)
theorem dX11_row_42 : decode cX11_row 42 = .ok (.ireturn, 1) := di_172 nX11_row (Eq.refl true) (Eq.refl true)
noncomputable def csX11_put : List (List Cond) := [[Cond.code yX11_put cX11_put 6 (some .int)], wsX11_put_r1, wsX11_put_r2, wsX110, wsX70]
set_option maxRecDepth 20000 in
theorem ciX11_put : ∀ l ∈ csX11_put, ∀ w ∈ l, w ∈ wsX11_put := by
  unfold csX11_put
  refine List.forall_mem_cons.mpr ⟨fun _ h => List.mem_cons.mpr (Or.inl (List.mem_singleton.mp h)), List.forall_mem_cons.mpr ⟨fun _ h => List.mem_cons_of_mem _ (List.mem_append_left _ (List.mem_append_left _ (List.mem_append_left _ h))), List.forall_mem_cons.mpr ⟨fun _ h => List.mem_cons_of_mem _ (List.mem_append_left _ (List.mem_append_left _ (List.mem_append_right _ h))), List.forall_mem_cons.mpr ⟨fun _ h => List.mem_cons_of_mem _ (List.mem_append_left _ (List.mem_append_right _ h)), List.forall_mem_cons.mpr ⟨fun _ h => List.mem_cons_of_mem _ (List.mem_append_right _ h), fun l h => absurd h List.not_mem_nil⟩⟩⟩⟩⟩
set_option maxRecDepth 20000 in
theorem ggX11_put_X11_isShelf : GoodIn wsX11_put wsX11_isShelf := goodIn_sl csX11_put ciX11_put _ [(1, 6, 1)] rfl gw_wsX11_isShelf
set_option maxRecDepth 20000 in
theorem gX11_put_X11_isShelf : GoodIn wsX11_put (va_wsS RX11 354 yX11_isShelf wsX11_isShelf) := goodIn_app (goodIn_sl csX11_put ciX11_put _ [(1, 3, 3)] rfl rfl) ggX11_put_X11_isShelf
set_option maxRecDepth 20000 in
theorem ggX11_put_X7_refusalAt : GoodIn wsX11_put wsX7_refusalAt := goodIn_sl csX11_put ciX11_put _ [(1, 11, 5), (1, 10, 1), (1, 16, 7), (4, 0, 4)] rfl gw_wsX7_refusalAt
set_option maxRecDepth 20000 in
theorem gX11_put_X7_refusalAt : GoodIn wsX11_put (wsV RX11 364 RX7 yX7_refusalAt wsX7_refusalAt) := goodIn_app (goodIn_sl csX11_put ciX11_put _ [(1, 7, 4)] rfl rfl) ggX11_put_X7_refusalAt
noncomputable def NX11_put : Nat := 7452279913462061973437622613541849056073464000715069540303814543197184131683630809573230130441572275077072490057458131500680722459
theorem nX11_put : CN cX11_put NX11_put 54 := ⟨by decide +kernel, by decide +kernel⟩
theorem dX11_put_0 : decode cX11_put 0 = .ok (.iload_n 1, 1) := di_27 nX11_put (Eq.refl true) (Eq.refl true)
theorem dX11_put_1 : decode cX11_put 1 = .ok (.invokestatic 354, 3) := di_184 nX11_put (Eq.refl true) (Eq.refl true) (Eq.refl true)
theorem dX11_put_4 : decode cX11_put 4 = .ok (.ifCond .ne 5, 3) := di_154 (x := 5) nX11_put (Eq.refl true) (Eq.refl true) (Eq.refl true) rfl
theorem dX11_put_7 : decode cX11_put 7 = .ok (.iconst (-1), 1) := di_2 nX11_put (Eq.refl true) (Eq.refl true)
theorem dX11_put_8 : decode cX11_put 8 = .ok (.ireturn, 1) := di_172 nX11_put (Eq.refl true) (Eq.refl true)
theorem dX11_put_9 : decode cX11_put 9 = .ok (.aload_n 0, 1) := di_42 nX11_put (Eq.refl true) (Eq.refl true)
theorem dX11_put_10 : decode cX11_put 10 = .ok (.getfield 98, 3) := di_180 nX11_put (Eq.refl true) (Eq.refl true) (Eq.refl true)
theorem dX11_put_13 : decode cX11_put 13 = .ok (.iload_n 1, 1) := di_27 nX11_put (Eq.refl true) (Eq.refl true)
theorem dX11_put_14 : decode cX11_put 14 = .ok (.iload_n 2, 1) := di_28 nX11_put (Eq.refl true) (Eq.refl true)
theorem dX11_put_15 : decode cX11_put 15 = .ok (.invokevirtual 364, 3) := di_182 nX11_put (Eq.refl true) (Eq.refl true) (Eq.refl true)
theorem dX11_put_18 : decode cX11_put 18 = .ok (.istore 5, 2) := di_54 nX11_put (Eq.refl true) (Eq.refl true)
theorem dX11_put_20 : decode cX11_put 20 = .ok (.iload 5, 2) := di_21 nX11_put (Eq.refl true) (Eq.refl true)
theorem dX11_put_22 : decode cX11_put 22 = .ok (.ifCond .eq 6, 3) := di_153 (x := 6) nX11_put (Eq.refl true) (Eq.refl true) (Eq.refl true) rfl
theorem dX11_put_25 : decode cX11_put 25 = .ok (.iload 5, 2) := di_21 nX11_put (Eq.refl true) (Eq.refl true)
theorem dX11_put_27 : decode cX11_put 27 = .ok (.ireturn, 1) := di_172 nX11_put (Eq.refl true) (Eq.refl true)
noncomputable def csX11_element : List (List Cond) := [[Cond.code yX11_element cX11_element 3 (some .long)], [Cond.fieldLink RX11 98 "SeatsRound" "rows" "LSeatsRound$Rows;", Cond.constantLong RX11 380 (-9223372036854775808), Cond.fieldLink RX11 367 "SeatsRound$Rows" "elements" "[[J", Cond.methodLink RX11 354 yX11_isShelf, Cond.static yX11_isShelf, Cond.initialized RX11, Cond.code yX11_isShelf cX11_isShelf 1 (some .boolean), Cond.methodLink RX11 364 yX7_refusalAt, Cond.instanceMethod yX7_refusalAt, Cond.selects RX7 yX7_refusalAt yX7_refusalAt, Cond.initialized RX7, Cond.code yX7_refusalAt cX7_refusalAt 3 (some .int), Cond.fieldLink RX7 18 "SeatsRound$Rows" "length" "[I", Cond.methodLink RX7 35 yX7_isEmpty, Cond.instanceMethod yX7_isEmpty, Cond.selects RX7 yX7_isEmpty yX7_isEmpty, Cond.code yX7_isEmpty cX7_isEmpty 2 (some .boolean), Cond.fieldLink RX7 15 "SeatsRound$Rows" "sort" "[I", Cond.fieldLink RX7 9 "SeatsRound$Rows" "keeper" "[I", Cond.methodLink RX7 39 yX7_isRow, Cond.instanceMethod yX7_isRow, Cond.selects RX7 yX7_isRow yX7_isRow, Cond.code yX7_isRow cX7_isRow 2 (some .boolean)], wsX110, wsX70]
set_option maxRecDepth 20000 in
theorem ciX11_element : ∀ l ∈ csX11_element, ∀ w ∈ l, w ∈ wsX11_element := by
  unfold csX11_element
  refine List.forall_mem_cons.mpr ⟨fun _ h => List.mem_cons.mpr (Or.inl (List.mem_singleton.mp h)), List.forall_mem_cons.mpr ⟨fun _ h => List.mem_cons_of_mem _ (List.mem_append_left _ (List.mem_append_left _ h)), List.forall_mem_cons.mpr ⟨fun _ h => List.mem_cons_of_mem _ (List.mem_append_left _ (List.mem_append_right _ h)), List.forall_mem_cons.mpr ⟨fun _ h => List.mem_cons_of_mem _ (List.mem_append_right _ h), fun l h => absurd h List.not_mem_nil⟩⟩⟩⟩
set_option maxRecDepth 20000 in
theorem ggX11_element_X11_isShelf : GoodIn wsX11_element wsX11_isShelf := goodIn_sl csX11_element ciX11_element _ [(1, 6, 1)] rfl gw_wsX11_isShelf
set_option maxRecDepth 20000 in
theorem gX11_element_X11_isShelf : GoodIn wsX11_element (va_wsS RX11 354 yX11_isShelf wsX11_isShelf) := goodIn_app (goodIn_sl csX11_element ciX11_element _ [(1, 3, 3)] rfl rfl) ggX11_element_X11_isShelf
set_option maxRecDepth 20000 in
theorem ggX11_element_X7_refusalAt : GoodIn wsX11_element wsX7_refusalAt := goodIn_sl csX11_element ciX11_element _ [(1, 11, 5), (1, 10, 1), (1, 16, 7), (3, 0, 4)] rfl gw_wsX7_refusalAt
set_option maxRecDepth 20000 in
theorem gX11_element_X7_refusalAt : GoodIn wsX11_element (wsV RX11 364 RX7 yX7_refusalAt wsX7_refusalAt) := goodIn_app (goodIn_sl csX11_element ciX11_element _ [(1, 7, 4)] rfl rfl) ggX11_element_X7_refusalAt
noncomputable def NX11_element : Nat := 1314215687584733946737405591015217037137175069008270418826400066734799145544169142299
theorem nX11_element : CN cX11_element NX11_element 35 := ⟨by decide +kernel, by decide +kernel⟩
theorem dX11_element_0 : decode cX11_element 0 = .ok (.iload_n 1, 1) := di_27 nX11_element (Eq.refl true) (Eq.refl true)
theorem dX11_element_1 : decode cX11_element 1 = .ok (.invokestatic 354, 3) := di_184 nX11_element (Eq.refl true) (Eq.refl true) (Eq.refl true)
theorem dX11_element_4 : decode cX11_element 4 = .ok (.ifCond .eq 15, 3) := di_153 (x := 15) nX11_element (Eq.refl true) (Eq.refl true) (Eq.refl true) rfl
theorem dX11_element_7 : decode cX11_element 7 = .ok (.aload_n 0, 1) := di_42 nX11_element (Eq.refl true) (Eq.refl true)
theorem dX11_element_8 : decode cX11_element 8 = .ok (.getfield 98, 3) := di_180 nX11_element (Eq.refl true) (Eq.refl true) (Eq.refl true)
theorem dX11_element_11 : decode cX11_element 11 = .ok (.iload_n 1, 1) := di_27 nX11_element (Eq.refl true) (Eq.refl true)
theorem dX11_element_12 : decode cX11_element 12 = .ok (.iload_n 2, 1) := di_28 nX11_element (Eq.refl true) (Eq.refl true)
theorem dX11_element_13 : decode cX11_element 13 = .ok (.invokevirtual 364, 3) := di_182 nX11_element (Eq.refl true) (Eq.refl true) (Eq.refl true)
theorem dX11_element_16 : decode cX11_element 16 = .ok (.ifCond .eq 7, 3) := di_153 (x := 7) nX11_element (Eq.refl true) (Eq.refl true) (Eq.refl true) rfl
theorem dX11_element_19 : decode cX11_element 19 = .ok (.ldc2_w 380, 3) := di_20 nX11_element (Eq.refl true) (Eq.refl true) (Eq.refl true)
theorem dX11_element_22 : decode cX11_element 22 = .ok (.lreturn, 1) := di_173 nX11_element (Eq.refl true) (Eq.refl true)
noncomputable def csX11_shift : List (List Cond) := [[Cond.code yX11_shift cX11_shift 6 (some .int)], wsX11_shift_r1, wsX11_shift_r2, wsX110, wsX70]
set_option maxRecDepth 20000 in
theorem ciX11_shift : ∀ l ∈ csX11_shift, ∀ w ∈ l, w ∈ wsX11_shift := by
  unfold csX11_shift
  refine List.forall_mem_cons.mpr ⟨fun _ h => List.mem_cons.mpr (Or.inl (List.mem_singleton.mp h)), List.forall_mem_cons.mpr ⟨fun _ h => List.mem_cons_of_mem _ (List.mem_append_left _ (List.mem_append_left _ (List.mem_append_left _ h))), List.forall_mem_cons.mpr ⟨fun _ h => List.mem_cons_of_mem _ (List.mem_append_left _ (List.mem_append_left _ (List.mem_append_right _ h))), List.forall_mem_cons.mpr ⟨fun _ h => List.mem_cons_of_mem _ (List.mem_append_left _ (List.mem_append_right _ h)), List.forall_mem_cons.mpr ⟨fun _ h => List.mem_cons_of_mem _ (List.mem_append_right _ h), fun l h => absurd h List.not_mem_nil⟩⟩⟩⟩⟩
set_option maxRecDepth 20000 in
theorem ggX11_shift_X11_isShelf : GoodIn wsX11_shift wsX11_isShelf := goodIn_sl csX11_shift ciX11_shift _ [(1, 10, 1)] rfl gw_wsX11_isShelf
set_option maxRecDepth 20000 in
theorem gX11_shift_X11_isShelf : GoodIn wsX11_shift (va_wsS RX11 354 yX11_isShelf wsX11_isShelf) := goodIn_app (goodIn_sl csX11_shift ciX11_shift _ [(1, 7, 3)] rfl rfl) ggX11_shift_X11_isShelf
set_option maxRecDepth 20000 in
theorem ggX11_shift_X7_isEmpty : GoodIn wsX11_shift wsX7_isEmpty := goodIn_sl csX11_shift ciX11_shift _ [(1, 15, 3), (4, 0, 4)] rfl gw_wsX7_isEmpty
set_option maxRecDepth 20000 in
theorem gX11_shift_X7_isEmpty : GoodIn wsX11_shift (wsV RX11 382 RX7 yX7_isEmpty wsX7_isEmpty) := goodIn_app (goodIn_sl csX11_shift ciX11_shift _ [(1, 11, 4)] rfl rfl) ggX11_shift_X7_isEmpty
noncomputable def NX11_shift : Nat := 176544214600632921307087266783779186049160012938153766466859749546084598047075733462820782358552508051795992846920312796656161239174701141472934468478492139322183219496452662168678361185618875377467577350738295815739475184310641209504722691831410615628777749617913958813665565521554018925477272249664749598768796144478265170475537493117008933768302730262555
theorem nX11_shift : CN cX11_shift NX11_shift 148 := ⟨by decide +kernel, by decide +kernel⟩
theorem dX11_shift_0 : decode cX11_shift 0 = .ok (.iload_n 1, 1) := di_27 nX11_shift (Eq.refl true) (Eq.refl true)
theorem dX11_shift_1 : decode cX11_shift 1 = .ok (.invokestatic 354, 3) := di_184 nX11_shift (Eq.refl true) (Eq.refl true) (Eq.refl true)
theorem dX11_shift_4 : decode cX11_shift 4 = .ok (.ifCond .eq 10, 3) := di_153 (x := 10) nX11_shift (Eq.refl true) (Eq.refl true) (Eq.refl true) rfl
theorem dX11_shift_7 : decode cX11_shift 7 = .ok (.iload_n 3, 1) := di_29 nX11_shift (Eq.refl true) (Eq.refl true)
theorem dX11_shift_8 : decode cX11_shift 8 = .ok (.invokestatic 354, 3) := di_184 nX11_shift (Eq.refl true) (Eq.refl true) (Eq.refl true)
theorem dX11_shift_11 : decode cX11_shift 11 = .ok (.ifCond .ne 5, 3) := di_154 (x := 5) nX11_shift (Eq.refl true) (Eq.refl true) (Eq.refl true) rfl
theorem dX11_shift_14 : decode cX11_shift 14 = .ok (.iconst (-1), 1) := di_2 nX11_shift (Eq.refl true) (Eq.refl true)
theorem dX11_shift_15 : decode cX11_shift 15 = .ok (.ireturn, 1) := di_172 nX11_shift (Eq.refl true) (Eq.refl true)
theorem dX11_shift_16 : decode cX11_shift 16 = .ok (.aload_n 0, 1) := di_42 nX11_shift (Eq.refl true) (Eq.refl true)
theorem dX11_shift_17 : decode cX11_shift 17 = .ok (.getfield 98, 3) := di_180 nX11_shift (Eq.refl true) (Eq.refl true) (Eq.refl true)
theorem dX11_shift_20 : decode cX11_shift 20 = .ok (.iload_n 1, 1) := di_27 nX11_shift (Eq.refl true) (Eq.refl true)
theorem dX11_shift_21 : decode cX11_shift 21 = .ok (.invokevirtual 382, 3) := di_182 nX11_shift (Eq.refl true) (Eq.refl true) (Eq.refl true)
theorem dX11_shift_24 : decode cX11_shift 24 = .ok (.ifCond .ne 14, 3) := di_154 (x := 14) nX11_shift (Eq.refl true) (Eq.refl true) (Eq.refl true) rfl
theorem dX11_shift_38 : decode cX11_shift 38 = .ok (.bipush (-11), 2) := di_16 (x := 245) nX11_shift (Eq.refl true) (Eq.refl true) rfl
theorem dX11_shift_40 : decode cX11_shift 40 = .ok (.ireturn, 1) := di_172 nX11_shift (Eq.refl true) (Eq.refl true)
noncomputable def csX11_taken : List (List Cond) := [[Cond.code yX11_taken cX11_taken 5 (some .int)], wsX11_taken_r1, wsX11_taken_r2, wsX110, wsX70, wsX20]
set_option maxRecDepth 20000 in
theorem ciX11_taken : ∀ l ∈ csX11_taken, ∀ w ∈ l, w ∈ wsX11_taken := by
  unfold csX11_taken
  refine List.forall_mem_cons.mpr ⟨fun _ h => List.mem_cons.mpr (Or.inl (List.mem_singleton.mp h)), List.forall_mem_cons.mpr ⟨fun _ h => List.mem_cons_of_mem _ (List.mem_append_left _ (List.mem_append_left _ (List.mem_append_left _ (List.mem_append_left _ h)))), List.forall_mem_cons.mpr ⟨fun _ h => List.mem_cons_of_mem _ (List.mem_append_left _ (List.mem_append_left _ (List.mem_append_left _ (List.mem_append_right _ h)))), List.forall_mem_cons.mpr ⟨fun _ h => List.mem_cons_of_mem _ (List.mem_append_left _ (List.mem_append_left _ (List.mem_append_right _ h))), List.forall_mem_cons.mpr ⟨fun _ h => List.mem_cons_of_mem _ (List.mem_append_left _ (List.mem_append_right _ h)), List.forall_mem_cons.mpr ⟨fun _ h => List.mem_cons_of_mem _ (List.mem_append_right _ h), fun l h => absurd h List.not_mem_nil⟩⟩⟩⟩⟩⟩
set_option maxRecDepth 20000 in
theorem ggX11_taken_X11_isShelf : GoodIn wsX11_taken wsX11_isShelf := goodIn_sl csX11_taken ciX11_taken _ [(1, 7, 1)] rfl gw_wsX11_isShelf
set_option maxRecDepth 20000 in
theorem gX11_taken_X11_isShelf : GoodIn wsX11_taken (va_wsS RX11 354 yX11_isShelf wsX11_isShelf) := goodIn_app (goodIn_sl csX11_taken ciX11_taken _ [(1, 4, 3)] rfl rfl) ggX11_taken_X11_isShelf
set_option maxRecDepth 20000 in
theorem ggX11_taken_X11_isKind : GoodIn wsX11_taken wsX11_isKind := goodIn_sl csX11_taken ciX11_taken _ [(1, 10, 1)] rfl gw_wsX11_isKind
set_option maxRecDepth 20000 in
theorem gX11_taken_X11_isKind : GoodIn wsX11_taken (va_wsS RX11 138 yX11_isKind wsX11_isKind) := goodIn_app (goodIn_sl csX11_taken ciX11_taken _ [(1, 8, 2), (1, 6, 1)] rfl rfl) ggX11_taken_X11_isKind
set_option maxRecDepth 20000 in
theorem ggX11_taken_X7_isEmpty : GoodIn wsX11_taken wsX7_isEmpty := goodIn_sl csX11_taken ciX11_taken _ [(1, 15, 3), (4, 0, 4)] rfl gw_wsX7_isEmpty
set_option maxRecDepth 20000 in
theorem gX11_taken_X7_isEmpty : GoodIn wsX11_taken (wsV RX11 382 RX7 yX7_isEmpty wsX7_isEmpty) := goodIn_app (goodIn_sl csX11_taken ciX11_taken _ [(1, 11, 4)] rfl rfl) ggX11_taken_X7_isEmpty
noncomputable def NX11_taken : Nat := 202006906286642928888713870657150161433565350399109806802435716097842552041138895247376056988220522653573774008722372887745167651031435745263185249286041065811807226515696629166950407072352156366875
theorem nX11_taken : CN cX11_taken NX11_taken 82 := ⟨by decide +kernel, by decide +kernel⟩
theorem dX11_taken_0 : decode cX11_taken 0 = .ok (.iload_n 1, 1) := di_27 nX11_taken (Eq.refl true) (Eq.refl true)
theorem dX11_taken_1 : decode cX11_taken 1 = .ok (.invokestatic 354, 3) := di_184 nX11_taken (Eq.refl true) (Eq.refl true) (Eq.refl true)
theorem dX11_taken_4 : decode cX11_taken 4 = .ok (.ifCond .eq 10, 3) := di_153 (x := 10) nX11_taken (Eq.refl true) (Eq.refl true) (Eq.refl true) rfl
theorem dX11_taken_7 : decode cX11_taken 7 = .ok (.iload_n 2, 1) := di_28 nX11_taken (Eq.refl true) (Eq.refl true)
theorem dX11_taken_8 : decode cX11_taken 8 = .ok (.invokestatic 138, 3) := di_184 nX11_taken (Eq.refl true) (Eq.refl true) (Eq.refl true)
theorem dX11_taken_11 : decode cX11_taken 11 = .ok (.ifCond .ne 5, 3) := di_154 (x := 5) nX11_taken (Eq.refl true) (Eq.refl true) (Eq.refl true) rfl
theorem dX11_taken_14 : decode cX11_taken 14 = .ok (.iconst (-1), 1) := di_2 nX11_taken (Eq.refl true) (Eq.refl true)
theorem dX11_taken_15 : decode cX11_taken 15 = .ok (.ireturn, 1) := di_172 nX11_taken (Eq.refl true) (Eq.refl true)
theorem dX11_taken_16 : decode cX11_taken 16 = .ok (.aload_n 0, 1) := di_42 nX11_taken (Eq.refl true) (Eq.refl true)
theorem dX11_taken_17 : decode cX11_taken 17 = .ok (.getfield 98, 3) := di_180 nX11_taken (Eq.refl true) (Eq.refl true) (Eq.refl true)
theorem dX11_taken_20 : decode cX11_taken 20 = .ok (.iload_n 1, 1) := di_27 nX11_taken (Eq.refl true) (Eq.refl true)
theorem dX11_taken_21 : decode cX11_taken 21 = .ok (.invokevirtual 382, 3) := di_182 nX11_taken (Eq.refl true) (Eq.refl true) (Eq.refl true)
theorem dX11_taken_24 : decode cX11_taken 24 = .ok (.ifCond .eq 6, 3) := di_153 (x := 6) nX11_taken (Eq.refl true) (Eq.refl true) (Eq.refl true) rfl
theorem dX11_taken_27 : decode cX11_taken 27 = .ok (.bipush (-11), 2) := di_16 (x := 245) nX11_taken (Eq.refl true) (Eq.refl true) rfl
theorem dX11_taken_29 : decode cX11_taken 29 = .ok (.ireturn, 1) := di_172 nX11_taken (Eq.refl true) (Eq.refl true)
noncomputable def csX11_names : List (List Cond) := [[Cond.code yX11_names cX11_names 4 (some .int)], wsX11_names_r1, wsX11_names_r2, wsX110, wsX70, wsX40]
set_option maxRecDepth 20000 in
theorem ciX11_names : ∀ l ∈ csX11_names, ∀ w ∈ l, w ∈ wsX11_names := by
  unfold csX11_names
  refine List.forall_mem_cons.mpr ⟨fun _ h => List.mem_cons.mpr (Or.inl (List.mem_singleton.mp h)), List.forall_mem_cons.mpr ⟨fun _ h => List.mem_cons_of_mem _ (List.mem_append_left _ (List.mem_append_left _ (List.mem_append_left _ (List.mem_append_left _ h)))), List.forall_mem_cons.mpr ⟨fun _ h => List.mem_cons_of_mem _ (List.mem_append_left _ (List.mem_append_left _ (List.mem_append_left _ (List.mem_append_right _ h)))), List.forall_mem_cons.mpr ⟨fun _ h => List.mem_cons_of_mem _ (List.mem_append_left _ (List.mem_append_left _ (List.mem_append_right _ h))), List.forall_mem_cons.mpr ⟨fun _ h => List.mem_cons_of_mem _ (List.mem_append_left _ (List.mem_append_right _ h)), List.forall_mem_cons.mpr ⟨fun _ h => List.mem_cons_of_mem _ (List.mem_append_right _ h), fun l h => absurd h List.not_mem_nil⟩⟩⟩⟩⟩⟩
set_option maxRecDepth 20000 in
theorem ggX11_names_X11_isShelf : GoodIn wsX11_names wsX11_isShelf := goodIn_sl csX11_names ciX11_names _ [(1, 8, 1)] rfl gw_wsX11_isShelf
set_option maxRecDepth 20000 in
theorem gX11_names_X11_isShelf : GoodIn wsX11_names (va_wsS RX11 354 yX11_isShelf wsX11_isShelf) := goodIn_app (goodIn_sl csX11_names ciX11_names _ [(1, 5, 3)] rfl rfl) ggX11_names_X11_isShelf
set_option maxRecDepth 20000 in
theorem ggX11_names_X7_isEmpty : GoodIn wsX11_names wsX7_isEmpty := goodIn_sl csX11_names ciX11_names _ [(1, 13, 3), (4, 0, 4)] rfl gw_wsX7_isEmpty
set_option maxRecDepth 20000 in
theorem gX11_names_X7_isEmpty : GoodIn wsX11_names (wsV RX11 382 RX7 yX7_isEmpty wsX7_isEmpty) := goodIn_app (goodIn_sl csX11_names ciX11_names _ [(1, 9, 4)] rfl rfl) ggX11_names_X7_isEmpty
noncomputable def NX11_names : Nat := 221642131521764611943616219014759345557995169247439924737628712280912552778800113090309585131044573090877408842869263158740860195035760081251831078045782136540051160242403043782552943291339867713338770454591515
theorem nX11_names : CN cX11_names NX11_names 87 := ⟨by decide +kernel, by decide +kernel⟩
theorem dX11_names_0 : decode cX11_names 0 = .ok (.iload_n 1, 1) := di_27 nX11_names (Eq.refl true) (Eq.refl true)
theorem dX11_names_1 : decode cX11_names 1 = .ok (.invokestatic 354, 3) := di_184 nX11_names (Eq.refl true) (Eq.refl true) (Eq.refl true)
theorem dX11_names_4 : decode cX11_names 4 = .ok (.ifCond .eq 14, 3) := di_153 (x := 14) nX11_names (Eq.refl true) (Eq.refl true) (Eq.refl true) rfl
theorem dX11_names_7 : decode cX11_names 7 = .ok (.iload_n 3, 1) := di_29 nX11_names (Eq.refl true) (Eq.refl true)
theorem dX11_names_8 : decode cX11_names 8 = .ok (.iconst 1, 1) := di_4 nX11_names (Eq.refl true) (Eq.refl true)
theorem dX11_names_9 : decode cX11_names 9 = .ok (.if_icmp .lt 9, 3) := di_161 (x := 9) nX11_names (Eq.refl true) (Eq.refl true) (Eq.refl true) rfl
theorem dX11_names_12 : decode cX11_names 12 = .ok (.iload_n 3, 1) := di_29 nX11_names (Eq.refl true) (Eq.refl true)
theorem dX11_names_13 : decode cX11_names 13 = .ok (.bipush 20, 2) := di_16 (x := 20) nX11_names (Eq.refl true) (Eq.refl true) rfl
theorem dX11_names_15 : decode cX11_names 15 = .ok (.if_icmp .le 5, 3) := di_164 (x := 5) nX11_names (Eq.refl true) (Eq.refl true) (Eq.refl true) rfl
theorem dX11_names_18 : decode cX11_names 18 = .ok (.iconst (-1), 1) := di_2 nX11_names (Eq.refl true) (Eq.refl true)
theorem dX11_names_19 : decode cX11_names 19 = .ok (.ireturn, 1) := di_172 nX11_names (Eq.refl true) (Eq.refl true)
theorem dX11_names_20 : decode cX11_names 20 = .ok (.aload_n 0, 1) := di_42 nX11_names (Eq.refl true) (Eq.refl true)
theorem dX11_names_21 : decode cX11_names 21 = .ok (.getfield 98, 3) := di_180 nX11_names (Eq.refl true) (Eq.refl true) (Eq.refl true)
theorem dX11_names_24 : decode cX11_names 24 = .ok (.iload_n 1, 1) := di_27 nX11_names (Eq.refl true) (Eq.refl true)
theorem dX11_names_25 : decode cX11_names 25 = .ok (.invokevirtual 382, 3) := di_182 nX11_names (Eq.refl true) (Eq.refl true) (Eq.refl true)
theorem dX11_names_28 : decode cX11_names 28 = .ok (.ifCond .eq 5, 3) := di_153 (x := 5) nX11_names (Eq.refl true) (Eq.refl true) (Eq.refl true) rfl
theorem dX11_names_31 : decode cX11_names 31 = .ok (.iconst 0, 1) := di_3 nX11_names (Eq.refl true) (Eq.refl true)
theorem dX11_names_32 : decode cX11_names 32 = .ok (.ireturn, 1) := di_172 nX11_names (Eq.refl true) (Eq.refl true)
noncomputable def csX11_count : List (List Cond) := [[Cond.code yX11_count cX11_count 2 (some .int)], wsX11_count_r1, wsX11_count_r2, wsX110, wsX40, wsX20, wsX90, wsX60, wsX00]
set_option maxRecDepth 20000 in
theorem ciX11_count : ∀ l ∈ csX11_count, ∀ w ∈ l, w ∈ wsX11_count := by
  unfold csX11_count
  refine List.forall_mem_cons.mpr ⟨fun _ h => List.mem_cons.mpr (Or.inl (List.mem_singleton.mp h)), List.forall_mem_cons.mpr ⟨fun _ h => List.mem_cons_of_mem _ (List.mem_append_left _ (List.mem_append_left _ (List.mem_append_left _ (List.mem_append_left _ (List.mem_append_left _ (List.mem_append_left _ (List.mem_append_left _ h))))))), List.forall_mem_cons.mpr ⟨fun _ h => List.mem_cons_of_mem _ (List.mem_append_left _ (List.mem_append_left _ (List.mem_append_left _ (List.mem_append_left _ (List.mem_append_left _ (List.mem_append_left _ (List.mem_append_right _ h))))))), List.forall_mem_cons.mpr ⟨fun _ h => List.mem_cons_of_mem _ (List.mem_append_left _ (List.mem_append_left _ (List.mem_append_left _ (List.mem_append_left _ (List.mem_append_left _ (List.mem_append_right _ h)))))), List.forall_mem_cons.mpr ⟨fun _ h => List.mem_cons_of_mem _ (List.mem_append_left _ (List.mem_append_left _ (List.mem_append_left _ (List.mem_append_left _ (List.mem_append_right _ h))))), List.forall_mem_cons.mpr ⟨fun _ h => List.mem_cons_of_mem _ (List.mem_append_left _ (List.mem_append_left _ (List.mem_append_left _ (List.mem_append_right _ h)))), List.forall_mem_cons.mpr ⟨fun _ h => List.mem_cons_of_mem _ (List.mem_append_left _ (List.mem_append_left _ (List.mem_append_right _ h))), List.forall_mem_cons.mpr ⟨fun _ h => List.mem_cons_of_mem _ (List.mem_append_left _ (List.mem_append_right _ h)), List.forall_mem_cons.mpr ⟨fun _ h => List.mem_cons_of_mem _ (List.mem_append_right _ h), fun l h => absurd h List.not_mem_nil⟩⟩⟩⟩⟩⟩⟩⟩⟩
set_option maxRecDepth 20000 in
theorem ggX11_count_X6_allCopies : GoodIn wsX11_count wsX6_allCopies := goodIn_sl csX11_count ciX11_count _ [(1, 15, 6), (1, 14, 1), (1, 21, 3), (2, 0, 2), (7, 0, 12), (5, 0, 6)] rfl gw_wsX6_allCopies
set_option maxRecDepth 20000 in
theorem gX11_count_X6_allCopies : GoodIn wsX11_count (wsV RX11 411 RX6 yX6_allCopies wsX6_allCopies) := goodIn_app (goodIn_sl csX11_count ciX11_count _ [(1, 11, 4)] rfl rfl) ggX11_count_X6_allCopies
set_option maxRecDepth 20000 in
theorem ggX11_count_X6_allKept : GoodIn wsX11_count wsX6_allKept := goodIn_sl csX11_count ciX11_count _ [(2, 5, 1), (1, 16, 2), (2, 6, 3), (1, 14, 1), (2, 9, 2), (1, 23, 1), (2, 0, 2), (7, 0, 12), (5, 0, 6)] rfl gw_wsX6_allKept
set_option maxRecDepth 20000 in
theorem gX11_count_X6_allKept : GoodIn wsX11_count (wsV RX11 414 RX6 yX6_allKept wsX6_allKept) := goodIn_app (goodIn_sl csX11_count ciX11_count _ [(2, 2, 3), (1, 14, 1)] rfl rfl) ggX11_count_X6_allKept
noncomputable def NX11_count : Nat := 1386599364361138756242306586818862462562557254058288326920886320192285165354889013548643785928168190454934593549463573873792304284499756131575123640992179916039433084478642840098327664601632630209967954151255154274045759830378775303040498747312752324560354403743214107
theorem nX11_count : CN cX11_count NX11_count 111 := ⟨by decide +kernel, by decide +kernel⟩
theorem dX11_count_0 : decode cX11_count 0 = .ok (.iload_n 1, 1) := di_27 nX11_count (Eq.refl true) (Eq.refl true)
theorem dX11_count_1 : decode cX11_count 1 = .ok (.tableswitch 108 0 7 #[47, 55, 63, 68, 76, 84, 92, 100], 47) := by decide +kernel
theorem dX11_count_48 : decode cX11_count 48 = .ok (.aload_n 0, 1) := di_42 nX11_count (Eq.refl true) (Eq.refl true)
theorem dX11_count_49 : decode cX11_count 49 = .ok (.getfield 19, 3) := di_180 nX11_count (Eq.refl true) (Eq.refl true) (Eq.refl true)
theorem dX11_count_52 : decode cX11_count 52 = .ok (.getfield 117, 3) := di_180 nX11_count (Eq.refl true) (Eq.refl true) (Eq.refl true)
theorem dX11_count_55 : decode cX11_count 55 = .ok (.ireturn, 1) := di_172 nX11_count (Eq.refl true) (Eq.refl true)
theorem dX11_count_56 : decode cX11_count 56 = .ok (.aload_n 0, 1) := di_42 nX11_count (Eq.refl true) (Eq.refl true)
theorem dX11_count_57 : decode cX11_count 57 = .ok (.getfield 26, 3) := di_180 nX11_count (Eq.refl true) (Eq.refl true) (Eq.refl true)
theorem dX11_count_60 : decode cX11_count 60 = .ok (.getfield 134, 3) := di_180 nX11_count (Eq.refl true) (Eq.refl true) (Eq.refl true)
theorem dX11_count_63 : decode cX11_count 63 = .ok (.ireturn, 1) := di_172 nX11_count (Eq.refl true) (Eq.refl true)
theorem dX11_count_64 : decode cX11_count 64 = .ok (.aload_n 0, 1) := di_42 nX11_count (Eq.refl true) (Eq.refl true)
theorem dX11_count_65 : decode cX11_count 65 = .ok (.getfield 52, 3) := di_180 nX11_count (Eq.refl true) (Eq.refl true) (Eq.refl true)
theorem dX11_count_68 : decode cX11_count 68 = .ok (.ireturn, 1) := di_172 nX11_count (Eq.refl true) (Eq.refl true)
theorem dX11_count_69 : decode cX11_count 69 = .ok (.aload_n 0, 1) := di_42 nX11_count (Eq.refl true) (Eq.refl true)
theorem dX11_count_70 : decode cX11_count 70 = .ok (.getfield 10, 3) := di_180 nX11_count (Eq.refl true) (Eq.refl true) (Eq.refl true)
theorem dX11_count_73 : decode cX11_count 73 = .ok (.getfield 102, 3) := di_180 nX11_count (Eq.refl true) (Eq.refl true) (Eq.refl true)
theorem dX11_count_76 : decode cX11_count 76 = .ok (.ireturn, 1) := di_172 nX11_count (Eq.refl true) (Eq.refl true)
theorem dX11_count_77 : decode cX11_count 77 = .ok (.aload_n 0, 1) := di_42 nX11_count (Eq.refl true) (Eq.refl true)
theorem dX11_count_78 : decode cX11_count 78 = .ok (.getfield 66, 3) := di_180 nX11_count (Eq.refl true) (Eq.refl true) (Eq.refl true)
theorem dX11_count_81 : decode cX11_count 81 = .ok (.invokevirtual 411, 3) := di_182 nX11_count (Eq.refl true) (Eq.refl true) (Eq.refl true)
theorem dX11_count_84 : decode cX11_count 84 = .ok (.ireturn, 1) := di_172 nX11_count (Eq.refl true) (Eq.refl true)
theorem dX11_count_85 : decode cX11_count 85 = .ok (.aload_n 0, 1) := di_42 nX11_count (Eq.refl true) (Eq.refl true)
theorem dX11_count_86 : decode cX11_count 86 = .ok (.getfield 66, 3) := di_180 nX11_count (Eq.refl true) (Eq.refl true) (Eq.refl true)
theorem dX11_count_89 : decode cX11_count 89 = .ok (.invokevirtual 414, 3) := di_182 nX11_count (Eq.refl true) (Eq.refl true) (Eq.refl true)
theorem dX11_count_92 : decode cX11_count 92 = .ok (.ireturn, 1) := di_172 nX11_count (Eq.refl true) (Eq.refl true)
theorem dX11_count_93 : decode cX11_count 93 = .ok (.aload_n 0, 1) := di_42 nX11_count (Eq.refl true) (Eq.refl true)
theorem dX11_count_94 : decode cX11_count 94 = .ok (.getfield 66, 3) := di_180 nX11_count (Eq.refl true) (Eq.refl true) (Eq.refl true)
theorem dX11_count_97 : decode cX11_count 97 = .ok (.getfield 417, 3) := di_180 nX11_count (Eq.refl true) (Eq.refl true) (Eq.refl true)
theorem dX11_count_100 : decode cX11_count 100 = .ok (.ireturn, 1) := di_172 nX11_count (Eq.refl true) (Eq.refl true)
theorem dX11_count_101 : decode cX11_count 101 = .ok (.aload_n 0, 1) := di_42 nX11_count (Eq.refl true) (Eq.refl true)
theorem dX11_count_102 : decode cX11_count 102 = .ok (.getfield 91, 3) := di_180 nX11_count (Eq.refl true) (Eq.refl true) (Eq.refl true)
theorem dX11_count_105 : decode cX11_count 105 = .ok (.getfield 344, 3) := di_180 nX11_count (Eq.refl true) (Eq.refl true) (Eq.refl true)
theorem dX11_count_108 : decode cX11_count 108 = .ok (.ireturn, 1) := di_172 nX11_count (Eq.refl true) (Eq.refl true)
theorem dX11_count_109 : decode cX11_count 109 = .ok (.iconst (-1), 1) := di_2 nX11_count (Eq.refl true) (Eq.refl true)
theorem dX11_count_110 : decode cX11_count 110 = .ok (.ireturn, 1) := di_172 nX11_count (Eq.refl true) (Eq.refl true)
noncomputable def NX11_isShelf : Nat := 228642873346908414640705603515543755546
theorem nX11_isShelf : CN cX11_isShelf NX11_isShelf 16 := ⟨by decide +kernel, by decide +kernel⟩
theorem dX11_isShelf_0 : decode cX11_isShelf 0 = .ok (.iload_n 0, 1) := di_26 nX11_isShelf (Eq.refl true) (Eq.refl true)
theorem dX11_isShelf_1 : decode cX11_isShelf 1 = .ok (.ifCond .lt 13, 3) := di_155 (x := 13) nX11_isShelf (Eq.refl true) (Eq.refl true) (Eq.refl true) rfl
theorem dX11_isShelf_4 : decode cX11_isShelf 4 = .ok (.iload_n 0, 1) := di_26 nX11_isShelf (Eq.refl true) (Eq.refl true)
theorem dX11_isShelf_5 : decode cX11_isShelf 5 = .ok (.bipush 6, 2) := di_16 (x := 6) nX11_isShelf (Eq.refl true) (Eq.refl true) rfl
theorem dX11_isShelf_7 : decode cX11_isShelf 7 = .ok (.if_icmp .ge 7, 3) := di_162 (x := 7) nX11_isShelf (Eq.refl true) (Eq.refl true) (Eq.refl true) rfl
theorem dX11_isShelf_10 : decode cX11_isShelf 10 = .ok (.iconst 1, 1) := di_4 nX11_isShelf (Eq.refl true) (Eq.refl true)
theorem dX11_isShelf_11 : decode cX11_isShelf 11 = .ok (.goto 4, 3) := di_167 (x := 4) nX11_isShelf (Eq.refl true) (Eq.refl true) (Eq.refl true) rfl
theorem dX11_isShelf_14 : decode cX11_isShelf 14 = .ok (.iconst 0, 1) := di_3 nX11_isShelf (Eq.refl true) (Eq.refl true)
theorem dX11_isShelf_15 : decode cX11_isShelf 15 = .ok (.ireturn, 1) := di_172 nX11_isShelf (Eq.refl true) (Eq.refl true)
noncomputable def NX12_init : Nat := 3901235692935960144981379981888793832949112771462933302024071197524405321306900091468812486133686187029333200719242757239876695342252008578935197165275119939057506461299415138520607660150941731473183482477988130565413239459670947113948342857547565985222654356026914142858068110283987986590178848380564607103199976699555149999312710447426567544743075457515962831142539387750698805637134899311596888105889036171094330604384979021428650985084920456145267790340380791134919053853956528836189627779221111909620751353238588165268733320081584527145576751608846923892476618354058360402362105995209760442951991855482428485027240423527879077378147550001738785623639806088128133896760367549983166880758396640870490304686311837656402329169352371591112100093192542126298593785892602536635522634276095367114412229445992634187492861995773956494056979438808157133071580567590972871665043537148125297993478332435573566638501319813318838862975367042983563581438163274909030622671336502077166847458914839209962245624689545540432971121185173854658701605587793709365423461563261215463338697118722686815061403567699754
theorem nX12_init : CN cX12_init NX12_init 455 := ⟨by decide +kernel, by decide +kernel⟩
theorem dX12_init_0 : decode cX12_init 0 = .ok (.aload_n 0, 1) := di_42 nX12_init (Eq.refl true) (Eq.refl true)
theorem dX12_init_1 : decode cX12_init 1 = .ok (.invokespecial 1, 3) := di_183 nX12_init (Eq.refl true) (Eq.refl true) (Eq.refl true)
theorem dX12_init_4 : decode cX12_init 4 = .ok (.aload_n 0, 1) := di_42 nX12_init (Eq.refl true) (Eq.refl true)
theorem dX12_init_5 : decode cX12_init 5 = .ok (.bipush 40, 2) := di_16 (x := 40) nX12_init (Eq.refl true) (Eq.refl true) rfl
theorem dX12_init_7 : decode cX12_init 7 = .ok (.newarray .int, 2) := by decide +kernel
theorem dX12_init_9 : decode cX12_init 9 = .ok (.putfield 7, 3) := di_181 nX12_init (Eq.refl true) (Eq.refl true) (Eq.refl true)
theorem dX12_init_12 : decode cX12_init 12 = .ok (.aload_n 0, 1) := di_42 nX12_init (Eq.refl true) (Eq.refl true)
theorem dX12_init_13 : decode cX12_init 13 = .ok (.sipush 240, 3) := di_17 (x := 240) nX12_init (Eq.refl true) (Eq.refl true) (Eq.refl true) rfl
theorem dX12_init_16 : decode cX12_init 16 = .ok (.newarray .int, 2) := by decide +kernel
theorem dX12_init_18 : decode cX12_init 18 = .ok (.putfield 13, 3) := di_181 nX12_init (Eq.refl true) (Eq.refl true) (Eq.refl true)
theorem dX12_init_21 : decode cX12_init 21 = .ok (.aload_n 0, 1) := di_42 nX12_init (Eq.refl true) (Eq.refl true)
theorem dX12_init_22 : decode cX12_init 22 = .ok (.bipush 12, 2) := di_16 (x := 12) nX12_init (Eq.refl true) (Eq.refl true) rfl
theorem dX12_init_24 : decode cX12_init 24 = .ok (.newarray .int, 2) := by decide +kernel
theorem dX12_init_26 : decode cX12_init 26 = .ok (.putfield 16, 3) := di_181 nX12_init (Eq.refl true) (Eq.refl true) (Eq.refl true)
theorem dX12_init_29 : decode cX12_init 29 = .ok (.aload_n 0, 1) := di_42 nX12_init (Eq.refl true) (Eq.refl true)
theorem dX12_init_30 : decode cX12_init 30 = .ok (.bipush 12, 2) := di_16 (x := 12) nX12_init (Eq.refl true) (Eq.refl true) rfl
theorem dX12_init_32 : decode cX12_init 32 = .ok (.newarray .int, 2) := by decide +kernel
theorem dX12_init_34 : decode cX12_init 34 = .ok (.putfield 19, 3) := di_181 nX12_init (Eq.refl true) (Eq.refl true) (Eq.refl true)
theorem dX12_init_37 : decode cX12_init 37 = .ok (.aload_n 0, 1) := di_42 nX12_init (Eq.refl true) (Eq.refl true)
theorem dX12_init_38 : decode cX12_init 38 = .ok (.bipush 12, 2) := di_16 (x := 12) nX12_init (Eq.refl true) (Eq.refl true) rfl
theorem dX12_init_40 : decode cX12_init 40 = .ok (.newarray .int, 2) := by decide +kernel
theorem dX12_init_42 : decode cX12_init 42 = .ok (.putfield 22, 3) := di_181 nX12_init (Eq.refl true) (Eq.refl true) (Eq.refl true)
theorem dX12_init_45 : decode cX12_init 45 = .ok (.aload_n 0, 1) := di_42 nX12_init (Eq.refl true) (Eq.refl true)
theorem dX12_init_46 : decode cX12_init 46 = .ok (.bipush 12, 2) := di_16 (x := 12) nX12_init (Eq.refl true) (Eq.refl true) rfl
theorem dX12_init_48 : decode cX12_init 48 = .ok (.newarray .int, 2) := by decide +kernel
theorem dX12_init_50 : decode cX12_init 50 = .ok (.dup, 1) := di_89 nX12_init (Eq.refl true) (Eq.refl true)
theorem dX12_init_51 : decode cX12_init 51 = .ok (.iconst 0, 1) := di_3 nX12_init (Eq.refl true) (Eq.refl true)
theorem dX12_init_52 : decode cX12_init 52 = .ok (.iconst (-1), 1) := di_2 nX12_init (Eq.refl true) (Eq.refl true)
theorem dX12_init_53 : decode cX12_init 53 = .ok (.iastore, 1) := di_79 nX12_init (Eq.refl true) (Eq.refl true)
theorem dX12_init_54 : decode cX12_init 54 = .ok (.dup, 1) := di_89 nX12_init (Eq.refl true) (Eq.refl true)
theorem dX12_init_55 : decode cX12_init 55 = .ok (.iconst 1, 1) := di_4 nX12_init (Eq.refl true) (Eq.refl true)
theorem dX12_init_56 : decode cX12_init 56 = .ok (.iconst (-1), 1) := di_2 nX12_init (Eq.refl true) (Eq.refl true)
theorem dX12_init_57 : decode cX12_init 57 = .ok (.iastore, 1) := di_79 nX12_init (Eq.refl true) (Eq.refl true)
theorem dX12_init_58 : decode cX12_init 58 = .ok (.dup, 1) := di_89 nX12_init (Eq.refl true) (Eq.refl true)
theorem dX12_init_59 : decode cX12_init 59 = .ok (.iconst 2, 1) := di_5 nX12_init (Eq.refl true) (Eq.refl true)
theorem dX12_init_60 : decode cX12_init 60 = .ok (.iconst (-1), 1) := di_2 nX12_init (Eq.refl true) (Eq.refl true)
theorem dX12_init_61 : decode cX12_init 61 = .ok (.iastore, 1) := di_79 nX12_init (Eq.refl true) (Eq.refl true)
theorem dX12_init_62 : decode cX12_init 62 = .ok (.dup, 1) := di_89 nX12_init (Eq.refl true) (Eq.refl true)
theorem dX12_init_63 : decode cX12_init 63 = .ok (.iconst 3, 1) := di_6 nX12_init (Eq.refl true) (Eq.refl true)
theorem dX12_init_64 : decode cX12_init 64 = .ok (.iconst (-1), 1) := di_2 nX12_init (Eq.refl true) (Eq.refl true)
theorem dX12_init_65 : decode cX12_init 65 = .ok (.iastore, 1) := di_79 nX12_init (Eq.refl true) (Eq.refl true)
theorem dX12_init_66 : decode cX12_init 66 = .ok (.dup, 1) := di_89 nX12_init (Eq.refl true) (Eq.refl true)
theorem dX12_init_67 : decode cX12_init 67 = .ok (.iconst 4, 1) := di_7 nX12_init (Eq.refl true) (Eq.refl true)
theorem dX12_init_68 : decode cX12_init 68 = .ok (.iconst (-1), 1) := di_2 nX12_init (Eq.refl true) (Eq.refl true)
theorem dX12_init_69 : decode cX12_init 69 = .ok (.iastore, 1) := di_79 nX12_init (Eq.refl true) (Eq.refl true)
theorem dX12_init_70 : decode cX12_init 70 = .ok (.dup, 1) := di_89 nX12_init (Eq.refl true) (Eq.refl true)
theorem dX12_init_71 : decode cX12_init 71 = .ok (.iconst 5, 1) := di_8 nX12_init (Eq.refl true) (Eq.refl true)
theorem dX12_init_72 : decode cX12_init 72 = .ok (.iconst (-1), 1) := di_2 nX12_init (Eq.refl true) (Eq.refl true)
theorem dX12_init_73 : decode cX12_init 73 = .ok (.iastore, 1) := di_79 nX12_init (Eq.refl true) (Eq.refl true)
theorem dX12_init_74 : decode cX12_init 74 = .ok (.dup, 1) := di_89 nX12_init (Eq.refl true) (Eq.refl true)
theorem dX12_init_75 : decode cX12_init 75 = .ok (.bipush 6, 2) := di_16 (x := 6) nX12_init (Eq.refl true) (Eq.refl true) rfl
theorem dX12_init_77 : decode cX12_init 77 = .ok (.iconst (-1), 1) := di_2 nX12_init (Eq.refl true) (Eq.refl true)
theorem dX12_init_78 : decode cX12_init 78 = .ok (.iastore, 1) := di_79 nX12_init (Eq.refl true) (Eq.refl true)
theorem dX12_init_79 : decode cX12_init 79 = .ok (.dup, 1) := di_89 nX12_init (Eq.refl true) (Eq.refl true)
theorem dX12_init_80 : decode cX12_init 80 = .ok (.bipush 7, 2) := di_16 (x := 7) nX12_init (Eq.refl true) (Eq.refl true) rfl
theorem dX12_init_82 : decode cX12_init 82 = .ok (.iconst (-1), 1) := di_2 nX12_init (Eq.refl true) (Eq.refl true)
theorem dX12_init_83 : decode cX12_init 83 = .ok (.iastore, 1) := di_79 nX12_init (Eq.refl true) (Eq.refl true)
theorem dX12_init_84 : decode cX12_init 84 = .ok (.dup, 1) := di_89 nX12_init (Eq.refl true) (Eq.refl true)
theorem dX12_init_85 : decode cX12_init 85 = .ok (.bipush 8, 2) := di_16 (x := 8) nX12_init (Eq.refl true) (Eq.refl true) rfl
theorem dX12_init_87 : decode cX12_init 87 = .ok (.iconst (-1), 1) := di_2 nX12_init (Eq.refl true) (Eq.refl true)
theorem dX12_init_88 : decode cX12_init 88 = .ok (.iastore, 1) := di_79 nX12_init (Eq.refl true) (Eq.refl true)
theorem dX12_init_89 : decode cX12_init 89 = .ok (.dup, 1) := di_89 nX12_init (Eq.refl true) (Eq.refl true)
theorem dX12_init_90 : decode cX12_init 90 = .ok (.bipush 9, 2) := di_16 (x := 9) nX12_init (Eq.refl true) (Eq.refl true) rfl
theorem dX12_init_92 : decode cX12_init 92 = .ok (.iconst (-1), 1) := di_2 nX12_init (Eq.refl true) (Eq.refl true)
theorem dX12_init_93 : decode cX12_init 93 = .ok (.iastore, 1) := di_79 nX12_init (Eq.refl true) (Eq.refl true)
theorem dX12_init_94 : decode cX12_init 94 = .ok (.dup, 1) := di_89 nX12_init (Eq.refl true) (Eq.refl true)
theorem dX12_init_95 : decode cX12_init 95 = .ok (.bipush 10, 2) := di_16 (x := 10) nX12_init (Eq.refl true) (Eq.refl true) rfl
theorem dX12_init_97 : decode cX12_init 97 = .ok (.iconst (-1), 1) := di_2 nX12_init (Eq.refl true) (Eq.refl true)
theorem dX12_init_98 : decode cX12_init 98 = .ok (.iastore, 1) := di_79 nX12_init (Eq.refl true) (Eq.refl true)
theorem dX12_init_99 : decode cX12_init 99 = .ok (.dup, 1) := di_89 nX12_init (Eq.refl true) (Eq.refl true)
theorem dX12_init_100 : decode cX12_init 100 = .ok (.bipush 11, 2) := di_16 (x := 11) nX12_init (Eq.refl true) (Eq.refl true) rfl
theorem dX12_init_102 : decode cX12_init 102 = .ok (.iconst (-1), 1) := di_2 nX12_init (Eq.refl true) (Eq.refl true)
theorem dX12_init_103 : decode cX12_init 103 = .ok (.iastore, 1) := di_79 nX12_init (Eq.refl true) (Eq.refl true)
theorem dX12_init_104 : decode cX12_init 104 = .ok (.putfield 25, 3) := di_181 nX12_init (Eq.refl true) (Eq.refl true) (Eq.refl true)
theorem dX12_init_107 : decode cX12_init 107 = .ok (.aload_n 0, 1) := di_42 nX12_init (Eq.refl true) (Eq.refl true)
theorem dX12_init_108 : decode cX12_init 108 = .ok (.bipush 12, 2) := di_16 (x := 12) nX12_init (Eq.refl true) (Eq.refl true) rfl
theorem dX12_init_110 : decode cX12_init 110 = .ok (.newarray .boolean, 2) := by decide +kernel
theorem dX12_init_112 : decode cX12_init 112 = .ok (.putfield 28, 3) := di_181 nX12_init (Eq.refl true) (Eq.refl true) (Eq.refl true)
theorem dX12_init_115 : decode cX12_init 115 = .ok (.aload_n 0, 1) := di_42 nX12_init (Eq.refl true) (Eq.refl true)
theorem dX12_init_116 : decode cX12_init 116 = .ok (.bipush 11, 2) := di_16 (x := 11) nX12_init (Eq.refl true) (Eq.refl true) rfl
theorem dX12_init_118 : decode cX12_init 118 = .ok (.newarray .int, 2) := by decide +kernel
theorem dX12_init_120 : decode cX12_init 120 = .ok (.putfield 32, 3) := di_181 nX12_init (Eq.refl true) (Eq.refl true) (Eq.refl true)
theorem dX12_init_123 : decode cX12_init 123 = .ok (.aload_n 0, 1) := di_42 nX12_init (Eq.refl true) (Eq.refl true)
theorem dX12_init_124 : decode cX12_init 124 = .ok (.bipush 11, 2) := di_16 (x := 11) nX12_init (Eq.refl true) (Eq.refl true) rfl
theorem dX12_init_126 : decode cX12_init 126 = .ok (.newarray .int, 2) := by decide +kernel
theorem dX12_init_128 : decode cX12_init 128 = .ok (.putfield 35, 3) := di_181 nX12_init (Eq.refl true) (Eq.refl true) (Eq.refl true)
theorem dX12_init_131 : decode cX12_init 131 = .ok (.aload_n 0, 1) := di_42 nX12_init (Eq.refl true) (Eq.refl true)
theorem dX12_init_132 : decode cX12_init 132 = .ok (.bipush 11, 2) := di_16 (x := 11) nX12_init (Eq.refl true) (Eq.refl true) rfl
theorem dX12_init_134 : decode cX12_init 134 = .ok (.newarray .int, 2) := by decide +kernel
theorem dX12_init_136 : decode cX12_init 136 = .ok (.putfield 38, 3) := di_181 nX12_init (Eq.refl true) (Eq.refl true) (Eq.refl true)
theorem dX12_init_139 : decode cX12_init 139 = .ok (.aload_n 0, 1) := di_42 nX12_init (Eq.refl true) (Eq.refl true)
theorem dX12_init_140 : decode cX12_init 140 = .ok (.bipush 11, 2) := di_16 (x := 11) nX12_init (Eq.refl true) (Eq.refl true) rfl
theorem dX12_init_142 : decode cX12_init 142 = .ok (.newarray .int, 2) := by decide +kernel
theorem dX12_init_144 : decode cX12_init 144 = .ok (.putfield 41, 3) := di_181 nX12_init (Eq.refl true) (Eq.refl true) (Eq.refl true)
theorem dX12_init_147 : decode cX12_init 147 = .ok (.aload_n 0, 1) := di_42 nX12_init (Eq.refl true) (Eq.refl true)
theorem dX12_init_148 : decode cX12_init 148 = .ok (.bipush 11, 2) := di_16 (x := 11) nX12_init (Eq.refl true) (Eq.refl true) rfl
theorem dX12_init_150 : decode cX12_init 150 = .ok (.newarray .int, 2) := by decide +kernel
theorem dX12_init_152 : decode cX12_init 152 = .ok (.putfield 44, 3) := di_181 nX12_init (Eq.refl true) (Eq.refl true) (Eq.refl true)
theorem dX12_init_155 : decode cX12_init 155 = .ok (.aload_n 0, 1) := di_42 nX12_init (Eq.refl true) (Eq.refl true)
theorem dX12_init_156 : decode cX12_init 156 = .ok (.bipush 11, 2) := di_16 (x := 11) nX12_init (Eq.refl true) (Eq.refl true) rfl
theorem dX12_init_158 : decode cX12_init 158 = .ok (.newarray .int, 2) := by decide +kernel
theorem dX12_init_160 : decode cX12_init 160 = .ok (.putfield 47, 3) := di_181 nX12_init (Eq.refl true) (Eq.refl true) (Eq.refl true)
theorem dX12_init_163 : decode cX12_init 163 = .ok (.aload_n 0, 1) := di_42 nX12_init (Eq.refl true) (Eq.refl true)
theorem dX12_init_164 : decode cX12_init 164 = .ok (.sipush 880, 3) := di_17 (x := 880) nX12_init (Eq.refl true) (Eq.refl true) (Eq.refl true) rfl
theorem dX12_init_167 : decode cX12_init 167 = .ok (.newarray .int, 2) := by decide +kernel
theorem dX12_init_169 : decode cX12_init 169 = .ok (.putfield 50, 3) := di_181 nX12_init (Eq.refl true) (Eq.refl true) (Eq.refl true)
theorem dX12_init_172 : decode cX12_init 172 = .ok (.aload_n 0, 1) := di_42 nX12_init (Eq.refl true) (Eq.refl true)
theorem dX12_init_173 : decode cX12_init 173 = .ok (.sipush 132, 3) := di_17 (x := 132) nX12_init (Eq.refl true) (Eq.refl true) (Eq.refl true) rfl
theorem dX12_init_176 : decode cX12_init 176 = .ok (.newarray .int, 2) := by decide +kernel
theorem dX12_init_178 : decode cX12_init 178 = .ok (.putfield 53, 3) := di_181 nX12_init (Eq.refl true) (Eq.refl true) (Eq.refl true)
theorem dX12_init_181 : decode cX12_init 181 = .ok (.aload_n 0, 1) := di_42 nX12_init (Eq.refl true) (Eq.refl true)
theorem dX12_init_182 : decode cX12_init 182 = .ok (.sipush 132, 3) := di_17 (x := 132) nX12_init (Eq.refl true) (Eq.refl true) (Eq.refl true) rfl
theorem dX12_init_185 : decode cX12_init 185 = .ok (.newarray .int, 2) := by decide +kernel
theorem dX12_init_187 : decode cX12_init 187 = .ok (.putfield 56, 3) := di_181 nX12_init (Eq.refl true) (Eq.refl true) (Eq.refl true)
theorem dX12_init_190 : decode cX12_init 190 = .ok (.aload_n 0, 1) := di_42 nX12_init (Eq.refl true) (Eq.refl true)
theorem dX12_init_191 : decode cX12_init 191 = .ok (.bipush 11, 2) := di_16 (x := 11) nX12_init (Eq.refl true) (Eq.refl true) rfl
theorem dX12_init_193 : decode cX12_init 193 = .ok (.newarray .int, 2) := by decide +kernel
theorem dX12_init_195 : decode cX12_init 195 = .ok (.putfield 59, 3) := di_181 nX12_init (Eq.refl true) (Eq.refl true) (Eq.refl true)
theorem dX12_init_198 : decode cX12_init 198 = .ok (.aload_n 0, 1) := di_42 nX12_init (Eq.refl true) (Eq.refl true)
theorem dX12_init_199 : decode cX12_init 199 = .ok (.sipush 11000, 3) := di_17 (x := 11000) nX12_init (Eq.refl true) (Eq.refl true) (Eq.refl true) rfl
theorem dX12_init_202 : decode cX12_init 202 = .ok (.newarray .int, 2) := by decide +kernel
theorem dX12_init_204 : decode cX12_init 204 = .ok (.putfield 62, 3) := di_181 nX12_init (Eq.refl true) (Eq.refl true) (Eq.refl true)
theorem dX12_init_207 : decode cX12_init 207 = .ok (.aload_n 0, 1) := di_42 nX12_init (Eq.refl true) (Eq.refl true)
theorem dX12_init_208 : decode cX12_init 208 = .ok (.bipush 80, 2) := di_16 (x := 80) nX12_init (Eq.refl true) (Eq.refl true) rfl
theorem dX12_init_210 : decode cX12_init 210 = .ok (.newarray .int, 2) := by decide +kernel
theorem dX12_init_212 : decode cX12_init 212 = .ok (.putfield 65, 3) := di_181 nX12_init (Eq.refl true) (Eq.refl true) (Eq.refl true)
theorem dX12_init_215 : decode cX12_init 215 = .ok (.aload_n 0, 1) := di_42 nX12_init (Eq.refl true) (Eq.refl true)
theorem dX12_init_216 : decode cX12_init 216 = .ok (.sipush 480, 3) := di_17 (x := 480) nX12_init (Eq.refl true) (Eq.refl true) (Eq.refl true) rfl
theorem dX12_init_219 : decode cX12_init 219 = .ok (.newarray .int, 2) := by decide +kernel
theorem dX12_init_221 : decode cX12_init 221 = .ok (.putfield 68, 3) := di_181 nX12_init (Eq.refl true) (Eq.refl true) (Eq.refl true)
theorem dX12_init_224 : decode cX12_init 224 = .ok (.aload_n 0, 1) := di_42 nX12_init (Eq.refl true) (Eq.refl true)
theorem dX12_init_225 : decode cX12_init 225 = .ok (.sipush 480, 3) := di_17 (x := 480) nX12_init (Eq.refl true) (Eq.refl true) (Eq.refl true) rfl
theorem dX12_init_228 : decode cX12_init 228 = .ok (.newarray .int, 2) := by decide +kernel
theorem dX12_init_230 : decode cX12_init 230 = .ok (.putfield 71, 3) := di_181 nX12_init (Eq.refl true) (Eq.refl true) (Eq.refl true)
theorem dX12_init_233 : decode cX12_init 233 = .ok (.aload_n 0, 1) := di_42 nX12_init (Eq.refl true) (Eq.refl true)
theorem dX12_init_234 : decode cX12_init 234 = .ok (.sipush 480, 3) := di_17 (x := 480) nX12_init (Eq.refl true) (Eq.refl true) (Eq.refl true) rfl
theorem dX12_init_237 : decode cX12_init 237 = .ok (.newarray .int, 2) := by decide +kernel
theorem dX12_init_239 : decode cX12_init 239 = .ok (.putfield 74, 3) := di_181 nX12_init (Eq.refl true) (Eq.refl true) (Eq.refl true)
theorem dX12_init_242 : decode cX12_init 242 = .ok (.aload_n 0, 1) := di_42 nX12_init (Eq.refl true) (Eq.refl true)
theorem dX12_init_243 : decode cX12_init 243 = .ok (.sipush 480, 3) := di_17 (x := 480) nX12_init (Eq.refl true) (Eq.refl true) (Eq.refl true) rfl
theorem dX12_init_246 : decode cX12_init 246 = .ok (.newarray .int, 2) := by decide +kernel
theorem dX12_init_248 : decode cX12_init 248 = .ok (.putfield 77, 3) := di_181 nX12_init (Eq.refl true) (Eq.refl true) (Eq.refl true)
theorem dX12_init_251 : decode cX12_init 251 = .ok (.aload_n 0, 1) := di_42 nX12_init (Eq.refl true) (Eq.refl true)
theorem dX12_init_252 : decode cX12_init 252 = .ok (.sipush 480, 3) := di_17 (x := 480) nX12_init (Eq.refl true) (Eq.refl true) (Eq.refl true) rfl
theorem dX12_init_255 : decode cX12_init 255 = .ok (.newarray .int, 2) := by decide +kernel
theorem dX12_init_257 : decode cX12_init 257 = .ok (.putfield 80, 3) := di_181 nX12_init (Eq.refl true) (Eq.refl true) (Eq.refl true)
theorem dX12_init_260 : decode cX12_init 260 = .ok (.aload_n 0, 1) := di_42 nX12_init (Eq.refl true) (Eq.refl true)
theorem dX12_init_261 : decode cX12_init 261 = .ok (.bipush 40, 2) := di_16 (x := 40) nX12_init (Eq.refl true) (Eq.refl true) rfl
theorem dX12_init_263 : decode cX12_init 263 = .ok (.newarray .int, 2) := by decide +kernel
theorem dX12_init_265 : decode cX12_init 265 = .ok (.putfield 83, 3) := di_181 nX12_init (Eq.refl true) (Eq.refl true) (Eq.refl true)
theorem dX12_init_268 : decode cX12_init 268 = .ok (.aload_n 0, 1) := di_42 nX12_init (Eq.refl true) (Eq.refl true)
theorem dX12_init_269 : decode cX12_init 269 = .ok (.iconst 5, 1) := di_8 nX12_init (Eq.refl true) (Eq.refl true)
theorem dX12_init_270 : decode cX12_init 270 = .ok (.newarray .int, 2) := by decide +kernel
theorem dX12_init_272 : decode cX12_init 272 = .ok (.putfield 86, 3) := di_181 nX12_init (Eq.refl true) (Eq.refl true) (Eq.refl true)
theorem dX12_init_275 : decode cX12_init 275 = .ok (.aload_n 0, 1) := di_42 nX12_init (Eq.refl true) (Eq.refl true)
theorem dX12_init_276 : decode cX12_init 276 = .ok (.iconst 5, 1) := di_8 nX12_init (Eq.refl true) (Eq.refl true)
theorem dX12_init_277 : decode cX12_init 277 = .ok (.newarray .int, 2) := by decide +kernel
theorem dX12_init_279 : decode cX12_init 279 = .ok (.putfield 89, 3) := di_181 nX12_init (Eq.refl true) (Eq.refl true) (Eq.refl true)
theorem dX12_init_282 : decode cX12_init 282 = .ok (.aload_n 0, 1) := di_42 nX12_init (Eq.refl true) (Eq.refl true)
theorem dX12_init_283 : decode cX12_init 283 = .ok (.bipush 6, 2) := di_16 (x := 6) nX12_init (Eq.refl true) (Eq.refl true) rfl
theorem dX12_init_285 : decode cX12_init 285 = .ok (.newarray .int, 2) := by decide +kernel
theorem dX12_init_287 : decode cX12_init 287 = .ok (.putfield 92, 3) := di_181 nX12_init (Eq.refl true) (Eq.refl true) (Eq.refl true)
theorem dX12_init_290 : decode cX12_init 290 = .ok (.aload_n 0, 1) := di_42 nX12_init (Eq.refl true) (Eq.refl true)
theorem dX12_init_291 : decode cX12_init 291 = .ok (.iconst (-1), 1) := di_2 nX12_init (Eq.refl true) (Eq.refl true)
theorem dX12_init_292 : decode cX12_init 292 = .ok (.putfield 95, 3) := di_181 nX12_init (Eq.refl true) (Eq.refl true) (Eq.refl true)
theorem dX12_init_295 : decode cX12_init 295 = .ok (.aload_n 0, 1) := di_42 nX12_init (Eq.refl true) (Eq.refl true)
theorem dX12_init_296 : decode cX12_init 296 = .ok (.bipush 24, 2) := di_16 (x := 24) nX12_init (Eq.refl true) (Eq.refl true) rfl
theorem dX12_init_298 : decode cX12_init 298 = .ok (.newarray .int, 2) := by decide +kernel
theorem dX12_init_300 : decode cX12_init 300 = .ok (.putfield 99, 3) := di_181 nX12_init (Eq.refl true) (Eq.refl true) (Eq.refl true)
theorem dX12_init_303 : decode cX12_init 303 = .ok (.aload_n 0, 1) := di_42 nX12_init (Eq.refl true) (Eq.refl true)
theorem dX12_init_304 : decode cX12_init 304 = .ok (.bipush 6, 2) := di_16 (x := 6) nX12_init (Eq.refl true) (Eq.refl true) rfl
theorem dX12_init_306 : decode cX12_init 306 = .ok (.newarray .int, 2) := by decide +kernel
theorem dX12_init_308 : decode cX12_init 308 = .ok (.dup, 1) := di_89 nX12_init (Eq.refl true) (Eq.refl true)
theorem dX12_init_309 : decode cX12_init 309 = .ok (.iconst 0, 1) := di_3 nX12_init (Eq.refl true) (Eq.refl true)
theorem dX12_init_310 : decode cX12_init 310 = .ok (.iconst (-1), 1) := di_2 nX12_init (Eq.refl true) (Eq.refl true)
theorem dX12_init_311 : decode cX12_init 311 = .ok (.iastore, 1) := di_79 nX12_init (Eq.refl true) (Eq.refl true)
theorem dX12_init_312 : decode cX12_init 312 = .ok (.dup, 1) := di_89 nX12_init (Eq.refl true) (Eq.refl true)
theorem dX12_init_313 : decode cX12_init 313 = .ok (.iconst 1, 1) := di_4 nX12_init (Eq.refl true) (Eq.refl true)
theorem dX12_init_314 : decode cX12_init 314 = .ok (.iconst (-1), 1) := di_2 nX12_init (Eq.refl true) (Eq.refl true)
theorem dX12_init_315 : decode cX12_init 315 = .ok (.iastore, 1) := di_79 nX12_init (Eq.refl true) (Eq.refl true)
theorem dX12_init_316 : decode cX12_init 316 = .ok (.dup, 1) := di_89 nX12_init (Eq.refl true) (Eq.refl true)
theorem dX12_init_317 : decode cX12_init 317 = .ok (.iconst 2, 1) := di_5 nX12_init (Eq.refl true) (Eq.refl true)
theorem dX12_init_318 : decode cX12_init 318 = .ok (.iconst (-1), 1) := di_2 nX12_init (Eq.refl true) (Eq.refl true)
theorem dX12_init_319 : decode cX12_init 319 = .ok (.iastore, 1) := di_79 nX12_init (Eq.refl true) (Eq.refl true)
theorem dX12_init_320 : decode cX12_init 320 = .ok (.dup, 1) := di_89 nX12_init (Eq.refl true) (Eq.refl true)
theorem dX12_init_321 : decode cX12_init 321 = .ok (.iconst 3, 1) := di_6 nX12_init (Eq.refl true) (Eq.refl true)
theorem dX12_init_322 : decode cX12_init 322 = .ok (.iconst (-1), 1) := di_2 nX12_init (Eq.refl true) (Eq.refl true)
theorem dX12_init_323 : decode cX12_init 323 = .ok (.iastore, 1) := di_79 nX12_init (Eq.refl true) (Eq.refl true)
theorem dX12_init_324 : decode cX12_init 324 = .ok (.dup, 1) := di_89 nX12_init (Eq.refl true) (Eq.refl true)
theorem dX12_init_325 : decode cX12_init 325 = .ok (.iconst 4, 1) := di_7 nX12_init (Eq.refl true) (Eq.refl true)
theorem dX12_init_326 : decode cX12_init 326 = .ok (.iconst (-1), 1) := di_2 nX12_init (Eq.refl true) (Eq.refl true)
theorem dX12_init_327 : decode cX12_init 327 = .ok (.iastore, 1) := di_79 nX12_init (Eq.refl true) (Eq.refl true)
theorem dX12_init_328 : decode cX12_init 328 = .ok (.dup, 1) := di_89 nX12_init (Eq.refl true) (Eq.refl true)
theorem dX12_init_329 : decode cX12_init 329 = .ok (.iconst 5, 1) := di_8 nX12_init (Eq.refl true) (Eq.refl true)
theorem dX12_init_330 : decode cX12_init 330 = .ok (.iconst (-1), 1) := di_2 nX12_init (Eq.refl true) (Eq.refl true)
theorem dX12_init_331 : decode cX12_init 331 = .ok (.iastore, 1) := di_79 nX12_init (Eq.refl true) (Eq.refl true)
theorem dX12_init_332 : decode cX12_init 332 = .ok (.putfield 102, 3) := di_181 nX12_init (Eq.refl true) (Eq.refl true) (Eq.refl true)
theorem dX12_init_335 : decode cX12_init 335 = .ok (.aload_n 0, 1) := di_42 nX12_init (Eq.refl true) (Eq.refl true)
theorem dX12_init_336 : decode cX12_init 336 = .ok (.bipush 6, 2) := di_16 (x := 6) nX12_init (Eq.refl true) (Eq.refl true) rfl
theorem dX12_init_338 : decode cX12_init 338 = .ok (.newarray .int, 2) := by decide +kernel
theorem dX12_init_340 : decode cX12_init 340 = .ok (.dup, 1) := di_89 nX12_init (Eq.refl true) (Eq.refl true)
theorem dX12_init_341 : decode cX12_init 341 = .ok (.iconst 0, 1) := di_3 nX12_init (Eq.refl true) (Eq.refl true)
theorem dX12_init_342 : decode cX12_init 342 = .ok (.iconst (-1), 1) := di_2 nX12_init (Eq.refl true) (Eq.refl true)
theorem dX12_init_343 : decode cX12_init 343 = .ok (.iastore, 1) := di_79 nX12_init (Eq.refl true) (Eq.refl true)
theorem dX12_init_344 : decode cX12_init 344 = .ok (.dup, 1) := di_89 nX12_init (Eq.refl true) (Eq.refl true)
theorem dX12_init_345 : decode cX12_init 345 = .ok (.iconst 1, 1) := di_4 nX12_init (Eq.refl true) (Eq.refl true)
theorem dX12_init_346 : decode cX12_init 346 = .ok (.iconst (-1), 1) := di_2 nX12_init (Eq.refl true) (Eq.refl true)
theorem dX12_init_347 : decode cX12_init 347 = .ok (.iastore, 1) := di_79 nX12_init (Eq.refl true) (Eq.refl true)
theorem dX12_init_348 : decode cX12_init 348 = .ok (.dup, 1) := di_89 nX12_init (Eq.refl true) (Eq.refl true)
theorem dX12_init_349 : decode cX12_init 349 = .ok (.iconst 2, 1) := di_5 nX12_init (Eq.refl true) (Eq.refl true)
theorem dX12_init_350 : decode cX12_init 350 = .ok (.iconst (-1), 1) := di_2 nX12_init (Eq.refl true) (Eq.refl true)
theorem dX12_init_351 : decode cX12_init 351 = .ok (.iastore, 1) := di_79 nX12_init (Eq.refl true) (Eq.refl true)
theorem dX12_init_352 : decode cX12_init 352 = .ok (.dup, 1) := di_89 nX12_init (Eq.refl true) (Eq.refl true)
theorem dX12_init_353 : decode cX12_init 353 = .ok (.iconst 3, 1) := di_6 nX12_init (Eq.refl true) (Eq.refl true)
theorem dX12_init_354 : decode cX12_init 354 = .ok (.iconst (-1), 1) := di_2 nX12_init (Eq.refl true) (Eq.refl true)
theorem dX12_init_355 : decode cX12_init 355 = .ok (.iastore, 1) := di_79 nX12_init (Eq.refl true) (Eq.refl true)
theorem dX12_init_356 : decode cX12_init 356 = .ok (.dup, 1) := di_89 nX12_init (Eq.refl true) (Eq.refl true)
theorem dX12_init_357 : decode cX12_init 357 = .ok (.iconst 4, 1) := di_7 nX12_init (Eq.refl true) (Eq.refl true)
theorem dX12_init_358 : decode cX12_init 358 = .ok (.iconst (-1), 1) := di_2 nX12_init (Eq.refl true) (Eq.refl true)
theorem dX12_init_359 : decode cX12_init 359 = .ok (.iastore, 1) := di_79 nX12_init (Eq.refl true) (Eq.refl true)
theorem dX12_init_360 : decode cX12_init 360 = .ok (.dup, 1) := di_89 nX12_init (Eq.refl true) (Eq.refl true)
theorem dX12_init_361 : decode cX12_init 361 = .ok (.iconst 5, 1) := di_8 nX12_init (Eq.refl true) (Eq.refl true)
theorem dX12_init_362 : decode cX12_init 362 = .ok (.iconst (-1), 1) := di_2 nX12_init (Eq.refl true) (Eq.refl true)
theorem dX12_init_363 : decode cX12_init 363 = .ok (.iastore, 1) := di_79 nX12_init (Eq.refl true) (Eq.refl true)
theorem dX12_init_364 : decode cX12_init 364 = .ok (.putfield 105, 3) := di_181 nX12_init (Eq.refl true) (Eq.refl true) (Eq.refl true)
theorem dX12_init_367 : decode cX12_init 367 = .ok (.aload_n 0, 1) := di_42 nX12_init (Eq.refl true) (Eq.refl true)
theorem dX12_init_368 : decode cX12_init 368 = .ok (.bipush 6, 2) := di_16 (x := 6) nX12_init (Eq.refl true) (Eq.refl true) rfl
theorem dX12_init_370 : decode cX12_init 370 = .ok (.newarray .int, 2) := by decide +kernel
theorem dX12_init_372 : decode cX12_init 372 = .ok (.putfield 108, 3) := di_181 nX12_init (Eq.refl true) (Eq.refl true) (Eq.refl true)
theorem dX12_init_375 : decode cX12_init 375 = .ok (.aload_n 0, 1) := di_42 nX12_init (Eq.refl true) (Eq.refl true)
theorem dX12_init_376 : decode cX12_init 376 = .ok (.sipush 360, 3) := di_17 (x := 360) nX12_init (Eq.refl true) (Eq.refl true) (Eq.refl true) rfl
theorem dX12_init_379 : decode cX12_init 379 = .ok (.newarray .long, 2) := by decide +kernel
theorem dX12_init_381 : decode cX12_init 381 = .ok (.putfield 111, 3) := di_181 nX12_init (Eq.refl true) (Eq.refl true) (Eq.refl true)
theorem dX12_init_384 : decode cX12_init 384 = .ok (.aload_n 0, 1) := di_42 nX12_init (Eq.refl true) (Eq.refl true)
theorem dX12_init_385 : decode cX12_init 385 = .ok (.bipush 6, 2) := di_16 (x := 6) nX12_init (Eq.refl true) (Eq.refl true) rfl
theorem dX12_init_387 : decode cX12_init 387 = .ok (.newarray .int, 2) := by decide +kernel
theorem dX12_init_389 : decode cX12_init 389 = .ok (.putfield 115, 3) := di_181 nX12_init (Eq.refl true) (Eq.refl true) (Eq.refl true)
theorem dX12_init_392 : decode cX12_init 392 = .ok (.aload_n 0, 1) := di_42 nX12_init (Eq.refl true) (Eq.refl true)
theorem dX12_init_393 : decode cX12_init 393 = .ok (.bipush 12, 2) := di_16 (x := 12) nX12_init (Eq.refl true) (Eq.refl true) rfl
theorem dX12_init_395 : decode cX12_init 395 = .ok (.newarray .int, 2) := by decide +kernel
theorem dX12_init_397 : decode cX12_init 397 = .ok (.putfield 118, 3) := di_181 nX12_init (Eq.refl true) (Eq.refl true) (Eq.refl true)
theorem dX12_init_400 : decode cX12_init 400 = .ok (.aload_n 0, 1) := di_42 nX12_init (Eq.refl true) (Eq.refl true)
theorem dX12_init_401 : decode cX12_init 401 = .ok (.iconst 4, 1) := di_7 nX12_init (Eq.refl true) (Eq.refl true)
theorem dX12_init_402 : decode cX12_init 402 = .ok (.newarray .int, 2) := by decide +kernel
theorem dX12_init_404 : decode cX12_init 404 = .ok (.putfield 121, 3) := di_181 nX12_init (Eq.refl true) (Eq.refl true) (Eq.refl true)
theorem dX12_init_407 : decode cX12_init 407 = .ok (.aload_n 0, 1) := di_42 nX12_init (Eq.refl true) (Eq.refl true)
theorem dX12_init_408 : decode cX12_init 408 = .ok (.bipush 12, 2) := di_16 (x := 12) nX12_init (Eq.refl true) (Eq.refl true) rfl
theorem dX12_init_410 : decode cX12_init 410 = .ok (.newarray .int, 2) := by decide +kernel
theorem dX12_init_412 : decode cX12_init 412 = .ok (.putfield 124, 3) := di_181 nX12_init (Eq.refl true) (Eq.refl true) (Eq.refl true)
theorem dX12_init_415 : decode cX12_init 415 = .ok (.aload_n 0, 1) := di_42 nX12_init (Eq.refl true) (Eq.refl true)
theorem dX12_init_416 : decode cX12_init 416 = .ok (.sipush 1280, 3) := di_17 (x := 1280) nX12_init (Eq.refl true) (Eq.refl true) (Eq.refl true) rfl
theorem dX12_init_419 : decode cX12_init 419 = .ok (.newarray .int, 2) := by decide +kernel
theorem dX12_init_421 : decode cX12_init 421 = .ok (.putfield 127, 3) := di_181 nX12_init (Eq.refl true) (Eq.refl true) (Eq.refl true)
theorem dX12_init_424 : decode cX12_init 424 = .ok (.aload_n 0, 1) := di_42 nX12_init (Eq.refl true) (Eq.refl true)
theorem dX12_init_425 : decode cX12_init 425 = .ok (.iconst 5, 1) := di_8 nX12_init (Eq.refl true) (Eq.refl true)
theorem dX12_init_426 : decode cX12_init 426 = .ok (.newarray .int, 2) := by decide +kernel
theorem dX12_init_428 : decode cX12_init 428 = .ok (.putfield 130, 3) := di_181 nX12_init (Eq.refl true) (Eq.refl true) (Eq.refl true)
theorem dX12_init_431 : decode cX12_init 431 = .ok (.iconst 0, 1) := di_3 nX12_init (Eq.refl true) (Eq.refl true)
theorem dX12_init_432 : decode cX12_init 432 = .ok (.istore_n 1, 1) := di_60 nX12_init (Eq.refl true) (Eq.refl true)
theorem dX12_init_433 : decode cX12_init 433 = .ok (.iload_n 1, 1) := di_27 nX12_init (Eq.refl true) (Eq.refl true)
theorem dX12_init_434 : decode cX12_init 434 = .ok (.sipush 480, 3) := di_17 (x := 480) nX12_init (Eq.refl true) (Eq.refl true) (Eq.refl true) rfl
theorem dX12_init_437 : decode cX12_init 437 = .ok (.if_icmp .ge 17, 3) := di_162 (x := 17) nX12_init (Eq.refl true) (Eq.refl true) (Eq.refl true) rfl
theorem dX12_init_440 : decode cX12_init 440 = .ok (.aload_n 0, 1) := di_42 nX12_init (Eq.refl true) (Eq.refl true)
theorem dX12_init_441 : decode cX12_init 441 = .ok (.getfield 74, 3) := di_180 nX12_init (Eq.refl true) (Eq.refl true) (Eq.refl true)
theorem dX12_init_444 : decode cX12_init 444 = .ok (.iload_n 1, 1) := di_27 nX12_init (Eq.refl true) (Eq.refl true)
theorem dX12_init_445 : decode cX12_init 445 = .ok (.bipush (-2), 2) := di_16 (x := 254) nX12_init (Eq.refl true) (Eq.refl true) rfl
theorem dX12_init_447 : decode cX12_init 447 = .ok (.iastore, 1) := di_79 nX12_init (Eq.refl true) (Eq.refl true)
theorem dX12_init_448 : decode cX12_init 448 = .ok (.iinc 1 1, 3) := di_132 (y := 1) nX12_init (Eq.refl true) (Eq.refl true) (Eq.refl true) rfl
theorem dX12_init_451 : decode cX12_init 451 = .ok (.goto (-18), 3) := di_167 (x := 65518) nX12_init (Eq.refl true) (Eq.refl true) (Eq.refl true) rfl
theorem dX12_init_454 : decode cX12_init 454 = .ok (.return_, 1) := di_177 nX12_init (Eq.refl true) (Eq.refl true)
noncomputable def NX12_in : Nat := 228642873346908414640783864493848468250
theorem nX12_in : CN cX12_in NX12_in 16 := ⟨by decide +kernel, by decide +kernel⟩
theorem dX12_in_0 : decode cX12_in 0 = .ok (.iload_n 0, 1) := di_26 nX12_in (Eq.refl true) (Eq.refl true)
theorem dX12_in_1 : decode cX12_in 1 = .ok (.iload_n 1, 1) := di_27 nX12_in (Eq.refl true) (Eq.refl true)
theorem dX12_in_2 : decode cX12_in 2 = .ok (.if_icmp .lt 12, 3) := di_161 (x := 12) nX12_in (Eq.refl true) (Eq.refl true) (Eq.refl true) rfl
theorem dX12_in_5 : decode cX12_in 5 = .ok (.iload_n 0, 1) := di_26 nX12_in (Eq.refl true) (Eq.refl true)
theorem dX12_in_6 : decode cX12_in 6 = .ok (.iload_n 2, 1) := di_28 nX12_in (Eq.refl true) (Eq.refl true)
theorem dX12_in_7 : decode cX12_in 7 = .ok (.if_icmp .gt 7, 3) := di_163 (x := 7) nX12_in (Eq.refl true) (Eq.refl true) (Eq.refl true) rfl
theorem dX12_in_10 : decode cX12_in 10 = .ok (.iconst 1, 1) := di_4 nX12_in (Eq.refl true) (Eq.refl true)
theorem dX12_in_11 : decode cX12_in 11 = .ok (.goto 4, 3) := di_167 (x := 4) nX12_in (Eq.refl true) (Eq.refl true) (Eq.refl true) rfl
theorem dX12_in_14 : decode cX12_in 14 = .ok (.iconst 0, 1) := di_3 nX12_in (Eq.refl true) (Eq.refl true)
theorem dX12_in_15 : decode cX12_in 15 = .ok (.ireturn, 1) := di_172 nX12_in (Eq.refl true) (Eq.refl true)
noncomputable def csX12_isName : List (List Cond) := [[Cond.code yX12_isName cX12_isName 2 (some .boolean)], [Cond.fieldLink RX12 133 "SeatsRoundModel" "names" "I", Cond.methodLink RX12 136 yX12_in, Cond.static yX12_in, Cond.initialized RX12, Cond.code yX12_in cX12_in 3 (some .boolean)], wsX120]
set_option maxRecDepth 20000 in
theorem ciX12_isName : ∀ l ∈ csX12_isName, ∀ w ∈ l, w ∈ wsX12_isName := by
  unfold csX12_isName
  refine List.forall_mem_cons.mpr ⟨fun _ h => List.mem_cons.mpr (Or.inl (List.mem_singleton.mp h)), List.forall_mem_cons.mpr ⟨fun _ h => List.mem_cons_of_mem _ (List.mem_append_left _ h), List.forall_mem_cons.mpr ⟨fun _ h => List.mem_cons_of_mem _ (List.mem_append_right _ h), fun l h => absurd h List.not_mem_nil⟩⟩⟩
set_option maxRecDepth 20000 in
theorem ggX12_isName_X12_in : GoodIn wsX12_isName wsX12_in := goodIn_sl csX12_isName ciX12_isName _ [(1, 4, 1)] rfl gw_wsX12_in
set_option maxRecDepth 20000 in
theorem gX12_isName_X12_in : GoodIn wsX12_isName (va_wsS RX12 136 yX12_in wsX12_in) := goodIn_app (goodIn_sl csX12_isName ciX12_isName _ [(1, 1, 3)] rfl rfl) ggX12_isName_X12_in
noncomputable def NX12_isName : Nat := 53395839002146882492748661531
theorem nX12_isName : CN cX12_isName NX12_isName 12 := ⟨by decide +kernel, by decide +kernel⟩
theorem dX12_isName_0 : decode cX12_isName 0 = .ok (.iload_n 1, 1) := di_27 nX12_isName (Eq.refl true) (Eq.refl true)
theorem dX12_isName_1 : decode cX12_isName 1 = .ok (.iconst 0, 1) := di_3 nX12_isName (Eq.refl true) (Eq.refl true)
theorem dX12_isName_2 : decode cX12_isName 2 = .ok (.aload_n 0, 1) := di_42 nX12_isName (Eq.refl true) (Eq.refl true)
theorem dX12_isName_3 : decode cX12_isName 3 = .ok (.getfield 133, 3) := di_180 nX12_isName (Eq.refl true) (Eq.refl true) (Eq.refl true)
theorem dX12_isName_6 : decode cX12_isName 6 = .ok (.iconst 1, 1) := di_4 nX12_isName (Eq.refl true) (Eq.refl true)
theorem dX12_isName_7 : decode cX12_isName 7 = .ok (.isub, 1) := di_100 nX12_isName (Eq.refl true) (Eq.refl true)
theorem dX12_isName_8 : decode cX12_isName 8 = .ok (.invokestatic 136, 3) := di_184 nX12_isName (Eq.refl true) (Eq.refl true) (Eq.refl true)
theorem dX12_isName_11 : decode cX12_isName 11 = .ok (.ireturn, 1) := di_172 nX12_isName (Eq.refl true) (Eq.refl true)
noncomputable def csX12_isKeeper : List (List Cond) := [[Cond.code yX12_isKeeper cX12_isKeeper 2 (some .boolean)], [Cond.fieldLink RX12 140 "SeatsRoundModel" "keepers" "I", Cond.methodLink RX12 136 yX12_in, Cond.static yX12_in, Cond.initialized RX12, Cond.code yX12_in cX12_in 3 (some .boolean)], wsX120]
set_option maxRecDepth 20000 in
theorem ciX12_isKeeper : ∀ l ∈ csX12_isKeeper, ∀ w ∈ l, w ∈ wsX12_isKeeper := by
  unfold csX12_isKeeper
  refine List.forall_mem_cons.mpr ⟨fun _ h => List.mem_cons.mpr (Or.inl (List.mem_singleton.mp h)), List.forall_mem_cons.mpr ⟨fun _ h => List.mem_cons_of_mem _ (List.mem_append_left _ h), List.forall_mem_cons.mpr ⟨fun _ h => List.mem_cons_of_mem _ (List.mem_append_right _ h), fun l h => absurd h List.not_mem_nil⟩⟩⟩
set_option maxRecDepth 20000 in
theorem ggX12_isKeeper_X12_in : GoodIn wsX12_isKeeper wsX12_in := goodIn_sl csX12_isKeeper ciX12_isKeeper _ [(1, 4, 1)] rfl gw_wsX12_in
set_option maxRecDepth 20000 in
theorem gX12_isKeeper_X12_in : GoodIn wsX12_isKeeper (va_wsS RX12 136 yX12_in wsX12_in) := goodIn_app (goodIn_sl csX12_isKeeper ciX12_isKeeper _ [(1, 1, 3)] rfl rfl) ggX12_isKeeper_X12_in
noncomputable def NX12_isKeeper : Nat := 53395839002146890189330055963
theorem nX12_isKeeper : CN cX12_isKeeper NX12_isKeeper 12 := ⟨by decide +kernel, by decide +kernel⟩
theorem dX12_isKeeper_0 : decode cX12_isKeeper 0 = .ok (.iload_n 1, 1) := di_27 nX12_isKeeper (Eq.refl true) (Eq.refl true)
theorem dX12_isKeeper_1 : decode cX12_isKeeper 1 = .ok (.iconst 0, 1) := di_3 nX12_isKeeper (Eq.refl true) (Eq.refl true)
theorem dX12_isKeeper_2 : decode cX12_isKeeper 2 = .ok (.aload_n 0, 1) := di_42 nX12_isKeeper (Eq.refl true) (Eq.refl true)
theorem dX12_isKeeper_3 : decode cX12_isKeeper 3 = .ok (.getfield 140, 3) := di_180 nX12_isKeeper (Eq.refl true) (Eq.refl true) (Eq.refl true)
theorem dX12_isKeeper_6 : decode cX12_isKeeper 6 = .ok (.iconst 1, 1) := di_4 nX12_isKeeper (Eq.refl true) (Eq.refl true)
theorem dX12_isKeeper_7 : decode cX12_isKeeper 7 = .ok (.isub, 1) := di_100 nX12_isKeeper (Eq.refl true) (Eq.refl true)
theorem dX12_isKeeper_8 : decode cX12_isKeeper 8 = .ok (.invokestatic 136, 3) := di_184 nX12_isKeeper (Eq.refl true) (Eq.refl true) (Eq.refl true)
theorem dX12_isKeeper_11 : decode cX12_isKeeper 11 = .ok (.ireturn, 1) := di_172 nX12_isKeeper (Eq.refl true) (Eq.refl true)
noncomputable def csX12_isTable : List (List Cond) := [[Cond.code yX12_isTable cX12_isTable 2 (some .boolean)], [Cond.fieldLink RX12 143 "SeatsRoundModel" "tables" "I", Cond.methodLink RX12 136 yX12_in, Cond.static yX12_in, Cond.initialized RX12, Cond.code yX12_in cX12_in 3 (some .boolean)], wsX120]
set_option maxRecDepth 20000 in
theorem ciX12_isTable : ∀ l ∈ csX12_isTable, ∀ w ∈ l, w ∈ wsX12_isTable := by
  unfold csX12_isTable
  refine List.forall_mem_cons.mpr ⟨fun _ h => List.mem_cons.mpr (Or.inl (List.mem_singleton.mp h)), List.forall_mem_cons.mpr ⟨fun _ h => List.mem_cons_of_mem _ (List.mem_append_left _ h), List.forall_mem_cons.mpr ⟨fun _ h => List.mem_cons_of_mem _ (List.mem_append_right _ h), fun l h => absurd h List.not_mem_nil⟩⟩⟩
set_option maxRecDepth 20000 in
theorem ggX12_isTable_X12_in : GoodIn wsX12_isTable wsX12_in := goodIn_sl csX12_isTable ciX12_isTable _ [(1, 4, 1)] rfl gw_wsX12_in
set_option maxRecDepth 20000 in
theorem gX12_isTable_X12_in : GoodIn wsX12_isTable (va_wsS RX12 136 yX12_in wsX12_in) := goodIn_app (goodIn_sl csX12_isTable ciX12_isTable _ [(1, 1, 3)] rfl rfl) ggX12_isTable_X12_in
noncomputable def NX12_isTable : Nat := 53395839002146893487864939291
theorem nX12_isTable : CN cX12_isTable NX12_isTable 12 := ⟨by decide +kernel, by decide +kernel⟩
theorem dX12_isTable_0 : decode cX12_isTable 0 = .ok (.iload_n 1, 1) := di_27 nX12_isTable (Eq.refl true) (Eq.refl true)
theorem dX12_isTable_1 : decode cX12_isTable 1 = .ok (.iconst 0, 1) := di_3 nX12_isTable (Eq.refl true) (Eq.refl true)
theorem dX12_isTable_2 : decode cX12_isTable 2 = .ok (.aload_n 0, 1) := di_42 nX12_isTable (Eq.refl true) (Eq.refl true)
theorem dX12_isTable_3 : decode cX12_isTable 3 = .ok (.getfield 143, 3) := di_180 nX12_isTable (Eq.refl true) (Eq.refl true) (Eq.refl true)
theorem dX12_isTable_6 : decode cX12_isTable 6 = .ok (.iconst 1, 1) := di_4 nX12_isTable (Eq.refl true) (Eq.refl true)
theorem dX12_isTable_7 : decode cX12_isTable 7 = .ok (.isub, 1) := di_100 nX12_isTable (Eq.refl true) (Eq.refl true)
theorem dX12_isTable_8 : decode cX12_isTable 8 = .ok (.invokestatic 136, 3) := di_184 nX12_isTable (Eq.refl true) (Eq.refl true) (Eq.refl true)
theorem dX12_isTable_11 : decode cX12_isTable 11 = .ok (.ireturn, 1) := di_172 nX12_isTable (Eq.refl true) (Eq.refl true)
noncomputable def csX12_feed : List (List Cond) := [[Cond.code yX12_feed cX12_feed 4 (some .int)], [Cond.fieldLink RX12 146 "SeatsRoundModel" "taped" "I", Cond.fieldLink RX12 65 "SeatsRoundModel" "tape" "[I", Cond.methodLink RX12 136 yX12_in, Cond.static yX12_in, Cond.initialized RX12, Cond.code yX12_in cX12_in 3 (some .boolean)], wsX120]
set_option maxRecDepth 20000 in
theorem ciX12_feed : ∀ l ∈ csX12_feed, ∀ w ∈ l, w ∈ wsX12_feed := by
  unfold csX12_feed
  refine List.forall_mem_cons.mpr ⟨fun _ h => List.mem_cons.mpr (Or.inl (List.mem_singleton.mp h)), List.forall_mem_cons.mpr ⟨fun _ h => List.mem_cons_of_mem _ (List.mem_append_left _ h), List.forall_mem_cons.mpr ⟨fun _ h => List.mem_cons_of_mem _ (List.mem_append_right _ h), fun l h => absurd h List.not_mem_nil⟩⟩⟩
set_option maxRecDepth 20000 in
theorem ggX12_feed_X12_in : GoodIn wsX12_feed wsX12_in := goodIn_sl csX12_feed ciX12_feed _ [(1, 5, 1)] rfl gw_wsX12_in
set_option maxRecDepth 20000 in
theorem gX12_feed_X12_in : GoodIn wsX12_feed (va_wsS RX12 136 yX12_in wsX12_in) := goodIn_app (goodIn_sl csX12_feed ciX12_feed _ [(1, 2, 3)] rfl rfl) ggX12_feed_X12_in
noncomputable def NX12_feed : Nat := 166726122378904466964260042839341603161336995031363811067078025828945852373207223595913132382495585440184324725910210499697729878527284273080345524651039527414208238046348315
theorem nX12_feed : CN cX12_feed NX12_feed 72 := ⟨by decide +kernel, by decide +kernel⟩
theorem dX12_feed_0 : decode cX12_feed 0 = .ok (.iload_n 1, 1) := di_27 nX12_feed (Eq.refl true) (Eq.refl true)
theorem dX12_feed_1 : decode cX12_feed 1 = .ok (.iconst 1, 1) := di_4 nX12_feed (Eq.refl true) (Eq.refl true)
theorem dX12_feed_2 : decode cX12_feed 2 = .ok (.iconst 4, 1) := di_7 nX12_feed (Eq.refl true) (Eq.refl true)
theorem dX12_feed_3 : decode cX12_feed 3 = .ok (.invokestatic 136, 3) := di_184 nX12_feed (Eq.refl true) (Eq.refl true) (Eq.refl true)
theorem dX12_feed_6 : decode cX12_feed 6 = .ok (.ifCond .ne 5, 3) := di_154 (x := 5) nX12_feed (Eq.refl true) (Eq.refl true) (Eq.refl true) rfl
theorem dX12_feed_9 : decode cX12_feed 9 = .ok (.iconst (-1), 1) := di_2 nX12_feed (Eq.refl true) (Eq.refl true)
theorem dX12_feed_10 : decode cX12_feed 10 = .ok (.ireturn, 1) := di_172 nX12_feed (Eq.refl true) (Eq.refl true)
theorem dX12_feed_11 : decode cX12_feed 11 = .ok (.aload_n 0, 1) := di_42 nX12_feed (Eq.refl true) (Eq.refl true)
theorem dX12_feed_12 : decode cX12_feed 12 = .ok (.getfield 146, 3) := di_180 nX12_feed (Eq.refl true) (Eq.refl true) (Eq.refl true)
theorem dX12_feed_15 : decode cX12_feed 15 = .ok (.iload_n 1, 1) := di_27 nX12_feed (Eq.refl true) (Eq.refl true)
theorem dX12_feed_16 : decode cX12_feed 16 = .ok (.iadd, 1) := di_96 nX12_feed (Eq.refl true) (Eq.refl true)
theorem dX12_feed_17 : decode cX12_feed 17 = .ok (.bipush 80, 2) := di_16 (x := 80) nX12_feed (Eq.refl true) (Eq.refl true) rfl
theorem dX12_feed_19 : decode cX12_feed 19 = .ok (.if_icmp .le 6, 3) := di_164 (x := 6) nX12_feed (Eq.refl true) (Eq.refl true) (Eq.refl true) rfl
theorem dX12_feed_25 : decode cX12_feed 25 = .ok (.iconst 0, 1) := di_3 nX12_feed (Eq.refl true) (Eq.refl true)
theorem dX12_feed_26 : decode cX12_feed 26 = .ok (.istore_n 3, 1) := di_62 nX12_feed (Eq.refl true) (Eq.refl true)
theorem dX12_feed_27 : decode cX12_feed 27 = .ok (.iload_n 3, 1) := di_29 nX12_feed (Eq.refl true) (Eq.refl true)
theorem dX12_feed_28 : decode cX12_feed 28 = .ok (.iload_n 1, 1) := di_27 nX12_feed (Eq.refl true) (Eq.refl true)
theorem dX12_feed_29 : decode cX12_feed 29 = .ok (.if_icmp .ge 38, 3) := di_162 (x := 38) nX12_feed (Eq.refl true) (Eq.refl true) (Eq.refl true) rfl
theorem dX12_feed_32 : decode cX12_feed 32 = .ok (.aload_n 0, 1) := di_42 nX12_feed (Eq.refl true) (Eq.refl true)
theorem dX12_feed_33 : decode cX12_feed 33 = .ok (.getfield 65, 3) := di_180 nX12_feed (Eq.refl true) (Eq.refl true) (Eq.refl true)
theorem dX12_feed_36 : decode cX12_feed 36 = .ok (.aload_n 0, 1) := di_42 nX12_feed (Eq.refl true) (Eq.refl true)
theorem dX12_feed_37 : decode cX12_feed 37 = .ok (.getfield 146, 3) := di_180 nX12_feed (Eq.refl true) (Eq.refl true) (Eq.refl true)
theorem dX12_feed_40 : decode cX12_feed 40 = .ok (.iload_n 2, 1) := di_28 nX12_feed (Eq.refl true) (Eq.refl true)
theorem dX12_feed_41 : decode cX12_feed 41 = .ok (.bipush 8, 2) := di_16 (x := 8) nX12_feed (Eq.refl true) (Eq.refl true) rfl
theorem dX12_feed_43 : decode cX12_feed 43 = .ok (.iload_n 3, 1) := di_29 nX12_feed (Eq.refl true) (Eq.refl true)
theorem dX12_feed_44 : decode cX12_feed 44 = .ok (.imul, 1) := di_104 nX12_feed (Eq.refl true) (Eq.refl true)
theorem dX12_feed_45 : decode cX12_feed 45 = .ok (.ishr, 1) := di_122 nX12_feed (Eq.refl true) (Eq.refl true)
theorem dX12_feed_46 : decode cX12_feed 46 = .ok (.sipush 255, 3) := di_17 (x := 255) nX12_feed (Eq.refl true) (Eq.refl true) (Eq.refl true) rfl
theorem dX12_feed_49 : decode cX12_feed 49 = .ok (.iand, 1) := di_126 nX12_feed (Eq.refl true) (Eq.refl true)
theorem dX12_feed_50 : decode cX12_feed 50 = .ok (.iastore, 1) := di_79 nX12_feed (Eq.refl true) (Eq.refl true)
theorem dX12_feed_51 : decode cX12_feed 51 = .ok (.aload_n 0, 1) := di_42 nX12_feed (Eq.refl true) (Eq.refl true)
theorem dX12_feed_52 : decode cX12_feed 52 = .ok (.dup, 1) := di_89 nX12_feed (Eq.refl true) (Eq.refl true)
theorem dX12_feed_53 : decode cX12_feed 53 = .ok (.getfield 146, 3) := di_180 nX12_feed (Eq.refl true) (Eq.refl true) (Eq.refl true)
theorem dX12_feed_56 : decode cX12_feed 56 = .ok (.iconst 1, 1) := di_4 nX12_feed (Eq.refl true) (Eq.refl true)
theorem dX12_feed_57 : decode cX12_feed 57 = .ok (.iadd, 1) := di_96 nX12_feed (Eq.refl true) (Eq.refl true)
theorem dX12_feed_58 : decode cX12_feed 58 = .ok (.putfield 146, 3) := di_181 nX12_feed (Eq.refl true) (Eq.refl true) (Eq.refl true)
theorem dX12_feed_61 : decode cX12_feed 61 = .ok (.iinc 3 1, 3) := di_132 (y := 1) nX12_feed (Eq.refl true) (Eq.refl true) (Eq.refl true) rfl
theorem dX12_feed_64 : decode cX12_feed 64 = .ok (.goto (-37), 3) := di_167 (x := 65499) nX12_feed (Eq.refl true) (Eq.refl true) (Eq.refl true) rfl
theorem dX12_feed_67 : decode cX12_feed 67 = .ok (.aload_n 0, 1) := di_42 nX12_feed (Eq.refl true) (Eq.refl true)
theorem dX12_feed_68 : decode cX12_feed 68 = .ok (.getfield 146, 3) := di_180 nX12_feed (Eq.refl true) (Eq.refl true) (Eq.refl true)
theorem dX12_feed_71 : decode cX12_feed 71 = .ok (.ireturn, 1) := di_172 nX12_feed (Eq.refl true) (Eq.refl true)
noncomputable def csX12_name : List (List Cond) := [[Cond.code yX12_name cX12_name 2 (some .int)], [Cond.fieldLink RX12 146 "SeatsRoundModel" "taped" "I", Cond.fieldLink RX12 115 "SeatsRoundModel" "told" "[I", Cond.fieldLink RX12 65 "SeatsRoundModel" "tape" "[I", Cond.fieldLink RX12 133 "SeatsRoundModel" "names" "I", Cond.methodLink RX12 136 yX12_in, Cond.static yX12_in, Cond.initialized RX12, Cond.code yX12_in cX12_in 3 (some .boolean), Cond.methodLink RX12 149 yX12_found, Cond.instanceMethod yX12_found, Cond.selects RX12 yX12_found yX12_found, Cond.code yX12_found cX12_found 5 (some .int), Cond.fieldLink RX12 7 "SeatsRoundModel" "nameSize" "[I", Cond.fieldLink RX12 13 "SeatsRoundModel" "nameByte" "[I", Cond.methodLink RX12 153 yX12_comesName, Cond.instanceMethod yX12_comesName, Cond.selects RX12 yX12_comesName yX12_comesName, Cond.code yX12_comesName cX12_comesName 3 none], wsX120]
set_option maxRecDepth 20000 in
theorem ciX12_name : ∀ l ∈ csX12_name, ∀ w ∈ l, w ∈ wsX12_name := by
  unfold csX12_name
  refine List.forall_mem_cons.mpr ⟨fun _ h => List.mem_cons.mpr (Or.inl (List.mem_singleton.mp h)), List.forall_mem_cons.mpr ⟨fun _ h => List.mem_cons_of_mem _ (List.mem_append_left _ h), List.forall_mem_cons.mpr ⟨fun _ h => List.mem_cons_of_mem _ (List.mem_append_right _ h), fun l h => absurd h List.not_mem_nil⟩⟩⟩
set_option maxRecDepth 20000 in
theorem ggX12_name_X12_in : GoodIn wsX12_name wsX12_in := goodIn_sl csX12_name ciX12_name _ [(1, 7, 1)] rfl gw_wsX12_in
set_option maxRecDepth 20000 in
theorem gX12_name_X12_in : GoodIn wsX12_name (va_wsS RX12 136 yX12_in wsX12_in) := goodIn_app (goodIn_sl csX12_name ciX12_name _ [(1, 4, 3)] rfl rfl) ggX12_name_X12_in
noncomputable def NX12_name : Nat := 243017268764951112461030684644777629420460966655490492199687922868735042953957065096039288660414847940234895038271741214615606060398441597234777595443100909643589328087559584439739281500886759863554536238118772839075066922
theorem nX12_name : CN cX12_name NX12_name 92 := ⟨by decide +kernel, by decide +kernel⟩
theorem dX12_name_0 : decode cX12_name 0 = .ok (.aload_n 0, 1) := di_42 nX12_name (Eq.refl true) (Eq.refl true)
theorem dX12_name_1 : decode cX12_name 1 = .ok (.getfield 146, 3) := di_180 nX12_name (Eq.refl true) (Eq.refl true) (Eq.refl true)
theorem dX12_name_4 : decode cX12_name 4 = .ok (.iconst 1, 1) := di_4 nX12_name (Eq.refl true) (Eq.refl true)
theorem dX12_name_5 : decode cX12_name 5 = .ok (.bipush 6, 2) := di_16 (x := 6) nX12_name (Eq.refl true) (Eq.refl true) rfl
theorem dX12_name_7 : decode cX12_name 7 = .ok (.invokestatic 136, 3) := di_184 nX12_name (Eq.refl true) (Eq.refl true) (Eq.refl true)
theorem dX12_name_10 : decode cX12_name 10 = .ok (.ifCond .ne 5, 3) := di_154 (x := 5) nX12_name (Eq.refl true) (Eq.refl true) (Eq.refl true) rfl
theorem dX12_name_13 : decode cX12_name 13 = .ok (.iconst (-1), 1) := di_2 nX12_name (Eq.refl true) (Eq.refl true)
theorem dX12_name_14 : decode cX12_name 14 = .ok (.ireturn, 1) := di_172 nX12_name (Eq.refl true) (Eq.refl true)
noncomputable def csX12_number : List (List Cond) := [[Cond.code yX12_number cX12_number 3 (some .int)], [Cond.methodLink RX12 158 yX12_isName, Cond.instanceMethod yX12_isName, Cond.selects RX12 yX12_isName yX12_isName, Cond.initialized RX12, Cond.code yX12_isName cX12_isName 2 (some .boolean), Cond.fieldLink RX12 133 "SeatsRoundModel" "names" "I", Cond.methodLink RX12 136 yX12_in, Cond.static yX12_in, Cond.code yX12_in cX12_in 3 (some .boolean), Cond.methodLink RX12 162 yX12_numberOf, Cond.instanceMethod yX12_numberOf, Cond.selects RX12 yX12_numberOf yX12_numberOf, Cond.code yX12_numberOf cX12_numberOf 5 (some .int), Cond.fieldLink RX12 7 "SeatsRoundModel" "nameSize" "[I", Cond.fieldLink RX12 13 "SeatsRoundModel" "nameByte" "[I", Cond.constant RX12 157 (16777619)], wsX120]
set_option maxRecDepth 20000 in
theorem ciX12_number : ∀ l ∈ csX12_number, ∀ w ∈ l, w ∈ wsX12_number := by
  unfold csX12_number
  refine List.forall_mem_cons.mpr ⟨fun _ h => List.mem_cons.mpr (Or.inl (List.mem_singleton.mp h)), List.forall_mem_cons.mpr ⟨fun _ h => List.mem_cons_of_mem _ (List.mem_append_left _ h), List.forall_mem_cons.mpr ⟨fun _ h => List.mem_cons_of_mem _ (List.mem_append_right _ h), fun l h => absurd h List.not_mem_nil⟩⟩⟩
set_option maxRecDepth 20000 in
theorem ggX12_number_X12_isName : GoodIn wsX12_number wsX12_isName := goodIn_sl csX12_number ciX12_number _ [(1, 4, 4), (1, 3, 1), (1, 8, 1), (2, 0, 59)] rfl gw_wsX12_isName
set_option maxRecDepth 20000 in
theorem gX12_number_X12_isName : GoodIn wsX12_number (wsV RX12 158 RX12 yX12_isName wsX12_isName) := goodIn_app (goodIn_sl csX12_number ciX12_number _ [(1, 0, 4)] rfl rfl) ggX12_number_X12_isName
noncomputable def NX12_number : Nat := 3835903760718997766682648418723386046488648490
theorem nX12_number : CN cX12_number NX12_number 19 := ⟨by decide +kernel, by decide +kernel⟩
theorem dX12_number_0 : decode cX12_number 0 = .ok (.aload_n 0, 1) := di_42 nX12_number (Eq.refl true) (Eq.refl true)
theorem dX12_number_1 : decode cX12_number 1 = .ok (.iload_n 1, 1) := di_27 nX12_number (Eq.refl true) (Eq.refl true)
theorem dX12_number_2 : decode cX12_number 2 = .ok (.invokevirtual 158, 3) := di_182 nX12_number (Eq.refl true) (Eq.refl true) (Eq.refl true)
theorem dX12_number_5 : decode cX12_number 5 = .ok (.ifCond .eq 12, 3) := di_153 (x := 12) nX12_number (Eq.refl true) (Eq.refl true) (Eq.refl true) rfl
theorem dX12_number_17 : decode cX12_number 17 = .ok (.iconst (-1), 1) := di_2 nX12_number (Eq.refl true) (Eq.refl true)
theorem dX12_number_18 : decode cX12_number 18 = .ok (.ireturn, 1) := di_172 nX12_number (Eq.refl true) (Eq.refl true)
noncomputable def csX12_keeper : List (List Cond) := [[Cond.code yX12_keeper cX12_keeper 3 (some .int)], [Cond.fieldLink RX12 140 "SeatsRoundModel" "keepers" "I", Cond.fieldLink RX12 16 "SeatsRoundModel" "street" "[I", Cond.fieldLink RX12 19 "SeatsRoundModel" "strength" "[I", Cond.methodLink RX12 136 yX12_in, Cond.static yX12_in, Cond.initialized RX12, Cond.code yX12_in cX12_in 3 (some .boolean)], wsX120]
set_option maxRecDepth 20000 in
theorem ciX12_keeper : ∀ l ∈ csX12_keeper, ∀ w ∈ l, w ∈ wsX12_keeper := by
  unfold csX12_keeper
  refine List.forall_mem_cons.mpr ⟨fun _ h => List.mem_cons.mpr (Or.inl (List.mem_singleton.mp h)), List.forall_mem_cons.mpr ⟨fun _ h => List.mem_cons_of_mem _ (List.mem_append_left _ h), List.forall_mem_cons.mpr ⟨fun _ h => List.mem_cons_of_mem _ (List.mem_append_right _ h), fun l h => absurd h List.not_mem_nil⟩⟩⟩
set_option maxRecDepth 20000 in
theorem ggX12_keeper_X12_in : GoodIn wsX12_keeper wsX12_in := goodIn_sl csX12_keeper ciX12_keeper _ [(1, 6, 1)] rfl gw_wsX12_in
set_option maxRecDepth 20000 in
theorem gX12_keeper_X12_in : GoodIn wsX12_keeper (va_wsS RX12 136 yX12_in wsX12_in) := goodIn_app (goodIn_sl csX12_keeper ciX12_keeper _ [(1, 3, 3)] rfl rfl) ggX12_keeper_X12_in
noncomputable def NX12_keeper : Nat := 2541390636636336999375706828111096796136511397257873017630717239804820646684421376408801796232642590357123081381650797403647217810270570372106202090381764545196597969691
theorem nX12_keeper : CN cX12_keeper NX12_keeper 70 := ⟨by decide +kernel, by decide +kernel⟩
theorem dX12_keeper_0 : decode cX12_keeper 0 = .ok (.iload_n 1, 1) := di_27 nX12_keeper (Eq.refl true) (Eq.refl true)
theorem dX12_keeper_1 : decode cX12_keeper 1 = .ok (.iconst 0, 1) := di_3 nX12_keeper (Eq.refl true) (Eq.refl true)
theorem dX12_keeper_2 : decode cX12_keeper 2 = .ok (.iconst 5, 1) := di_8 nX12_keeper (Eq.refl true) (Eq.refl true)
theorem dX12_keeper_3 : decode cX12_keeper 3 = .ok (.invokestatic 136, 3) := di_184 nX12_keeper (Eq.refl true) (Eq.refl true) (Eq.refl true)
theorem dX12_keeper_6 : decode cX12_keeper 6 = .ok (.ifCond .eq 13, 3) := di_153 (x := 13) nX12_keeper (Eq.refl true) (Eq.refl true) (Eq.refl true) rfl
theorem dX12_keeper_9 : decode cX12_keeper 9 = .ok (.iload_n 2, 1) := di_28 nX12_keeper (Eq.refl true) (Eq.refl true)
theorem dX12_keeper_10 : decode cX12_keeper 10 = .ok (.iconst 1, 1) := di_4 nX12_keeper (Eq.refl true) (Eq.refl true)
theorem dX12_keeper_11 : decode cX12_keeper 11 = .ok (.bipush 8, 2) := di_16 (x := 8) nX12_keeper (Eq.refl true) (Eq.refl true) rfl
theorem dX12_keeper_13 : decode cX12_keeper 13 = .ok (.invokestatic 136, 3) := di_184 nX12_keeper (Eq.refl true) (Eq.refl true) (Eq.refl true)
theorem dX12_keeper_16 : decode cX12_keeper 16 = .ok (.ifCond .ne 5, 3) := di_154 (x := 5) nX12_keeper (Eq.refl true) (Eq.refl true) (Eq.refl true) rfl
theorem dX12_keeper_19 : decode cX12_keeper 19 = .ok (.iconst (-1), 1) := di_2 nX12_keeper (Eq.refl true) (Eq.refl true)
theorem dX12_keeper_20 : decode cX12_keeper 20 = .ok (.ireturn, 1) := di_172 nX12_keeper (Eq.refl true) (Eq.refl true)
theorem dX12_keeper_21 : decode cX12_keeper 21 = .ok (.aload_n 0, 1) := di_42 nX12_keeper (Eq.refl true) (Eq.refl true)
theorem dX12_keeper_22 : decode cX12_keeper 22 = .ok (.getfield 140, 3) := di_180 nX12_keeper (Eq.refl true) (Eq.refl true) (Eq.refl true)
theorem dX12_keeper_25 : decode cX12_keeper 25 = .ok (.bipush 12, 2) := di_16 (x := 12) nX12_keeper (Eq.refl true) (Eq.refl true) rfl
theorem dX12_keeper_27 : decode cX12_keeper 27 = .ok (.if_icmp .ne 6, 3) := di_160 (x := 6) nX12_keeper (Eq.refl true) (Eq.refl true) (Eq.refl true) rfl
theorem dX12_keeper_33 : decode cX12_keeper 33 = .ok (.aload_n 0, 1) := di_42 nX12_keeper (Eq.refl true) (Eq.refl true)
theorem dX12_keeper_34 : decode cX12_keeper 34 = .ok (.getfield 16, 3) := di_180 nX12_keeper (Eq.refl true) (Eq.refl true) (Eq.refl true)
theorem dX12_keeper_37 : decode cX12_keeper 37 = .ok (.aload_n 0, 1) := di_42 nX12_keeper (Eq.refl true) (Eq.refl true)
theorem dX12_keeper_38 : decode cX12_keeper 38 = .ok (.getfield 140, 3) := di_180 nX12_keeper (Eq.refl true) (Eq.refl true) (Eq.refl true)
theorem dX12_keeper_41 : decode cX12_keeper 41 = .ok (.iload_n 1, 1) := di_27 nX12_keeper (Eq.refl true) (Eq.refl true)
theorem dX12_keeper_42 : decode cX12_keeper 42 = .ok (.iastore, 1) := di_79 nX12_keeper (Eq.refl true) (Eq.refl true)
theorem dX12_keeper_43 : decode cX12_keeper 43 = .ok (.aload_n 0, 1) := di_42 nX12_keeper (Eq.refl true) (Eq.refl true)
theorem dX12_keeper_44 : decode cX12_keeper 44 = .ok (.getfield 19, 3) := di_180 nX12_keeper (Eq.refl true) (Eq.refl true) (Eq.refl true)
theorem dX12_keeper_47 : decode cX12_keeper 47 = .ok (.aload_n 0, 1) := di_42 nX12_keeper (Eq.refl true) (Eq.refl true)
theorem dX12_keeper_48 : decode cX12_keeper 48 = .ok (.getfield 140, 3) := di_180 nX12_keeper (Eq.refl true) (Eq.refl true) (Eq.refl true)
theorem dX12_keeper_51 : decode cX12_keeper 51 = .ok (.iload_n 2, 1) := di_28 nX12_keeper (Eq.refl true) (Eq.refl true)
theorem dX12_keeper_52 : decode cX12_keeper 52 = .ok (.iastore, 1) := di_79 nX12_keeper (Eq.refl true) (Eq.refl true)
theorem dX12_keeper_53 : decode cX12_keeper 53 = .ok (.aload_n 0, 1) := di_42 nX12_keeper (Eq.refl true) (Eq.refl true)
theorem dX12_keeper_54 : decode cX12_keeper 54 = .ok (.dup, 1) := di_89 nX12_keeper (Eq.refl true) (Eq.refl true)
theorem dX12_keeper_55 : decode cX12_keeper 55 = .ok (.getfield 140, 3) := di_180 nX12_keeper (Eq.refl true) (Eq.refl true) (Eq.refl true)
theorem dX12_keeper_58 : decode cX12_keeper 58 = .ok (.iconst 1, 1) := di_4 nX12_keeper (Eq.refl true) (Eq.refl true)
theorem dX12_keeper_59 : decode cX12_keeper 59 = .ok (.iadd, 1) := di_96 nX12_keeper (Eq.refl true) (Eq.refl true)
theorem dX12_keeper_60 : decode cX12_keeper 60 = .ok (.putfield 140, 3) := di_181 nX12_keeper (Eq.refl true) (Eq.refl true) (Eq.refl true)
theorem dX12_keeper_63 : decode cX12_keeper 63 = .ok (.aload_n 0, 1) := di_42 nX12_keeper (Eq.refl true) (Eq.refl true)
theorem dX12_keeper_64 : decode cX12_keeper 64 = .ok (.getfield 140, 3) := di_180 nX12_keeper (Eq.refl true) (Eq.refl true) (Eq.refl true)
theorem dX12_keeper_67 : decode cX12_keeper 67 = .ok (.iconst 1, 1) := di_4 nX12_keeper (Eq.refl true) (Eq.refl true)
theorem dX12_keeper_68 : decode cX12_keeper 68 = .ok (.isub, 1) := di_100 nX12_keeper (Eq.refl true) (Eq.refl true)
theorem dX12_keeper_69 : decode cX12_keeper 69 = .ok (.ireturn, 1) := di_172 nX12_keeper (Eq.refl true) (Eq.refl true)
noncomputable def csX12_become : List (List Cond) := [[Cond.code yX12_become cX12_become 6 (some .int)], [Cond.fieldLink RX12 22 "SeatsRoundModel" "kind" "[I", Cond.fieldLink RX12 74 "SeatsRoundModel" "keptFor" "[I", Cond.fieldLink RX12 68 "SeatsRoundModel" "version" "[I", Cond.fieldLink RX12 71 "SeatsRoundModel" "kept" "[I", Cond.methodLink RX12 166 yX12_isKeeper, Cond.instanceMethod yX12_isKeeper, Cond.selects RX12 yX12_isKeeper yX12_isKeeper, Cond.initialized RX12, Cond.code yX12_isKeeper cX12_isKeeper 2 (some .boolean), Cond.fieldLink RX12 140 "SeatsRoundModel" "keepers" "I", Cond.methodLink RX12 136 yX12_in, Cond.static yX12_in, Cond.code yX12_in cX12_in 3 (some .boolean)], wsX120]
set_option maxRecDepth 20000 in
theorem ciX12_become : ∀ l ∈ csX12_become, ∀ w ∈ l, w ∈ wsX12_become := by
  unfold csX12_become
  refine List.forall_mem_cons.mpr ⟨fun _ h => List.mem_cons.mpr (Or.inl (List.mem_singleton.mp h)), List.forall_mem_cons.mpr ⟨fun _ h => List.mem_cons_of_mem _ (List.mem_append_left _ h), List.forall_mem_cons.mpr ⟨fun _ h => List.mem_cons_of_mem _ (List.mem_append_right _ h), fun l h => absurd h List.not_mem_nil⟩⟩⟩
set_option maxRecDepth 20000 in
theorem ggX12_become_X12_isKeeper : GoodIn wsX12_become wsX12_isKeeper := goodIn_sl csX12_become ciX12_become _ [(1, 8, 4), (1, 7, 1), (1, 12, 1), (2, 0, 59)] rfl gw_wsX12_isKeeper
set_option maxRecDepth 20000 in
theorem gX12_become_X12_isKeeper : GoodIn wsX12_become (wsV RX12 166 RX12 yX12_isKeeper wsX12_isKeeper) := goodIn_app (goodIn_sl csX12_become ciX12_become _ [(1, 4, 4)] rfl rfl) ggX12_become_X12_isKeeper
noncomputable def NX12_become : Nat := 41127791736915636065235078153013514233594924301218084308320556856281196104689432807559710442832528735015694833873985962549383144338147029171963685704360432709165569400381720489162795572743827189512094077806430926472866692320099984352922931336257329393045662563143995886683833724794605313698949344836112968442528000291885505602077810493691027397418
theorem nX12_become : CN cX12_become NX12_become 144 := ⟨by decide +kernel, by decide +kernel⟩
theorem dX12_become_0 : decode cX12_become 0 = .ok (.aload_n 0, 1) := di_42 nX12_become (Eq.refl true) (Eq.refl true)
theorem dX12_become_1 : decode cX12_become 1 = .ok (.iload_n 1, 1) := di_27 nX12_become (Eq.refl true) (Eq.refl true)
theorem dX12_become_2 : decode cX12_become 2 = .ok (.invokevirtual 166, 3) := di_182 nX12_become (Eq.refl true) (Eq.refl true) (Eq.refl true)
theorem dX12_become_5 : decode cX12_become 5 = .ok (.ifCond .eq 13, 3) := di_153 (x := 13) nX12_become (Eq.refl true) (Eq.refl true) (Eq.refl true) rfl
theorem dX12_become_18 : decode cX12_become 18 = .ok (.iconst (-1), 1) := di_2 nX12_become (Eq.refl true) (Eq.refl true)
theorem dX12_become_19 : decode cX12_become 19 = .ok (.ireturn, 1) := di_172 nX12_become (Eq.refl true) (Eq.refl true)
noncomputable def csX12_strength : List (List Cond) := [[Cond.code yX12_strength cX12_strength 4 (some .int)], [Cond.fieldLink RX12 19 "SeatsRoundModel" "strength" "[I", Cond.methodLink RX12 166 yX12_isKeeper, Cond.instanceMethod yX12_isKeeper, Cond.selects RX12 yX12_isKeeper yX12_isKeeper, Cond.initialized RX12, Cond.code yX12_isKeeper cX12_isKeeper 2 (some .boolean), Cond.fieldLink RX12 140 "SeatsRoundModel" "keepers" "I", Cond.methodLink RX12 136 yX12_in, Cond.static yX12_in, Cond.code yX12_in cX12_in 3 (some .boolean)], wsX120]
set_option maxRecDepth 20000 in
theorem ciX12_strength : ∀ l ∈ csX12_strength, ∀ w ∈ l, w ∈ wsX12_strength := by
  unfold csX12_strength
  refine List.forall_mem_cons.mpr ⟨fun _ h => List.mem_cons.mpr (Or.inl (List.mem_singleton.mp h)), List.forall_mem_cons.mpr ⟨fun _ h => List.mem_cons_of_mem _ (List.mem_append_left _ h), List.forall_mem_cons.mpr ⟨fun _ h => List.mem_cons_of_mem _ (List.mem_append_right _ h), fun l h => absurd h List.not_mem_nil⟩⟩⟩
set_option maxRecDepth 20000 in
theorem ggX12_strength_X12_isKeeper : GoodIn wsX12_strength wsX12_isKeeper := goodIn_sl csX12_strength ciX12_strength _ [(1, 5, 4), (1, 4, 1), (1, 9, 1), (2, 0, 59)] rfl gw_wsX12_isKeeper
set_option maxRecDepth 20000 in
theorem gX12_strength_X12_isKeeper : GoodIn wsX12_strength (wsV RX12 166 RX12 yX12_isKeeper wsX12_isKeeper) := goodIn_app (goodIn_sl csX12_strength ciX12_strength _ [(1, 1, 4)] rfl rfl) ggX12_strength_X12_isKeeper
noncomputable def NX12_strength : Nat := 334361462456910102060270338962638607015601543164718258025520195679179919469525083757354
theorem nX12_strength : CN cX12_strength NX12_strength 36 := ⟨by decide +kernel, by decide +kernel⟩
theorem dX12_strength_0 : decode cX12_strength 0 = .ok (.aload_n 0, 1) := di_42 nX12_strength (Eq.refl true) (Eq.refl true)
theorem dX12_strength_1 : decode cX12_strength 1 = .ok (.iload_n 1, 1) := di_27 nX12_strength (Eq.refl true) (Eq.refl true)
theorem dX12_strength_2 : decode cX12_strength 2 = .ok (.invokevirtual 166, 3) := di_182 nX12_strength (Eq.refl true) (Eq.refl true) (Eq.refl true)
theorem dX12_strength_5 : decode cX12_strength 5 = .ok (.ifCond .eq 13, 3) := di_153 (x := 13) nX12_strength (Eq.refl true) (Eq.refl true) (Eq.refl true) rfl
theorem dX12_strength_18 : decode cX12_strength 18 = .ok (.iconst (-1), 1) := di_2 nX12_strength (Eq.refl true) (Eq.refl true)
theorem dX12_strength_19 : decode cX12_strength 19 = .ok (.ireturn, 1) := di_172 nX12_strength (Eq.refl true) (Eq.refl true)
noncomputable def csX12_ofKeeper : List (List Cond) := [[Cond.code yX12_ofKeeper cX12_ofKeeper 3 (some .int)], wsX12_ofKeeper_r1, wsX12_ofKeeper_r2, wsX120]
set_option maxRecDepth 20000 in
theorem ciX12_ofKeeper : ∀ l ∈ csX12_ofKeeper, ∀ w ∈ l, w ∈ wsX12_ofKeeper := by
  unfold csX12_ofKeeper
  refine List.forall_mem_cons.mpr ⟨fun _ h => List.mem_cons.mpr (Or.inl (List.mem_singleton.mp h)), List.forall_mem_cons.mpr ⟨fun _ h => List.mem_cons_of_mem _ (List.mem_append_left _ (List.mem_append_left _ h)), List.forall_mem_cons.mpr ⟨fun _ h => List.mem_cons_of_mem _ (List.mem_append_left _ (List.mem_append_right _ h)), List.forall_mem_cons.mpr ⟨fun _ h => List.mem_cons_of_mem _ (List.mem_append_right _ h), fun l h => absurd h List.not_mem_nil⟩⟩⟩⟩
set_option maxRecDepth 20000 in
theorem ggX12_ofKeeper_X12_isKeeper : GoodIn wsX12_ofKeeper wsX12_isKeeper := goodIn_sl csX12_ofKeeper ciX12_ofKeeper _ [(1, 10, 4), (1, 9, 1), (1, 14, 1), (3, 0, 59)] rfl gw_wsX12_isKeeper
set_option maxRecDepth 20000 in
theorem gX12_ofKeeper_X12_isKeeper : GoodIn wsX12_ofKeeper (wsV RX12 166 RX12 yX12_isKeeper wsX12_isKeeper) := goodIn_app (goodIn_sl csX12_ofKeeper ciX12_ofKeeper _ [(1, 6, 4)] rfl rfl) ggX12_ofKeeper_X12_isKeeper
noncomputable def NX12_ofKeeper : Nat := 1850071488244868756451986104355609048027232549964629550763141829375151892188137589063526598820097336570715169567585186035160014101745998816218708054750370982042929946792870827290751127852978604410469614389026438276695242443849074793986711978427860287972626477156419598709966660307711462482109885314374442
theorem nX12_ofKeeper : CN cX12_ofKeeper NX12_ofKeeper 126 := ⟨by decide +kernel, by decide +kernel⟩
theorem dX12_ofKeeper_0 : decode cX12_ofKeeper 0 = .ok (.aload_n 0, 1) := di_42 nX12_ofKeeper (Eq.refl true) (Eq.refl true)
theorem dX12_ofKeeper_1 : decode cX12_ofKeeper 1 = .ok (.iload_n 1, 1) := di_27 nX12_ofKeeper (Eq.refl true) (Eq.refl true)
theorem dX12_ofKeeper_2 : decode cX12_ofKeeper 2 = .ok (.invokevirtual 166, 3) := di_182 nX12_ofKeeper (Eq.refl true) (Eq.refl true) (Eq.refl true)
theorem dX12_ofKeeper_5 : decode cX12_ofKeeper 5 = .ok (.ifCond .ne 6, 3) := di_154 (x := 6) nX12_ofKeeper (Eq.refl true) (Eq.refl true) (Eq.refl true) rfl
theorem dX12_ofKeeper_8 : decode cX12_ofKeeper 8 = .ok (.ldc 169, 2) := di_18 nX12_ofKeeper (Eq.refl true) (Eq.refl true)
theorem dX12_ofKeeper_10 : decode cX12_ofKeeper 10 = .ok (.ireturn, 1) := di_172 nX12_ofKeeper (Eq.refl true) (Eq.refl true)
noncomputable def NX12_table : Nat := 106202122254082239676982349951175608435238122565136777248541097725731803995018851670881802168760492930833174693068421396961334607871131088302429491475705446817804547507652205437220782332591352424656831002265259977350402871596085358666390907901502299833869080866234966449386367634533654853552192048069326301645191222919917351101953226801340708485810999840346492531830271151237725566088119915166618724396049172052916870873520982632779376586203629421891558635114550304283
theorem nX12_table : CN cX12_table NX12_table 194 := ⟨by decide +kernel, by decide +kernel⟩
theorem dX12_table_0 : decode cX12_table 0 = .ok (.iload_n 1, 1) := di_27 nX12_table (Eq.refl true) (Eq.refl true)
theorem dX12_table_1 : decode cX12_table 1 = .ok (.ifCond .le 13, 3) := di_158 (x := 13) nX12_table (Eq.refl true) (Eq.refl true) (Eq.refl true) rfl
theorem dX12_table_4 : decode cX12_table 4 = .ok (.iload_n 1, 1) := di_27 nX12_table (Eq.refl true) (Eq.refl true)
theorem dX12_table_5 : decode cX12_table 5 = .ok (.iconst 1, 1) := di_4 nX12_table (Eq.refl true) (Eq.refl true)
theorem dX12_table_6 : decode cX12_table 6 = .ok (.aload_n 0, 1) := di_42 nX12_table (Eq.refl true) (Eq.refl true)
theorem dX12_table_7 : decode cX12_table 7 = .ok (.getfield 140, 3) := di_180 nX12_table (Eq.refl true) (Eq.refl true) (Eq.refl true)
theorem dX12_table_10 : decode cX12_table 10 = .ok (.ishl, 1) := di_120 nX12_table (Eq.refl true) (Eq.refl true)
theorem dX12_table_11 : decode cX12_table 11 = .ok (.if_icmp .lt 5, 3) := di_161 (x := 5) nX12_table (Eq.refl true) (Eq.refl true) (Eq.refl true) rfl
theorem dX12_table_14 : decode cX12_table 14 = .ok (.iconst (-1), 1) := di_2 nX12_table (Eq.refl true) (Eq.refl true)
theorem dX12_table_15 : decode cX12_table 15 = .ok (.ireturn, 1) := di_172 nX12_table (Eq.refl true) (Eq.refl true)
noncomputable def csX12_seat : List (List Cond) := [[Cond.code yX12_seat cX12_seat 3 (some .int)], [Cond.fieldLink RX12 62 "SeatsRoundModel" "seats" "[I", Cond.methodLink RX12 266 yX12_isTable, Cond.instanceMethod yX12_isTable, Cond.selects RX12 yX12_isTable yX12_isTable, Cond.initialized RX12, Cond.code yX12_isTable cX12_isTable 2 (some .boolean), Cond.fieldLink RX12 143 "SeatsRoundModel" "tables" "I", Cond.methodLink RX12 136 yX12_in, Cond.static yX12_in, Cond.code yX12_in cX12_in 3 (some .boolean)], wsX120]
set_option maxRecDepth 20000 in
theorem ciX12_seat : ∀ l ∈ csX12_seat, ∀ w ∈ l, w ∈ wsX12_seat := by
  unfold csX12_seat
  refine List.forall_mem_cons.mpr ⟨fun _ h => List.mem_cons.mpr (Or.inl (List.mem_singleton.mp h)), List.forall_mem_cons.mpr ⟨fun _ h => List.mem_cons_of_mem _ (List.mem_append_left _ h), List.forall_mem_cons.mpr ⟨fun _ h => List.mem_cons_of_mem _ (List.mem_append_right _ h), fun l h => absurd h List.not_mem_nil⟩⟩⟩
set_option maxRecDepth 20000 in
theorem ggX12_seat_X12_isTable : GoodIn wsX12_seat wsX12_isTable := goodIn_sl csX12_seat ciX12_seat _ [(1, 5, 4), (1, 4, 1), (1, 9, 1), (2, 0, 59)] rfl gw_wsX12_isTable
set_option maxRecDepth 20000 in
theorem gX12_seat_X12_isTable : GoodIn wsX12_seat (wsV RX12 266 RX12 yX12_isTable wsX12_isTable) := goodIn_app (goodIn_sl csX12_seat ciX12_seat _ [(1, 1, 4)] rfl rfl) ggX12_seat_X12_isTable
noncomputable def NX12_seat : Nat := 125147930347940187345532605289198733044911607739246265793637856588659001680709457762434679929448221255927399296925044972607727690921155370
theorem nX12_seat : CN cX12_seat NX12_seat 57 := ⟨by decide +kernel, by decide +kernel⟩
theorem dX12_seat_0 : decode cX12_seat 0 = .ok (.aload_n 0, 1) := di_42 nX12_seat (Eq.refl true) (Eq.refl true)
theorem dX12_seat_1 : decode cX12_seat 1 = .ok (.iload_n 1, 1) := di_27 nX12_seat (Eq.refl true) (Eq.refl true)
theorem dX12_seat_2 : decode cX12_seat 2 = .ok (.invokevirtual 266, 3) := di_182 nX12_seat (Eq.refl true) (Eq.refl true) (Eq.refl true)
theorem dX12_seat_5 : decode cX12_seat 5 = .ok (.ifCond .eq 14, 3) := di_153 (x := 14) nX12_seat (Eq.refl true) (Eq.refl true) (Eq.refl true) rfl
theorem dX12_seat_19 : decode cX12_seat 19 = .ok (.iconst (-1), 1) := di_2 nX12_seat (Eq.refl true) (Eq.refl true)
theorem dX12_seat_20 : decode cX12_seat 20 = .ok (.goto 36, 3) := di_167 (x := 36) nX12_seat (Eq.refl true) (Eq.refl true) (Eq.refl true) rfl
theorem dX12_seat_56 : decode cX12_seat 56 = .ok (.ireturn, 1) := di_172 nX12_seat (Eq.refl true) (Eq.refl true)
noncomputable def csX12_picked : List (List Cond) := [[Cond.code yX12_picked cX12_picked 4 (some .int)], wsX12_picked_r1, wsX12_picked_r2, wsX120]
set_option maxRecDepth 20000 in
theorem ciX12_picked : ∀ l ∈ csX12_picked, ∀ w ∈ l, w ∈ wsX12_picked := by
  unfold csX12_picked
  refine List.forall_mem_cons.mpr ⟨fun _ h => List.mem_cons.mpr (Or.inl (List.mem_singleton.mp h)), List.forall_mem_cons.mpr ⟨fun _ h => List.mem_cons_of_mem _ (List.mem_append_left _ (List.mem_append_left _ h)), List.forall_mem_cons.mpr ⟨fun _ h => List.mem_cons_of_mem _ (List.mem_append_left _ (List.mem_append_right _ h)), List.forall_mem_cons.mpr ⟨fun _ h => List.mem_cons_of_mem _ (List.mem_append_right _ h), fun l h => absurd h List.not_mem_nil⟩⟩⟩⟩
set_option maxRecDepth 20000 in
theorem ggX12_picked_X12_isTable : GoodIn wsX12_picked wsX12_isTable := goodIn_sl csX12_picked ciX12_picked _ [(1, 6, 4), (1, 5, 1), (1, 10, 1), (3, 0, 59)] rfl gw_wsX12_isTable
set_option maxRecDepth 20000 in
theorem gX12_picked_X12_isTable : GoodIn wsX12_picked (wsV RX12 266 RX12 yX12_isTable wsX12_isTable) := goodIn_app (goodIn_sl csX12_picked ciX12_picked _ [(1, 2, 4)] rfl rfl) ggX12_picked_X12_isTable
noncomputable def NX12_picked : Nat := 113706831505064656052280881211040790214654396425753770860674505717273921074043827047328776606275082983302456322399714053331754
theorem nX12_picked : CN cX12_picked NX12_picked 52 := ⟨by decide +kernel, by decide +kernel⟩
theorem dX12_picked_0 : decode cX12_picked 0 = .ok (.aload_n 0, 1) := di_42 nX12_picked (Eq.refl true) (Eq.refl true)
theorem dX12_picked_1 : decode cX12_picked 1 = .ok (.iload_n 1, 1) := di_27 nX12_picked (Eq.refl true) (Eq.refl true)
theorem dX12_picked_2 : decode cX12_picked 2 = .ok (.invokevirtual 266, 3) := di_182 nX12_picked (Eq.refl true) (Eq.refl true) (Eq.refl true)
theorem dX12_picked_5 : decode cX12_picked 5 = .ok (.ifCond .eq 14, 3) := di_153 (x := 14) nX12_picked (Eq.refl true) (Eq.refl true) (Eq.refl true) rfl
theorem dX12_picked_19 : decode cX12_picked 19 = .ok (.iconst (-1), 1) := di_2 nX12_picked (Eq.refl true) (Eq.refl true)
theorem dX12_picked_20 : decode cX12_picked 20 = .ok (.ireturn, 1) := di_172 nX12_picked (Eq.refl true) (Eq.refl true)
noncomputable def csX12_keeperOf : List (List Cond) := [[Cond.code yX12_keeperOf cX12_keeperOf 4 (some .int)], wsX12_keeperOf_r1, wsX12_keeperOf_r2, wsX12_keeperOf_r3, wsX120]
set_option maxRecDepth 20000 in
theorem ciX12_keeperOf : ∀ l ∈ csX12_keeperOf, ∀ w ∈ l, w ∈ wsX12_keeperOf := by
  unfold csX12_keeperOf
  refine List.forall_mem_cons.mpr ⟨fun _ h => List.mem_cons.mpr (Or.inl (List.mem_singleton.mp h)), List.forall_mem_cons.mpr ⟨fun _ h => List.mem_cons_of_mem _ (List.mem_append_left _ (List.mem_append_left _ h)), List.forall_mem_cons.mpr ⟨fun _ h => List.mem_cons_of_mem _ (List.mem_append_left _ (List.mem_append_right _ (List.mem_append_left _ h))), List.forall_mem_cons.mpr ⟨fun _ h => List.mem_cons_of_mem _ (List.mem_append_left _ (List.mem_append_right _ (List.mem_append_right _ h))), List.forall_mem_cons.mpr ⟨fun _ h => List.mem_cons_of_mem _ (List.mem_append_right _ h), fun l h => absurd h List.not_mem_nil⟩⟩⟩⟩⟩
set_option maxRecDepth 20000 in
theorem ggX12_keeperOf_X12_isTable : GoodIn wsX12_keeperOf wsX12_isTable := goodIn_sl csX12_keeperOf ciX12_keeperOf _ [(1, 6, 4), (1, 5, 1), (1, 10, 1), (4, 0, 59)] rfl gw_wsX12_isTable
set_option maxRecDepth 20000 in
theorem gX12_keeperOf_X12_isTable : GoodIn wsX12_keeperOf (wsV RX12 266 RX12 yX12_isTable wsX12_isTable) := goodIn_app (goodIn_sl csX12_keeperOf ciX12_keeperOf _ [(1, 2, 4)] rfl rfl) ggX12_keeperOf_X12_isTable
noncomputable def NX12_keeperOf : Nat := 536965329972823546897035583111238339276206431062891212798558193044764898425736479244303912866727142138159782674187581367574998501990494915416955690
theorem nX12_keeperOf : CN cX12_keeperOf NX12_keeperOf 61 := ⟨by decide +kernel, by decide +kernel⟩
theorem dX12_keeperOf_0 : decode cX12_keeperOf 0 = .ok (.aload_n 0, 1) := di_42 nX12_keeperOf (Eq.refl true) (Eq.refl true)
theorem dX12_keeperOf_1 : decode cX12_keeperOf 1 = .ok (.iload_n 1, 1) := di_27 nX12_keeperOf (Eq.refl true) (Eq.refl true)
theorem dX12_keeperOf_2 : decode cX12_keeperOf 2 = .ok (.invokevirtual 266, 3) := di_182 nX12_keeperOf (Eq.refl true) (Eq.refl true) (Eq.refl true)
theorem dX12_keeperOf_5 : decode cX12_keeperOf 5 = .ok (.ifCond .eq 11, 3) := di_153 (x := 11) nX12_keeperOf (Eq.refl true) (Eq.refl true) (Eq.refl true) rfl
theorem dX12_keeperOf_16 : decode cX12_keeperOf 16 = .ok (.iconst (-1), 1) := di_2 nX12_keeperOf (Eq.refl true) (Eq.refl true)
theorem dX12_keeperOf_17 : decode cX12_keeperOf 17 = .ok (.ireturn, 1) := di_172 nX12_keeperOf (Eq.refl true) (Eq.refl true)
noncomputable def csX12_tooFew : List (List Cond) := [[Cond.code yX12_tooFew cX12_tooFew 4 (some .int)], wsX12_tooFew_r1, wsX12_tooFew_r2, wsX12_tooFew_r3, wsX120]
set_option maxRecDepth 20000 in
theorem ciX12_tooFew : ∀ l ∈ csX12_tooFew, ∀ w ∈ l, w ∈ wsX12_tooFew := by
  unfold csX12_tooFew
  refine List.forall_mem_cons.mpr ⟨fun _ h => List.mem_cons.mpr (Or.inl (List.mem_singleton.mp h)), List.forall_mem_cons.mpr ⟨fun _ h => List.mem_cons_of_mem _ (List.mem_append_left _ (List.mem_append_left _ h)), List.forall_mem_cons.mpr ⟨fun _ h => List.mem_cons_of_mem _ (List.mem_append_left _ (List.mem_append_right _ (List.mem_append_left _ h))), List.forall_mem_cons.mpr ⟨fun _ h => List.mem_cons_of_mem _ (List.mem_append_left _ (List.mem_append_right _ (List.mem_append_right _ h))), List.forall_mem_cons.mpr ⟨fun _ h => List.mem_cons_of_mem _ (List.mem_append_right _ h), fun l h => absurd h List.not_mem_nil⟩⟩⟩⟩⟩
set_option maxRecDepth 20000 in
theorem ggX12_tooFew_X12_isTable : GoodIn wsX12_tooFew wsX12_isTable := goodIn_sl csX12_tooFew ciX12_tooFew _ [(1, 6, 4), (1, 5, 1), (1, 10, 1), (4, 0, 59)] rfl gw_wsX12_isTable
set_option maxRecDepth 20000 in
theorem gX12_tooFew_X12_isTable : GoodIn wsX12_tooFew (wsV RX12 266 RX12 yX12_isTable wsX12_isTable) := goodIn_app (goodIn_sl csX12_tooFew ciX12_tooFew _ [(1, 2, 4)] rfl rfl) ggX12_tooFew_X12_isTable
noncomputable def NX12_tooFew : Nat := 32025133137210025336931167587364914545845775670364541802543524206211362027299860049888692492509831721426054791617420566148999975056218397482
theorem nX12_tooFew : CN cX12_tooFew NX12_tooFew 58 := ⟨by decide +kernel, by decide +kernel⟩
theorem dX12_tooFew_0 : decode cX12_tooFew 0 = .ok (.aload_n 0, 1) := di_42 nX12_tooFew (Eq.refl true) (Eq.refl true)
theorem dX12_tooFew_1 : decode cX12_tooFew 1 = .ok (.iload_n 1, 1) := di_27 nX12_tooFew (Eq.refl true) (Eq.refl true)
theorem dX12_tooFew_2 : decode cX12_tooFew 2 = .ok (.invokevirtual 266, 3) := di_182 nX12_tooFew (Eq.refl true) (Eq.refl true) (Eq.refl true)
theorem dX12_tooFew_5 : decode cX12_tooFew 5 = .ok (.ifCond .ne 5, 3) := di_154 (x := 5) nX12_tooFew (Eq.refl true) (Eq.refl true) (Eq.refl true) rfl
theorem dX12_tooFew_8 : decode cX12_tooFew 8 = .ok (.iconst (-1), 1) := di_2 nX12_tooFew (Eq.refl true) (Eq.refl true)
theorem dX12_tooFew_9 : decode cX12_tooFew 9 = .ok (.ireturn, 1) := di_172 nX12_tooFew (Eq.refl true) (Eq.refl true)
noncomputable def csX12_share : List (List Cond) := [[Cond.code yX12_share cX12_share 4 (some .int)], wsX12_share_r1, wsX12_share_r2, wsX12_share_r3, wsX120]
set_option maxRecDepth 20000 in
theorem ciX12_share : ∀ l ∈ csX12_share, ∀ w ∈ l, w ∈ wsX12_share := by
  unfold csX12_share
  refine List.forall_mem_cons.mpr ⟨fun _ h => List.mem_cons.mpr (Or.inl (List.mem_singleton.mp h)), List.forall_mem_cons.mpr ⟨fun _ h => List.mem_cons_of_mem _ (List.mem_append_left _ (List.mem_append_left _ h)), List.forall_mem_cons.mpr ⟨fun _ h => List.mem_cons_of_mem _ (List.mem_append_left _ (List.mem_append_right _ (List.mem_append_left _ h))), List.forall_mem_cons.mpr ⟨fun _ h => List.mem_cons_of_mem _ (List.mem_append_left _ (List.mem_append_right _ (List.mem_append_right _ h))), List.forall_mem_cons.mpr ⟨fun _ h => List.mem_cons_of_mem _ (List.mem_append_right _ h), fun l h => absurd h List.not_mem_nil⟩⟩⟩⟩⟩
set_option maxRecDepth 20000 in
theorem ggX12_share_X12_isTable : GoodIn wsX12_share wsX12_isTable := goodIn_sl csX12_share ciX12_share _ [(1, 5, 4), (1, 4, 1), (1, 9, 1), (4, 0, 59)] rfl gw_wsX12_isTable
set_option maxRecDepth 20000 in
theorem gX12_share_X12_isTable : GoodIn wsX12_share (wsV RX12 266 RX12 yX12_isTable wsX12_isTable) := goodIn_app (goodIn_sl csX12_share ciX12_share _ [(1, 1, 4)] rfl rfl) ggX12_share_X12_isTable
noncomputable def NX12_share : Nat := 1736766013272892159710173623979155339409917432923318207418723096731366506464111303750022960844722104442915514746102225706
theorem nX12_share : CN cX12_share NX12_share 50 := ⟨by decide +kernel, by decide +kernel⟩
theorem dX12_share_0 : decode cX12_share 0 = .ok (.aload_n 0, 1) := di_42 nX12_share (Eq.refl true) (Eq.refl true)
theorem dX12_share_1 : decode cX12_share 1 = .ok (.iload_n 1, 1) := di_27 nX12_share (Eq.refl true) (Eq.refl true)
theorem dX12_share_2 : decode cX12_share 2 = .ok (.invokevirtual 266, 3) := di_182 nX12_share (Eq.refl true) (Eq.refl true) (Eq.refl true)
theorem dX12_share_5 : decode cX12_share 5 = .ok (.ifCond .eq 20, 3) := di_153 (x := 20) nX12_share (Eq.refl true) (Eq.refl true) (Eq.refl true) rfl
theorem dX12_share_25 : decode cX12_share 25 = .ok (.iconst (-1), 1) := di_2 nX12_share (Eq.refl true) (Eq.refl true)
theorem dX12_share_26 : decode cX12_share 26 = .ok (.ireturn, 1) := di_172 nX12_share (Eq.refl true) (Eq.refl true)
noncomputable def csX12_ofTable : List (List Cond) := [[Cond.code yX12_ofTable cX12_ofTable 3 (some .int)], wsX12_ofTable_r1, wsX12_ofTable_r2, wsX12_ofTable_r3, wsX120]
set_option maxRecDepth 20000 in
theorem ciX12_ofTable : ∀ l ∈ csX12_ofTable, ∀ w ∈ l, w ∈ wsX12_ofTable := by
  unfold csX12_ofTable
  refine List.forall_mem_cons.mpr ⟨fun _ h => List.mem_cons.mpr (Or.inl (List.mem_singleton.mp h)), List.forall_mem_cons.mpr ⟨fun _ h => List.mem_cons_of_mem _ (List.mem_append_left _ (List.mem_append_left _ h)), List.forall_mem_cons.mpr ⟨fun _ h => List.mem_cons_of_mem _ (List.mem_append_left _ (List.mem_append_right _ (List.mem_append_left _ h))), List.forall_mem_cons.mpr ⟨fun _ h => List.mem_cons_of_mem _ (List.mem_append_left _ (List.mem_append_right _ (List.mem_append_right _ h))), List.forall_mem_cons.mpr ⟨fun _ h => List.mem_cons_of_mem _ (List.mem_append_right _ h), fun l h => absurd h List.not_mem_nil⟩⟩⟩⟩⟩
set_option maxRecDepth 20000 in
theorem ggX12_ofTable_X12_isTable : GoodIn wsX12_ofTable wsX12_isTable := goodIn_sl csX12_ofTable ciX12_ofTable _ [(1, 9, 4), (1, 8, 1), (1, 13, 1), (4, 0, 59)] rfl gw_wsX12_isTable
set_option maxRecDepth 20000 in
theorem gX12_ofTable_X12_isTable : GoodIn wsX12_ofTable (wsV RX12 266 RX12 yX12_isTable wsX12_isTable) := goodIn_app (goodIn_sl csX12_ofTable ciX12_ofTable _ [(1, 5, 4)] rfl rfl) ggX12_ofTable_X12_isTable
noncomputable def NX12_ofTable : Nat := 948749763415732965707219897011965259724450876168707832497398874609889473391427315460608991105936011119121632052151827720678919925627507812572709163485038810631571790175824385743947779249746029158345527273055411647159082
theorem nX12_ofTable : CN cX12_ofTable NX12_ofTable 91 := ⟨by decide +kernel, by decide +kernel⟩
theorem dX12_ofTable_0 : decode cX12_ofTable 0 = .ok (.aload_n 0, 1) := di_42 nX12_ofTable (Eq.refl true) (Eq.refl true)
theorem dX12_ofTable_1 : decode cX12_ofTable 1 = .ok (.iload_n 1, 1) := di_27 nX12_ofTable (Eq.refl true) (Eq.refl true)
theorem dX12_ofTable_2 : decode cX12_ofTable 2 = .ok (.invokevirtual 266, 3) := di_182 nX12_ofTable (Eq.refl true) (Eq.refl true) (Eq.refl true)
theorem dX12_ofTable_5 : decode cX12_ofTable 5 = .ok (.ifCond .ne 5, 3) := di_154 (x := 5) nX12_ofTable (Eq.refl true) (Eq.refl true) (Eq.refl true) rfl
theorem dX12_ofTable_8 : decode cX12_ofTable 8 = .ok (.iconst (-1), 1) := di_2 nX12_ofTable (Eq.refl true) (Eq.refl true)
theorem dX12_ofTable_9 : decode cX12_ofTable 9 = .ok (.ireturn, 1) := di_172 nX12_ofTable (Eq.refl true) (Eq.refl true)
noncomputable def csX12_moves : List (List Cond) := [[Cond.code yX12_moves cX12_moves 10 (some .int)], wsX12_moves_r1, wsX12_moves_r2, wsX12_moves_r3, wsX12_moves_r4, wsX120]
set_option maxRecDepth 20000 in
theorem ciX12_moves : ∀ l ∈ csX12_moves, ∀ w ∈ l, w ∈ wsX12_moves := by
  unfold csX12_moves
  refine List.forall_mem_cons.mpr ⟨fun _ h => List.mem_cons.mpr (Or.inl (List.mem_singleton.mp h)), List.forall_mem_cons.mpr ⟨fun _ h => List.mem_cons_of_mem _ (List.mem_append_left _ (List.mem_append_left _ h)), List.forall_mem_cons.mpr ⟨fun _ h => List.mem_cons_of_mem _ (List.mem_append_left _ (List.mem_append_right _ (List.mem_append_left _ h))), List.forall_mem_cons.mpr ⟨fun _ h => List.mem_cons_of_mem _ (List.mem_append_left _ (List.mem_append_right _ (List.mem_append_right _ (List.mem_append_left _ h)))), List.forall_mem_cons.mpr ⟨fun _ h => List.mem_cons_of_mem _ (List.mem_append_left _ (List.mem_append_right _ (List.mem_append_right _ (List.mem_append_right _ h)))), List.forall_mem_cons.mpr ⟨fun _ h => List.mem_cons_of_mem _ (List.mem_append_right _ h), fun l h => absurd h List.not_mem_nil⟩⟩⟩⟩⟩⟩
set_option maxRecDepth 20000 in
theorem ggX12_moves_X12_isTable : GoodIn wsX12_moves wsX12_isTable := goodIn_sl csX12_moves ciX12_moves _ [(1, 7, 4), (1, 6, 1), (1, 11, 1), (5, 0, 59)] rfl gw_wsX12_isTable
set_option maxRecDepth 20000 in
theorem gX12_moves_X12_isTable : GoodIn wsX12_moves (wsV RX12 266 RX12 yX12_isTable wsX12_isTable) := goodIn_app (goodIn_sl csX12_moves ciX12_moves _ [(1, 3, 4)] rfl rfl) ggX12_moves_X12_isTable
noncomputable def NX12_moves : Nat := 2367124564823245610161353194761306715754708196551604313249699589936709723280614566393778542830242864792798880265762816059383625393359357668313571669150227457873985199721958063098169435554625234937187932185014378252325977263280681496120052276611357109773531668372081568604640660380464672559248655015417109909727970406379725652794583094576045657389455935788360246692733247746860728242483401376311812788518824406690096983519369891346195538496337552482836076819587408325914591485307163794344681144561147243874622250
theorem nX12_moves : CN cX12_moves NX12_moves 212 := ⟨by decide +kernel, by decide +kernel⟩
theorem dX12_moves_0 : decode cX12_moves 0 = .ok (.aload_n 0, 1) := di_42 nX12_moves (Eq.refl true) (Eq.refl true)
theorem dX12_moves_1 : decode cX12_moves 1 = .ok (.iload_n 1, 1) := di_27 nX12_moves (Eq.refl true) (Eq.refl true)
theorem dX12_moves_2 : decode cX12_moves 2 = .ok (.invokevirtual 266, 3) := di_182 nX12_moves (Eq.refl true) (Eq.refl true) (Eq.refl true)
theorem dX12_moves_5 : decode cX12_moves 5 = .ok (.ifCond .eq 20, 3) := di_153 (x := 20) nX12_moves (Eq.refl true) (Eq.refl true) (Eq.refl true) rfl
theorem dX12_moves_25 : decode cX12_moves 25 = .ok (.iconst (-1), 1) := di_2 nX12_moves (Eq.refl true) (Eq.refl true)
theorem dX12_moves_26 : decode cX12_moves 26 = .ok (.ireturn, 1) := di_172 nX12_moves (Eq.refl true) (Eq.refl true)
noncomputable def csX12_knows : List (List Cond) := [[Cond.code yX12_knows cX12_knows 4 (some .int)], [Cond.fieldLink RX12 143 "SeatsRoundModel" "tables" "I", Cond.constant RX12 169 (-2000000000), Cond.fieldLink RX12 25 "SeatsRoundModel" "known" "[I", Cond.methodLink RX12 166 yX12_isKeeper, Cond.instanceMethod yX12_isKeeper, Cond.selects RX12 yX12_isKeeper yX12_isKeeper, Cond.initialized RX12, Cond.code yX12_isKeeper cX12_isKeeper 2 (some .boolean), Cond.fieldLink RX12 140 "SeatsRoundModel" "keepers" "I", Cond.methodLink RX12 136 yX12_in, Cond.static yX12_in, Cond.code yX12_in cX12_in 3 (some .boolean)], wsX120]
set_option maxRecDepth 20000 in
theorem ciX12_knows : ∀ l ∈ csX12_knows, ∀ w ∈ l, w ∈ wsX12_knows := by
  unfold csX12_knows
  refine List.forall_mem_cons.mpr ⟨fun _ h => List.mem_cons.mpr (Or.inl (List.mem_singleton.mp h)), List.forall_mem_cons.mpr ⟨fun _ h => List.mem_cons_of_mem _ (List.mem_append_left _ h), List.forall_mem_cons.mpr ⟨fun _ h => List.mem_cons_of_mem _ (List.mem_append_right _ h), fun l h => absurd h List.not_mem_nil⟩⟩⟩
set_option maxRecDepth 20000 in
theorem ggX12_knows_X12_isKeeper : GoodIn wsX12_knows wsX12_isKeeper := goodIn_sl csX12_knows ciX12_knows _ [(1, 7, 4), (1, 6, 1), (1, 11, 1), (2, 0, 59)] rfl gw_wsX12_isKeeper
set_option maxRecDepth 20000 in
theorem gX12_knows_X12_isKeeper : GoodIn wsX12_knows (wsV RX12 166 RX12 yX12_isKeeper wsX12_isKeeper) := goodIn_app (goodIn_sl csX12_knows ciX12_knows _ [(1, 3, 4)] rfl rfl) ggX12_knows_X12_isKeeper
noncomputable def NX12_knows : Nat := 367634315851572794588939486026009326499193167180322476555745418045811018369898401044612537174596394
theorem nX12_knows : CN cX12_knows NX12_knows 41 := ⟨by decide +kernel, by decide +kernel⟩
theorem dX12_knows_0 : decode cX12_knows 0 = .ok (.aload_n 0, 1) := di_42 nX12_knows (Eq.refl true) (Eq.refl true)
theorem dX12_knows_1 : decode cX12_knows 1 = .ok (.iload_n 1, 1) := di_27 nX12_knows (Eq.refl true) (Eq.refl true)
theorem dX12_knows_2 : decode cX12_knows 2 = .ok (.invokevirtual 166, 3) := di_182 nX12_knows (Eq.refl true) (Eq.refl true) (Eq.refl true)
theorem dX12_knows_5 : decode cX12_knows 5 = .ok (.ifCond .eq 17, 3) := di_153 (x := 17) nX12_knows (Eq.refl true) (Eq.refl true) (Eq.refl true) rfl
theorem dX12_knows_22 : decode cX12_knows 22 = .ok (.ldc 169, 2) := di_18 nX12_knows (Eq.refl true) (Eq.refl true)
theorem dX12_knows_24 : decode cX12_knows 24 = .ok (.ireturn, 1) := di_172 nX12_knows (Eq.refl true) (Eq.refl true)
noncomputable def csX12_write : List (List Cond) := [[Cond.code yX12_write cX12_write 7 (some .int)], wsX12_write_r1, wsX12_write_r2, wsX12_write_r3, wsX12_write_r4, wsX12_write_r5, wsX120]
set_option maxRecDepth 20000 in
theorem ciX12_write : ∀ l ∈ csX12_write, ∀ w ∈ l, w ∈ wsX12_write := by
  unfold csX12_write
  refine List.forall_mem_cons.mpr ⟨fun _ h => List.mem_cons.mpr (Or.inl (List.mem_singleton.mp h)), List.forall_mem_cons.mpr ⟨fun _ h => List.mem_cons_of_mem _ (List.mem_append_left _ (List.mem_append_left _ h)), List.forall_mem_cons.mpr ⟨fun _ h => List.mem_cons_of_mem _ (List.mem_append_left _ (List.mem_append_right _ (List.mem_append_left _ h))), List.forall_mem_cons.mpr ⟨fun _ h => List.mem_cons_of_mem _ (List.mem_append_left _ (List.mem_append_right _ (List.mem_append_right _ (List.mem_append_left _ h)))), List.forall_mem_cons.mpr ⟨fun _ h => List.mem_cons_of_mem _ (List.mem_append_left _ (List.mem_append_right _ (List.mem_append_right _ (List.mem_append_right _ (List.mem_append_left _ h))))), List.forall_mem_cons.mpr ⟨fun _ h => List.mem_cons_of_mem _ (List.mem_append_left _ (List.mem_append_right _ (List.mem_append_right _ (List.mem_append_right _ (List.mem_append_right _ h))))), List.forall_mem_cons.mpr ⟨fun _ h => List.mem_cons_of_mem _ (List.mem_append_right _ h), fun l h => absurd h List.not_mem_nil⟩⟩⟩⟩⟩⟩⟩
set_option maxRecDepth 20000 in
theorem ggX12_write_X12_isKeeper : GoodIn wsX12_write wsX12_isKeeper := goodIn_sl csX12_write ciX12_write _ [(1, 12, 4), (1, 11, 1), (1, 16, 1), (6, 0, 59)] rfl gw_wsX12_isKeeper
set_option maxRecDepth 20000 in
theorem gX12_write_X12_isKeeper : GoodIn wsX12_write (wsV RX12 166 RX12 yX12_isKeeper wsX12_isKeeper) := goodIn_app (goodIn_sl csX12_write ciX12_write _ [(1, 8, 4)] rfl rfl) ggX12_write_X12_isKeeper
noncomputable def NX12_write : Nat := 87797547110371011586537817785150075535818201509928068099515130435980203116899949183769115644469762456805012388474616878507433987716936661465522025518032237978982563190627732396759651045712099724297477611270740398042878576736757800458209194923003331262233009385306748636286532649346047369213612015517421589038048329535236760025910397864523481869899500086257002141610184002795317291648960447817018126840560119532627145382228069171484193770052394
theorem nX12_write : CN cX12_write NX12_write 184 := ⟨by decide +kernel, by decide +kernel⟩
theorem dX12_write_0 : decode cX12_write 0 = .ok (.aload_n 0, 1) := di_42 nX12_write (Eq.refl true) (Eq.refl true)
theorem dX12_write_1 : decode cX12_write 1 = .ok (.iload_n 1, 1) := di_27 nX12_write (Eq.refl true) (Eq.refl true)
theorem dX12_write_2 : decode cX12_write 2 = .ok (.invokevirtual 166, 3) := di_182 nX12_write (Eq.refl true) (Eq.refl true) (Eq.refl true)
theorem dX12_write_5 : decode cX12_write 5 = .ok (.ifCond .eq 11, 3) := di_153 (x := 11) nX12_write (Eq.refl true) (Eq.refl true) (Eq.refl true) rfl
theorem dX12_write_16 : decode cX12_write 16 = .ok (.iconst (-1), 1) := di_2 nX12_write (Eq.refl true) (Eq.refl true)
theorem dX12_write_17 : decode cX12_write 17 = .ok (.ireturn, 1) := di_172 nX12_write (Eq.refl true) (Eq.refl true)
noncomputable def csX12_read : List (List Cond) := [[Cond.code yX12_read cX12_read 6 (some .int)], wsX12_read_r1, wsX12_read_r2, wsX12_read_r3, wsX12_read_r4, wsX120]
set_option maxRecDepth 20000 in
theorem ciX12_read : ∀ l ∈ csX12_read, ∀ w ∈ l, w ∈ wsX12_read := by
  unfold csX12_read
  refine List.forall_mem_cons.mpr ⟨fun _ h => List.mem_cons.mpr (Or.inl (List.mem_singleton.mp h)), List.forall_mem_cons.mpr ⟨fun _ h => List.mem_cons_of_mem _ (List.mem_append_left _ (List.mem_append_left _ h)), List.forall_mem_cons.mpr ⟨fun _ h => List.mem_cons_of_mem _ (List.mem_append_left _ (List.mem_append_right _ (List.mem_append_left _ h))), List.forall_mem_cons.mpr ⟨fun _ h => List.mem_cons_of_mem _ (List.mem_append_left _ (List.mem_append_right _ (List.mem_append_right _ (List.mem_append_left _ h)))), List.forall_mem_cons.mpr ⟨fun _ h => List.mem_cons_of_mem _ (List.mem_append_left _ (List.mem_append_right _ (List.mem_append_right _ (List.mem_append_right _ h)))), List.forall_mem_cons.mpr ⟨fun _ h => List.mem_cons_of_mem _ (List.mem_append_right _ h), fun l h => absurd h List.not_mem_nil⟩⟩⟩⟩⟩⟩
set_option maxRecDepth 20000 in
theorem ggX12_read_X12_isKeeper : GoodIn wsX12_read wsX12_isKeeper := goodIn_sl csX12_read ciX12_read _ [(1, 8, 4), (1, 7, 1), (1, 12, 1), (5, 0, 59)] rfl gw_wsX12_isKeeper
set_option maxRecDepth 20000 in
theorem gX12_read_X12_isKeeper : GoodIn wsX12_read (wsV RX12 166 RX12 yX12_isKeeper wsX12_isKeeper) := goodIn_app (goodIn_sl csX12_read ciX12_read _ [(1, 4, 4)] rfl rfl) ggX12_read_X12_isKeeper
noncomputable def NX12_read : Nat := 1677326967941436396106355700004044212205459330922872376342353268279922765762460707054355257722883771391131184909490696540968472788627945745722062662091244397128697910811862484280539681274268151668429547597956760222823817926064049673716255699256854850394815533662149086666356083284988310985514
theorem nX12_read : CN cX12_read NX12_read 121 := ⟨by decide +kernel, by decide +kernel⟩
theorem dX12_read_0 : decode cX12_read 0 = .ok (.aload_n 0, 1) := di_42 nX12_read (Eq.refl true) (Eq.refl true)
theorem dX12_read_1 : decode cX12_read 1 = .ok (.iload_n 1, 1) := di_27 nX12_read (Eq.refl true) (Eq.refl true)
theorem dX12_read_2 : decode cX12_read 2 = .ok (.invokevirtual 166, 3) := di_182 nX12_read (Eq.refl true) (Eq.refl true) (Eq.refl true)
theorem dX12_read_5 : decode cX12_read 5 = .ok (.ifCond .eq 11, 3) := di_153 (x := 11) nX12_read (Eq.refl true) (Eq.refl true) (Eq.refl true) rfl
theorem dX12_read_16 : decode cX12_read 16 = .ok (.iconst (-1), 1) := di_2 nX12_read (Eq.refl true) (Eq.refl true)
theorem dX12_read_17 : decode cX12_read 17 = .ok (.ireturn, 1) := di_172 nX12_read (Eq.refl true) (Eq.refl true)
noncomputable def csX12_onShelf : List (List Cond) := [[Cond.code yX12_onShelf cX12_onShelf 5 (some .int)], [Cond.fieldLink RX12 68 "SeatsRoundModel" "version" "[I", Cond.fieldLink RX12 71 "SeatsRoundModel" "kept" "[I", Cond.fieldLink RX12 74 "SeatsRoundModel" "keptFor" "[I", Cond.fieldLink RX12 77 "SeatsRoundModel" "pieces" "[I", Cond.methodLink RX12 166 yX12_isKeeper, Cond.instanceMethod yX12_isKeeper, Cond.selects RX12 yX12_isKeeper yX12_isKeeper, Cond.initialized RX12, Cond.code yX12_isKeeper cX12_isKeeper 2 (some .boolean), Cond.fieldLink RX12 140 "SeatsRoundModel" "keepers" "I", Cond.methodLink RX12 136 yX12_in, Cond.static yX12_in, Cond.code yX12_in cX12_in 3 (some .boolean), Cond.methodLink RX12 158 yX12_isName, Cond.instanceMethod yX12_isName, Cond.selects RX12 yX12_isName yX12_isName, Cond.code yX12_isName cX12_isName 2 (some .boolean), Cond.fieldLink RX12 133 "SeatsRoundModel" "names" "I"], wsX120]
set_option maxRecDepth 20000 in
theorem ciX12_onShelf : ∀ l ∈ csX12_onShelf, ∀ w ∈ l, w ∈ wsX12_onShelf := by
  unfold csX12_onShelf
  refine List.forall_mem_cons.mpr ⟨fun _ h => List.mem_cons.mpr (Or.inl (List.mem_singleton.mp h)), List.forall_mem_cons.mpr ⟨fun _ h => List.mem_cons_of_mem _ (List.mem_append_left _ h), List.forall_mem_cons.mpr ⟨fun _ h => List.mem_cons_of_mem _ (List.mem_append_right _ h), fun l h => absurd h List.not_mem_nil⟩⟩⟩
set_option maxRecDepth 20000 in
theorem ggX12_onShelf_X12_isKeeper : GoodIn wsX12_onShelf wsX12_isKeeper := goodIn_sl csX12_onShelf ciX12_onShelf _ [(1, 8, 4), (1, 7, 1), (1, 12, 1), (2, 0, 59)] rfl gw_wsX12_isKeeper
set_option maxRecDepth 20000 in
theorem gX12_onShelf_X12_isKeeper : GoodIn wsX12_onShelf (wsV RX12 166 RX12 yX12_isKeeper wsX12_isKeeper) := goodIn_app (goodIn_sl csX12_onShelf ciX12_onShelf _ [(1, 4, 4)] rfl rfl) ggX12_onShelf_X12_isKeeper
noncomputable def NX12_onShelf : Nat := 220894724398441469409838663568233847772065506873375249231814935177543125097815621065376832242780236704862356061011848308569923388109492853936340955962671460413525441941504644013838696672384541390319216665959210
theorem nX12_onShelf : CN cX12_onShelf NX12_onShelf 87 := ⟨by decide +kernel, by decide +kernel⟩
theorem dX12_onShelf_0 : decode cX12_onShelf 0 = .ok (.aload_n 0, 1) := di_42 nX12_onShelf (Eq.refl true) (Eq.refl true)
theorem dX12_onShelf_1 : decode cX12_onShelf 1 = .ok (.iload_n 1, 1) := di_27 nX12_onShelf (Eq.refl true) (Eq.refl true)
theorem dX12_onShelf_2 : decode cX12_onShelf 2 = .ok (.invokevirtual 166, 3) := di_182 nX12_onShelf (Eq.refl true) (Eq.refl true) (Eq.refl true)
theorem dX12_onShelf_5 : decode cX12_onShelf 5 = .ok (.ifCond .eq 11, 3) := di_153 (x := 11) nX12_onShelf (Eq.refl true) (Eq.refl true) (Eq.refl true) rfl
theorem dX12_onShelf_16 : decode cX12_onShelf 16 = .ok (.iconst (-1), 1) := di_2 nX12_onShelf (Eq.refl true) (Eq.refl true)
theorem dX12_onShelf_17 : decode cX12_onShelf 17 = .ok (.ireturn, 1) := di_172 nX12_onShelf (Eq.refl true) (Eq.refl true)
noncomputable def csX12_fall : List (List Cond) := [[Cond.code yX12_fall cX12_fall 5 (some .int)], [Cond.fieldLink RX12 28 "SeatsRoundModel" "isFallen" "[Z", Cond.fieldLink RX12 68 "SeatsRoundModel" "version" "[I", Cond.fieldLink RX12 71 "SeatsRoundModel" "kept" "[I", Cond.fieldLink RX12 74 "SeatsRoundModel" "keptFor" "[I", Cond.methodLink RX12 166 yX12_isKeeper, Cond.instanceMethod yX12_isKeeper, Cond.selects RX12 yX12_isKeeper yX12_isKeeper, Cond.initialized RX12, Cond.code yX12_isKeeper cX12_isKeeper 2 (some .boolean), Cond.fieldLink RX12 140 "SeatsRoundModel" "keepers" "I", Cond.methodLink RX12 136 yX12_in, Cond.static yX12_in, Cond.code yX12_in cX12_in 3 (some .boolean)], wsX120]
set_option maxRecDepth 20000 in
theorem ciX12_fall : ∀ l ∈ csX12_fall, ∀ w ∈ l, w ∈ wsX12_fall := by
  unfold csX12_fall
  refine List.forall_mem_cons.mpr ⟨fun _ h => List.mem_cons.mpr (Or.inl (List.mem_singleton.mp h)), List.forall_mem_cons.mpr ⟨fun _ h => List.mem_cons_of_mem _ (List.mem_append_left _ h), List.forall_mem_cons.mpr ⟨fun _ h => List.mem_cons_of_mem _ (List.mem_append_right _ h), fun l h => absurd h List.not_mem_nil⟩⟩⟩
set_option maxRecDepth 20000 in
theorem ggX12_fall_X12_isKeeper : GoodIn wsX12_fall wsX12_isKeeper := goodIn_sl csX12_fall ciX12_fall _ [(1, 8, 4), (1, 7, 1), (1, 12, 1), (2, 0, 59)] rfl gw_wsX12_isKeeper
set_option maxRecDepth 20000 in
theorem gX12_fall_X12_isKeeper : GoodIn wsX12_fall (wsV RX12 166 RX12 yX12_isKeeper wsX12_isKeeper) := goodIn_app (goodIn_sl csX12_fall ciX12_fall _ [(1, 4, 4)] rfl rfl) ggX12_fall_X12_isKeeper
noncomputable def NX12_fall : Nat := 90928133558475163784404350575811669174193184862942512481777119776260213033123636921488969341298635168459676947677462058189127385282739300642127782704075372789588093331516884892640514792496429221251001876296530922675164912693565428308325046082331362272522231640900718959402
theorem nX12_fall : CN cX12_fall NX12_fall 113 := ⟨by decide +kernel, by decide +kernel⟩
theorem dX12_fall_0 : decode cX12_fall 0 = .ok (.aload_n 0, 1) := di_42 nX12_fall (Eq.refl true) (Eq.refl true)
theorem dX12_fall_1 : decode cX12_fall 1 = .ok (.iload_n 1, 1) := di_27 nX12_fall (Eq.refl true) (Eq.refl true)
theorem dX12_fall_2 : decode cX12_fall 2 = .ok (.invokevirtual 166, 3) := di_182 nX12_fall (Eq.refl true) (Eq.refl true) (Eq.refl true)
theorem dX12_fall_5 : decode cX12_fall 5 = .ok (.ifCond .eq 12, 3) := di_153 (x := 12) nX12_fall (Eq.refl true) (Eq.refl true) (Eq.refl true) rfl
theorem dX12_fall_17 : decode cX12_fall 17 = .ok (.iconst (-1), 1) := di_2 nX12_fall (Eq.refl true) (Eq.refl true)
theorem dX12_fall_18 : decode cX12_fall 18 = .ok (.ireturn, 1) := di_172 nX12_fall (Eq.refl true) (Eq.refl true)
noncomputable def csX12_half : List (List Cond) := [[Cond.code yX12_half cX12_half 6 (some .int)], [Cond.fieldLink RX12 68 "SeatsRoundModel" "version" "[I", Cond.fieldLink RX12 77 "SeatsRoundModel" "pieces" "[I", Cond.fieldLink RX12 80 "SeatsRoundModel" "piecesTo" "[I", Cond.methodLink RX12 158 yX12_isName, Cond.instanceMethod yX12_isName, Cond.selects RX12 yX12_isName yX12_isName, Cond.initialized RX12, Cond.code yX12_isName cX12_isName 2 (some .boolean), Cond.fieldLink RX12 133 "SeatsRoundModel" "names" "I", Cond.methodLink RX12 136 yX12_in, Cond.static yX12_in, Cond.code yX12_in cX12_in 3 (some .boolean), Cond.methodLink RX12 166 yX12_isKeeper, Cond.instanceMethod yX12_isKeeper, Cond.selects RX12 yX12_isKeeper yX12_isKeeper, Cond.code yX12_isKeeper cX12_isKeeper 2 (some .boolean), Cond.fieldLink RX12 140 "SeatsRoundModel" "keepers" "I", Cond.methodLink RX12 287 yX12_isAwake, Cond.instanceMethod yX12_isAwake, Cond.selects RX12 yX12_isAwake yX12_isAwake, Cond.code yX12_isAwake cX12_isAwake 2 (some .boolean), Cond.fieldLink RX12 22 "SeatsRoundModel" "kind" "[I", Cond.fieldLink RX12 28 "SeatsRoundModel" "isFallen" "[Z"], wsX120]
set_option maxRecDepth 20000 in
theorem ciX12_half : ∀ l ∈ csX12_half, ∀ w ∈ l, w ∈ wsX12_half := by
  unfold csX12_half
  refine List.forall_mem_cons.mpr ⟨fun _ h => List.mem_cons.mpr (Or.inl (List.mem_singleton.mp h)), List.forall_mem_cons.mpr ⟨fun _ h => List.mem_cons_of_mem _ (List.mem_append_left _ h), List.forall_mem_cons.mpr ⟨fun _ h => List.mem_cons_of_mem _ (List.mem_append_right _ h), fun l h => absurd h List.not_mem_nil⟩⟩⟩
set_option maxRecDepth 20000 in
theorem ggX12_half_X12_isName : GoodIn wsX12_half wsX12_isName := goodIn_sl csX12_half ciX12_half _ [(1, 7, 4), (1, 6, 1), (1, 11, 1), (2, 0, 59)] rfl gw_wsX12_isName
set_option maxRecDepth 20000 in
theorem gX12_half_X12_isName : GoodIn wsX12_half (wsV RX12 158 RX12 yX12_isName wsX12_isName) := goodIn_app (goodIn_sl csX12_half ciX12_half _ [(1, 3, 4)] rfl rfl) ggX12_half_X12_isName
noncomputable def NX12_half : Nat := 605987005779899443969069223663505507231278727240024993547408418328116796088688040523315911703279581832126895945607435693659649870214717178334924206891784083324614020704321150204432666840756878437976721535401543722463012179409116951417599775176124376279295987807710401494031719110811602673218690613490841593571874523855103647206430997495456558770873976610916188986503472405738644425522938424907737288838318966371328467454599563899921625043431110766953217190164666559650120691055189647620939171157099063573027887914
theorem nX12_half : CN cX12_half NX12_half 213 := ⟨by decide +kernel, by decide +kernel⟩
theorem dX12_half_0 : decode cX12_half 0 = .ok (.aload_n 0, 1) := di_42 nX12_half (Eq.refl true) (Eq.refl true)
theorem dX12_half_1 : decode cX12_half 1 = .ok (.iload_n 1, 1) := di_27 nX12_half (Eq.refl true) (Eq.refl true)
theorem dX12_half_2 : decode cX12_half 2 = .ok (.invokevirtual 158, 3) := di_182 nX12_half (Eq.refl true) (Eq.refl true) (Eq.refl true)
theorem dX12_half_5 : decode cX12_half 5 = .ok (.ifCond .eq 24, 3) := di_153 (x := 24) nX12_half (Eq.refl true) (Eq.refl true) (Eq.refl true) rfl
theorem dX12_half_29 : decode cX12_half 29 = .ok (.iconst (-1), 1) := di_2 nX12_half (Eq.refl true) (Eq.refl true)
theorem dX12_half_30 : decode cX12_half 30 = .ok (.ireturn, 1) := di_172 nX12_half (Eq.refl true) (Eq.refl true)
noncomputable def csX12_mend : List (List Cond) := [[Cond.code yX12_mend cX12_mend 7 (some .int)], wsX12_mend_r1, wsX12_mend_r2, wsX12_mend_r3, wsX12_mend_r4, wsX120]
set_option maxRecDepth 20000 in
theorem ciX12_mend : ∀ l ∈ csX12_mend, ∀ w ∈ l, w ∈ wsX12_mend := by
  unfold csX12_mend
  refine List.forall_mem_cons.mpr ⟨fun _ h => List.mem_cons.mpr (Or.inl (List.mem_singleton.mp h)), List.forall_mem_cons.mpr ⟨fun _ h => List.mem_cons_of_mem _ (List.mem_append_left _ (List.mem_append_left _ h)), List.forall_mem_cons.mpr ⟨fun _ h => List.mem_cons_of_mem _ (List.mem_append_left _ (List.mem_append_right _ (List.mem_append_left _ h))), List.forall_mem_cons.mpr ⟨fun _ h => List.mem_cons_of_mem _ (List.mem_append_left _ (List.mem_append_right _ (List.mem_append_right _ (List.mem_append_left _ h)))), List.forall_mem_cons.mpr ⟨fun _ h => List.mem_cons_of_mem _ (List.mem_append_left _ (List.mem_append_right _ (List.mem_append_right _ (List.mem_append_right _ h)))), List.forall_mem_cons.mpr ⟨fun _ h => List.mem_cons_of_mem _ (List.mem_append_right _ h), fun l h => absurd h List.not_mem_nil⟩⟩⟩⟩⟩⟩
set_option maxRecDepth 20000 in
theorem ggX12_mend_X12_isTable : GoodIn wsX12_mend wsX12_isTable := goodIn_sl csX12_mend ciX12_mend _ [(1, 10, 4), (1, 9, 1), (1, 14, 1), (5, 0, 59)] rfl gw_wsX12_isTable
set_option maxRecDepth 20000 in
theorem gX12_mend_X12_isTable : GoodIn wsX12_mend (wsV RX12 266 RX12 yX12_isTable wsX12_isTable) := goodIn_app (goodIn_sl csX12_mend ciX12_mend _ [(1, 6, 4)] rfl rfl) ggX12_mend_X12_isTable
noncomputable def NX12_mend : Nat := 377295329422550769183391561995601430893770613393396662815886981689311762231006105483940019044387298956503573547745245461630481125305655179655854452483855134517382260113658163203075549772348483364952882833581966941057728970569259028368968378952354267900287718211869774864732963225608795186611048681312627228656552410505842632400537281743022270289693819588213824073175199082338511445124197534158708851772643445746470851804594542642610694679412992292297514
theorem nX12_mend : CN cX12_mend NX12_mend 188 := ⟨by decide +kernel, by decide +kernel⟩
theorem dX12_mend_0 : decode cX12_mend 0 = .ok (.aload_n 0, 1) := di_42 nX12_mend (Eq.refl true) (Eq.refl true)
theorem dX12_mend_1 : decode cX12_mend 1 = .ok (.iload_n 1, 1) := di_27 nX12_mend (Eq.refl true) (Eq.refl true)
theorem dX12_mend_2 : decode cX12_mend 2 = .ok (.invokevirtual 266, 3) := di_182 nX12_mend (Eq.refl true) (Eq.refl true) (Eq.refl true)
theorem dX12_mend_5 : decode cX12_mend 5 = .ok (.ifCond .ne 5, 3) := di_154 (x := 5) nX12_mend (Eq.refl true) (Eq.refl true) (Eq.refl true) rfl
theorem dX12_mend_8 : decode cX12_mend 8 = .ok (.iconst (-1), 1) := di_2 nX12_mend (Eq.refl true) (Eq.refl true)
theorem dX12_mend_9 : decode cX12_mend 9 = .ok (.ireturn, 1) := di_172 nX12_mend (Eq.refl true) (Eq.refl true)
noncomputable def csX12_trees : List (List Cond) := [[Cond.code yX12_trees cX12_trees 6 (some .int)], [Cond.methodLink RX12 166 yX12_isKeeper, Cond.instanceMethod yX12_isKeeper, Cond.selects RX12 yX12_isKeeper yX12_isKeeper, Cond.initialized RX12, Cond.code yX12_isKeeper cX12_isKeeper 2 (some .boolean), Cond.fieldLink RX12 140 "SeatsRoundModel" "keepers" "I", Cond.methodLink RX12 136 yX12_in, Cond.static yX12_in, Cond.code yX12_in cX12_in 3 (some .boolean), Cond.methodLink RX12 307 yX12_wordsBelow, Cond.instanceMethod yX12_wordsBelow, Cond.selects RX12 yX12_wordsBelow yX12_wordsBelow, Cond.code yX12_wordsBelow cX12_wordsBelow 5 (some .int), Cond.methodLink RX12 303 yX12_areUnlike, Cond.instanceMethod yX12_areUnlike, Cond.selects RX12 yX12_areUnlike yX12_areUnlike, Cond.code yX12_areUnlike cX12_areUnlike 7 (some .boolean), Cond.methodLink RX12 300 yX12_leafOf, Cond.instanceMethod yX12_leafOf, Cond.selects RX12 yX12_leafOf yX12_leafOf, Cond.code yX12_leafOf cX12_leafOf 5 (some .int), Cond.fieldLink RX12 133 "SeatsRoundModel" "names" "I", Cond.fieldLink RX12 68 "SeatsRoundModel" "version" "[I"], wsX120]
set_option maxRecDepth 20000 in
theorem ciX12_trees : ∀ l ∈ csX12_trees, ∀ w ∈ l, w ∈ wsX12_trees := by
  unfold csX12_trees
  refine List.forall_mem_cons.mpr ⟨fun _ h => List.mem_cons.mpr (Or.inl (List.mem_singleton.mp h)), List.forall_mem_cons.mpr ⟨fun _ h => List.mem_cons_of_mem _ (List.mem_append_left _ h), List.forall_mem_cons.mpr ⟨fun _ h => List.mem_cons_of_mem _ (List.mem_append_right _ h), fun l h => absurd h List.not_mem_nil⟩⟩⟩
set_option maxRecDepth 20000 in
theorem ggX12_trees_X12_isKeeper : GoodIn wsX12_trees wsX12_isKeeper := goodIn_sl csX12_trees ciX12_trees _ [(1, 4, 4), (1, 3, 1), (1, 8, 1), (2, 0, 59)] rfl gw_wsX12_isKeeper
set_option maxRecDepth 20000 in
theorem gX12_trees_X12_isKeeper : GoodIn wsX12_trees (wsV RX12 166 RX12 yX12_isKeeper wsX12_isKeeper) := goodIn_app (goodIn_sl csX12_trees ciX12_trees _ [(1, 0, 4)] rfl rfl) ggX12_trees_X12_isKeeper
noncomputable def NX12_trees : Nat := 242887734450183776025271465635688323140840871689499267985773872202476817625326893506685985945814456121785615381776937840516897911795754538970489137411141604753698043267738343297035181038711519142567424040260780196906801962
theorem nX12_trees : CN cX12_trees NX12_trees 92 := ⟨by decide +kernel, by decide +kernel⟩
theorem dX12_trees_0 : decode cX12_trees 0 = .ok (.aload_n 0, 1) := di_42 nX12_trees (Eq.refl true) (Eq.refl true)
theorem dX12_trees_1 : decode cX12_trees 1 = .ok (.iload_n 1, 1) := di_27 nX12_trees (Eq.refl true) (Eq.refl true)
theorem dX12_trees_2 : decode cX12_trees 2 = .ok (.invokevirtual 166, 3) := di_182 nX12_trees (Eq.refl true) (Eq.refl true) (Eq.refl true)
theorem dX12_trees_5 : decode cX12_trees 5 = .ok (.ifCond .eq 25, 3) := di_153 (x := 25) nX12_trees (Eq.refl true) (Eq.refl true) (Eq.refl true) rfl
theorem dX12_trees_30 : decode cX12_trees 30 = .ok (.iconst (-1), 1) := di_2 nX12_trees (Eq.refl true) (Eq.refl true)
theorem dX12_trees_31 : decode cX12_trees 31 = .ok (.ireturn, 1) := di_172 nX12_trees (Eq.refl true) (Eq.refl true)
noncomputable def csX12_noon : List (List Cond) := [[Cond.code yX12_noon cX12_noon 6 (some .int)], [Cond.fieldLink RX12 32 "SeatsRoundModel" "tableOf" "[I", Cond.methodLink RX12 266 yX12_isTable, Cond.instanceMethod yX12_isTable, Cond.selects RX12 yX12_isTable yX12_isTable, Cond.initialized RX12, Cond.code yX12_isTable cX12_isTable 2 (some .boolean), Cond.fieldLink RX12 143 "SeatsRoundModel" "tables" "I", Cond.methodLink RX12 136 yX12_in, Cond.static yX12_in, Cond.code yX12_in cX12_in 3 (some .boolean), Cond.methodLink RX12 284 yX12_ones, Cond.static yX12_ones, Cond.code yX12_ones cX12_ones 3 (some .int)], wsX120]
set_option maxRecDepth 20000 in
theorem ciX12_noon : ∀ l ∈ csX12_noon, ∀ w ∈ l, w ∈ wsX12_noon := by
  unfold csX12_noon
  refine List.forall_mem_cons.mpr ⟨fun _ h => List.mem_cons.mpr (Or.inl (List.mem_singleton.mp h)), List.forall_mem_cons.mpr ⟨fun _ h => List.mem_cons_of_mem _ (List.mem_append_left _ h), List.forall_mem_cons.mpr ⟨fun _ h => List.mem_cons_of_mem _ (List.mem_append_right _ h), fun l h => absurd h List.not_mem_nil⟩⟩⟩
set_option maxRecDepth 20000 in
theorem ggX12_noon_X12_isTable : GoodIn wsX12_noon wsX12_isTable := goodIn_sl csX12_noon ciX12_noon _ [(1, 5, 4), (1, 4, 1), (1, 9, 1), (2, 0, 59)] rfl gw_wsX12_isTable
set_option maxRecDepth 20000 in
theorem gX12_noon_X12_isTable : GoodIn wsX12_noon (wsV RX12 266 RX12 yX12_isTable wsX12_isTable) := goodIn_app (goodIn_sl csX12_noon ciX12_noon _ [(1, 1, 4)] rfl rfl) ggX12_noon_X12_isTable
noncomputable def NX12_noon : Nat := 47044024436283225249708974638972813024799895270878793043658296639739889428497007293618445332900884496879298885545459913593789646446145304570164207794165089944321082909262355648592574028586
theorem nX12_noon : CN cX12_noon NX12_noon 78 := ⟨by decide +kernel, by decide +kernel⟩
theorem dX12_noon_0 : decode cX12_noon 0 = .ok (.aload_n 0, 1) := di_42 nX12_noon (Eq.refl true) (Eq.refl true)
theorem dX12_noon_1 : decode cX12_noon 1 = .ok (.iload_n 1, 1) := di_27 nX12_noon (Eq.refl true) (Eq.refl true)
theorem dX12_noon_2 : decode cX12_noon 2 = .ok (.invokevirtual 266, 3) := di_182 nX12_noon (Eq.refl true) (Eq.refl true) (Eq.refl true)
theorem dX12_noon_5 : decode cX12_noon 5 = .ok (.ifCond .eq 25, 3) := di_153 (x := 25) nX12_noon (Eq.refl true) (Eq.refl true) (Eq.refl true) rfl
theorem dX12_noon_30 : decode cX12_noon 30 = .ok (.iconst (-1), 1) := di_2 nX12_noon (Eq.refl true) (Eq.refl true)
theorem dX12_noon_31 : decode cX12_noon 31 = .ok (.ireturn, 1) := di_172 nX12_noon (Eq.refl true) (Eq.refl true)
noncomputable def csX12_lies : List (List Cond) := [[Cond.code yX12_lies cX12_lies 6 (some .int)], [Cond.fieldLink RX12 19 "SeatsRoundModel" "strength" "[I", Cond.methodLink RX12 166 yX12_isKeeper, Cond.instanceMethod yX12_isKeeper, Cond.selects RX12 yX12_isKeeper yX12_isKeeper, Cond.initialized RX12, Cond.code yX12_isKeeper cX12_isKeeper 2 (some .boolean), Cond.fieldLink RX12 140 "SeatsRoundModel" "keepers" "I", Cond.methodLink RX12 136 yX12_in, Cond.static yX12_in, Cond.code yX12_in cX12_in 3 (some .boolean)], wsX120]
set_option maxRecDepth 20000 in
theorem ciX12_lies : ∀ l ∈ csX12_lies, ∀ w ∈ l, w ∈ wsX12_lies := by
  unfold csX12_lies
  refine List.forall_mem_cons.mpr ⟨fun _ h => List.mem_cons.mpr (Or.inl (List.mem_singleton.mp h)), List.forall_mem_cons.mpr ⟨fun _ h => List.mem_cons_of_mem _ (List.mem_append_left _ h), List.forall_mem_cons.mpr ⟨fun _ h => List.mem_cons_of_mem _ (List.mem_append_right _ h), fun l h => absurd h List.not_mem_nil⟩⟩⟩
set_option maxRecDepth 20000 in
theorem ggX12_lies_X12_isKeeper : GoodIn wsX12_lies wsX12_isKeeper := goodIn_sl csX12_lies ciX12_lies _ [(1, 5, 4), (1, 4, 1), (1, 9, 1), (2, 0, 59)] rfl gw_wsX12_isKeeper
set_option maxRecDepth 20000 in
theorem gX12_lies_X12_isKeeper : GoodIn wsX12_lies (wsV RX12 166 RX12 yX12_isKeeper wsX12_isKeeper) := goodIn_app (goodIn_sl csX12_lies ciX12_lies _ [(1, 1, 4)] rfl rfl) ggX12_lies_X12_isKeeper
noncomputable def NX12_lies : Nat := 17541771544210322958691355371181971944923259436638039004675721643529462023574813173997049161177735622915813374165127273280614968782860296969524329481337971367324951732166100779982348901818770614868874191630545485848577178654929571775126314
theorem nX12_lies : CN cX12_lies NX12_lies 99 := ⟨by decide +kernel, by decide +kernel⟩
theorem dX12_lies_0 : decode cX12_lies 0 = .ok (.aload_n 0, 1) := di_42 nX12_lies (Eq.refl true) (Eq.refl true)
theorem dX12_lies_1 : decode cX12_lies 1 = .ok (.iload_n 1, 1) := di_27 nX12_lies (Eq.refl true) (Eq.refl true)
theorem dX12_lies_2 : decode cX12_lies 2 = .ok (.invokevirtual 166, 3) := di_182 nX12_lies (Eq.refl true) (Eq.refl true) (Eq.refl true)
theorem dX12_lies_5 : decode cX12_lies 5 = .ok (.ifCond .eq 38, 3) := di_153 (x := 38) nX12_lies (Eq.refl true) (Eq.refl true) (Eq.refl true) rfl
theorem dX12_lies_43 : decode cX12_lies 43 = .ok (.iconst (-1), 1) := di_2 nX12_lies (Eq.refl true) (Eq.refl true)
theorem dX12_lies_44 : decode cX12_lies 44 = .ok (.ireturn, 1) := di_172 nX12_lies (Eq.refl true) (Eq.refl true)
noncomputable def csX12_comes : List (List Cond) := [[Cond.code yX12_comes cX12_comes 2 (some .int)], [Cond.fieldLink RX12 310 "SeatsRoundModel" "comers" "I", Cond.fieldLink RX12 86 "SeatsRoundModel" "comer" "[I", Cond.methodLink RX12 166 yX12_isKeeper, Cond.instanceMethod yX12_isKeeper, Cond.selects RX12 yX12_isKeeper yX12_isKeeper, Cond.initialized RX12, Cond.code yX12_isKeeper cX12_isKeeper 2 (some .boolean), Cond.fieldLink RX12 140 "SeatsRoundModel" "keepers" "I", Cond.methodLink RX12 136 yX12_in, Cond.static yX12_in, Cond.code yX12_in cX12_in 3 (some .boolean), Cond.methodLink RX12 313 yX12_isComing, Cond.instanceMethod yX12_isComing, Cond.selects RX12 yX12_isComing yX12_isComing, Cond.code yX12_isComing cX12_isComing 3 (some .boolean)], wsX120]
set_option maxRecDepth 20000 in
theorem ciX12_comes : ∀ l ∈ csX12_comes, ∀ w ∈ l, w ∈ wsX12_comes := by
  unfold csX12_comes
  refine List.forall_mem_cons.mpr ⟨fun _ h => List.mem_cons.mpr (Or.inl (List.mem_singleton.mp h)), List.forall_mem_cons.mpr ⟨fun _ h => List.mem_cons_of_mem _ (List.mem_append_left _ h), List.forall_mem_cons.mpr ⟨fun _ h => List.mem_cons_of_mem _ (List.mem_append_right _ h), fun l h => absurd h List.not_mem_nil⟩⟩⟩
set_option maxRecDepth 20000 in
theorem ggX12_comes_X12_isKeeper : GoodIn wsX12_comes wsX12_isKeeper := goodIn_sl csX12_comes ciX12_comes _ [(1, 6, 4), (1, 5, 1), (1, 10, 1), (2, 0, 59)] rfl gw_wsX12_isKeeper
set_option maxRecDepth 20000 in
theorem gX12_comes_X12_isKeeper : GoodIn wsX12_comes (wsV RX12 166 RX12 yX12_isKeeper wsX12_isKeeper) := goodIn_app (goodIn_sl csX12_comes ciX12_comes _ [(1, 2, 4)] rfl rfl) ggX12_comes_X12_isKeeper
noncomputable def NX12_comes : Nat := 7460689366948971519560937768827901508432924933601896322638402842914987918675635919632596424425774730180373652022460701339519687466
theorem nX12_comes : CN cX12_comes NX12_comes 54 := ⟨by decide +kernel, by decide +kernel⟩
theorem dX12_comes_0 : decode cX12_comes 0 = .ok (.aload_n 0, 1) := di_42 nX12_comes (Eq.refl true) (Eq.refl true)
theorem dX12_comes_1 : decode cX12_comes 1 = .ok (.iload_n 1, 1) := di_27 nX12_comes (Eq.refl true) (Eq.refl true)
theorem dX12_comes_2 : decode cX12_comes 2 = .ok (.invokevirtual 166, 3) := di_182 nX12_comes (Eq.refl true) (Eq.refl true) (Eq.refl true)
theorem dX12_comes_5 : decode cX12_comes 5 = .ok (.ifCond .eq 11, 3) := di_153 (x := 11) nX12_comes (Eq.refl true) (Eq.refl true) (Eq.refl true) rfl
theorem dX12_comes_16 : decode cX12_comes 16 = .ok (.iconst (-1), 1) := di_2 nX12_comes (Eq.refl true) (Eq.refl true)
theorem dX12_comes_17 : decode cX12_comes 17 = .ok (.ireturn, 1) := di_172 nX12_comes (Eq.refl true) (Eq.refl true)
noncomputable def csX12_order : List (List Cond) := [[Cond.code yX12_order cX12_order 6 (some .int)], wsX12_order_r1, wsX12_order_r2, wsX12_order_r3, wsX12_order_r4, wsX12_order_r5, wsX12_order_r6, wsX12_order_r7, wsX120]
set_option maxRecDepth 20000 in
theorem ciX12_order : ∀ l ∈ csX12_order, ∀ w ∈ l, w ∈ wsX12_order := by
  unfold csX12_order
  refine List.forall_mem_cons.mpr ⟨fun _ h => List.mem_cons.mpr (Or.inl (List.mem_singleton.mp h)), List.forall_mem_cons.mpr ⟨fun _ h => List.mem_cons_of_mem _ (List.mem_append_left _ (List.mem_append_left _ h)), List.forall_mem_cons.mpr ⟨fun _ h => List.mem_cons_of_mem _ (List.mem_append_left _ (List.mem_append_right _ (List.mem_append_left _ h))), List.forall_mem_cons.mpr ⟨fun _ h => List.mem_cons_of_mem _ (List.mem_append_left _ (List.mem_append_right _ (List.mem_append_right _ (List.mem_append_left _ h)))), List.forall_mem_cons.mpr ⟨fun _ h => List.mem_cons_of_mem _ (List.mem_append_left _ (List.mem_append_right _ (List.mem_append_right _ (List.mem_append_right _ (List.mem_append_left _ h))))), List.forall_mem_cons.mpr ⟨fun _ h => List.mem_cons_of_mem _ (List.mem_append_left _ (List.mem_append_right _ (List.mem_append_right _ (List.mem_append_right _ (List.mem_append_right _ (List.mem_append_left _ h)))))), List.forall_mem_cons.mpr ⟨fun _ h => List.mem_cons_of_mem _ (List.mem_append_left _ (List.mem_append_right _ (List.mem_append_right _ (List.mem_append_right _ (List.mem_append_right _ (List.mem_append_right _ (List.mem_append_left _ h))))))), List.forall_mem_cons.mpr ⟨fun _ h => List.mem_cons_of_mem _ (List.mem_append_left _ (List.mem_append_right _ (List.mem_append_right _ (List.mem_append_right _ (List.mem_append_right _ (List.mem_append_right _ (List.mem_append_right _ h))))))), List.forall_mem_cons.mpr ⟨fun _ h => List.mem_cons_of_mem _ (List.mem_append_right _ h), fun l h => absurd h List.not_mem_nil⟩⟩⟩⟩⟩⟩⟩⟩⟩
set_option maxRecDepth 20000 in
theorem ggX12_order_X12_isTable : GoodIn wsX12_order wsX12_isTable := goodIn_sl csX12_order ciX12_order _ [(1, 11, 4), (1, 10, 1), (1, 15, 1), (8, 0, 59)] rfl gw_wsX12_isTable
set_option maxRecDepth 20000 in
theorem gX12_order_X12_isTable : GoodIn wsX12_order (wsV RX12 266 RX12 yX12_isTable wsX12_isTable) := goodIn_app (goodIn_sl csX12_order ciX12_order _ [(1, 7, 4)] rfl rfl) ggX12_order_X12_isTable
noncomputable def NX12_order : Nat := 11184046795477247526213183868885317053158761456174044952036278285580485562487604658264642990334618621373453986006453140836184855056836879197457735358309805135475638747409164332221597615557776109168251037379640042463465547004509124290511991984497875622561178678839084832929181561455909327698573045243033134815740405558888382984066623749886425994108998084586327333226815034982167625695157422818654532721918869508700953555576481875236798527672165094076235819773727731769101578653279470728823330767244398471584567533874943026038054460202
theorem nX12_order : CN cX12_order NX12_order 221 := ⟨by decide +kernel, by decide +kernel⟩
theorem dX12_order_0 : decode cX12_order 0 = .ok (.aload_n 0, 1) := di_42 nX12_order (Eq.refl true) (Eq.refl true)
theorem dX12_order_1 : decode cX12_order 1 = .ok (.iload_n 1, 1) := di_27 nX12_order (Eq.refl true) (Eq.refl true)
theorem dX12_order_2 : decode cX12_order 2 = .ok (.invokevirtual 266, 3) := di_182 nX12_order (Eq.refl true) (Eq.refl true) (Eq.refl true)
theorem dX12_order_5 : decode cX12_order 5 = .ok (.ifCond .eq 10, 3) := di_153 (x := 10) nX12_order (Eq.refl true) (Eq.refl true) (Eq.refl true) rfl
theorem dX12_order_15 : decode cX12_order 15 = .ok (.iconst (-1), 1) := di_2 nX12_order (Eq.refl true) (Eq.refl true)
theorem dX12_order_16 : decode cX12_order 16 = .ok (.ireturn, 1) := di_172 nX12_order (Eq.refl true) (Eq.refl true)
noncomputable def csX12_ordered : List (List Cond) := [[Cond.code yX12_ordered cX12_ordered 2 (some .int)], [Cond.fieldLink RX12 325 "SeatsRoundModel" "orderMany" "I", Cond.fieldLink RX12 89 "SeatsRoundModel" "orderTold" "[I", Cond.methodLink RX12 136 yX12_in, Cond.static yX12_in, Cond.initialized RX12, Cond.code yX12_in cX12_in 3 (some .boolean)], wsX120]
set_option maxRecDepth 20000 in
theorem ciX12_ordered : ∀ l ∈ csX12_ordered, ∀ w ∈ l, w ∈ wsX12_ordered := by
  unfold csX12_ordered
  refine List.forall_mem_cons.mpr ⟨fun _ h => List.mem_cons.mpr (Or.inl (List.mem_singleton.mp h)), List.forall_mem_cons.mpr ⟨fun _ h => List.mem_cons_of_mem _ (List.mem_append_left _ h), List.forall_mem_cons.mpr ⟨fun _ h => List.mem_cons_of_mem _ (List.mem_append_right _ h), fun l h => absurd h List.not_mem_nil⟩⟩⟩
set_option maxRecDepth 20000 in
theorem ggX12_ordered_X12_in : GoodIn wsX12_ordered wsX12_in := goodIn_sl csX12_ordered ciX12_ordered _ [(1, 5, 1)] rfl gw_wsX12_in
set_option maxRecDepth 20000 in
theorem gX12_ordered_X12_in : GoodIn wsX12_ordered (va_wsS RX12 136 yX12_in wsX12_in) := goodIn_app (goodIn_sl csX12_ordered ciX12_ordered _ [(1, 2, 3)] rfl rfl) ggX12_ordered_X12_in
noncomputable def NX12_ordered : Nat := 1079710921712036013178509809054106859924213899298192942039835
theorem nX12_ordered : CN cX12_ordered NX12_ordered 25 := ⟨by decide +kernel, by decide +kernel⟩
theorem dX12_ordered_0 : decode cX12_ordered 0 = .ok (.iload_n 1, 1) := di_27 nX12_ordered (Eq.refl true) (Eq.refl true)
theorem dX12_ordered_1 : decode cX12_ordered 1 = .ok (.iconst 0, 1) := di_3 nX12_ordered (Eq.refl true) (Eq.refl true)
theorem dX12_ordered_2 : decode cX12_ordered 2 = .ok (.aload_n 0, 1) := di_42 nX12_ordered (Eq.refl true) (Eq.refl true)
theorem dX12_ordered_3 : decode cX12_ordered 3 = .ok (.getfield 325, 3) := di_180 nX12_ordered (Eq.refl true) (Eq.refl true) (Eq.refl true)
theorem dX12_ordered_6 : decode cX12_ordered 6 = .ok (.iconst 1, 1) := di_4 nX12_ordered (Eq.refl true) (Eq.refl true)
theorem dX12_ordered_7 : decode cX12_ordered 7 = .ok (.isub, 1) := di_100 nX12_ordered (Eq.refl true) (Eq.refl true)
theorem dX12_ordered_8 : decode cX12_ordered 8 = .ok (.invokestatic 136, 3) := di_184 nX12_ordered (Eq.refl true) (Eq.refl true) (Eq.refl true)
theorem dX12_ordered_11 : decode cX12_ordered 11 = .ok (.ifCond .eq 12, 3) := di_153 (x := 12) nX12_ordered (Eq.refl true) (Eq.refl true) (Eq.refl true) rfl
theorem dX12_ordered_23 : decode cX12_ordered 23 = .ok (.iconst (-1), 1) := di_2 nX12_ordered (Eq.refl true) (Eq.refl true)
theorem dX12_ordered_24 : decode cX12_ordered 24 = .ok (.ireturn, 1) := di_172 nX12_ordered (Eq.refl true) (Eq.refl true)
noncomputable def NX12_turning : Nat := 85685309758547258673591960441120955040678623388809725516764095982686872097972751849075754
theorem nX12_turning : CN cX12_turning NX12_turning 37 := ⟨by decide +kernel, by decide +kernel⟩
theorem dX12_turning_0 : decode cX12_turning 0 = .ok (.aload_n 0, 1) := di_42 nX12_turning (Eq.refl true) (Eq.refl true)
theorem dX12_turning_1 : decode cX12_turning 1 = .ok (.getfield 331, 3) := di_180 nX12_turning (Eq.refl true) (Eq.refl true) (Eq.refl true)
theorem dX12_turning_4 : decode cX12_turning 4 = .ok (.bipush 6, 2) := di_16 (x := 6) nX12_turning (Eq.refl true) (Eq.refl true) rfl
theorem dX12_turning_6 : decode cX12_turning 6 = .ok (.if_icmp .ne 6, 3) := di_160 (x := 6) nX12_turning (Eq.refl true) (Eq.refl true) (Eq.refl true) rfl
theorem dX12_turning_12 : decode cX12_turning 12 = .ok (.aload_n 0, 1) := di_42 nX12_turning (Eq.refl true) (Eq.refl true)
theorem dX12_turning_13 : decode cX12_turning 13 = .ok (.getfield 92, 3) := di_180 nX12_turning (Eq.refl true) (Eq.refl true) (Eq.refl true)
theorem dX12_turning_16 : decode cX12_turning 16 = .ok (.aload_n 0, 1) := di_42 nX12_turning (Eq.refl true) (Eq.refl true)
theorem dX12_turning_17 : decode cX12_turning 17 = .ok (.getfield 331, 3) := di_180 nX12_turning (Eq.refl true) (Eq.refl true) (Eq.refl true)
theorem dX12_turning_20 : decode cX12_turning 20 = .ok (.iload_n 1, 1) := di_27 nX12_turning (Eq.refl true) (Eq.refl true)
theorem dX12_turning_21 : decode cX12_turning 21 = .ok (.iastore, 1) := di_79 nX12_turning (Eq.refl true) (Eq.refl true)
theorem dX12_turning_22 : decode cX12_turning 22 = .ok (.aload_n 0, 1) := di_42 nX12_turning (Eq.refl true) (Eq.refl true)
theorem dX12_turning_23 : decode cX12_turning 23 = .ok (.dup, 1) := di_89 nX12_turning (Eq.refl true) (Eq.refl true)
theorem dX12_turning_24 : decode cX12_turning 24 = .ok (.getfield 331, 3) := di_180 nX12_turning (Eq.refl true) (Eq.refl true) (Eq.refl true)
theorem dX12_turning_27 : decode cX12_turning 27 = .ok (.iconst 1, 1) := di_4 nX12_turning (Eq.refl true) (Eq.refl true)
theorem dX12_turning_28 : decode cX12_turning 28 = .ok (.iadd, 1) := di_96 nX12_turning (Eq.refl true) (Eq.refl true)
theorem dX12_turning_29 : decode cX12_turning 29 = .ok (.putfield 331, 3) := di_181 nX12_turning (Eq.refl true) (Eq.refl true) (Eq.refl true)
theorem dX12_turning_32 : decode cX12_turning 32 = .ok (.aload_n 0, 1) := di_42 nX12_turning (Eq.refl true) (Eq.refl true)
theorem dX12_turning_33 : decode cX12_turning 33 = .ok (.getfield 331, 3) := di_180 nX12_turning (Eq.refl true) (Eq.refl true) (Eq.refl true)
theorem dX12_turning_36 : decode cX12_turning 36 = .ok (.ireturn, 1) := di_172 nX12_turning (Eq.refl true) (Eq.refl true)
noncomputable def csX12_harm : List (List Cond) := [[Cond.code yX12_harm cX12_harm 7 (some .int)], wsX12_harm_r1, wsX12_harm_r2, wsX12_harm_r3, wsX12_harm_r4, wsX12_harm_r5, wsX120]
set_option maxRecDepth 20000 in
theorem ciX12_harm : ∀ l ∈ csX12_harm, ∀ w ∈ l, w ∈ wsX12_harm := by
  unfold csX12_harm
  refine List.forall_mem_cons.mpr ⟨fun _ h => List.mem_cons.mpr (Or.inl (List.mem_singleton.mp h)), List.forall_mem_cons.mpr ⟨fun _ h => List.mem_cons_of_mem _ (List.mem_append_left _ (List.mem_append_left _ h)), List.forall_mem_cons.mpr ⟨fun _ h => List.mem_cons_of_mem _ (List.mem_append_left _ (List.mem_append_right _ (List.mem_append_left _ h))), List.forall_mem_cons.mpr ⟨fun _ h => List.mem_cons_of_mem _ (List.mem_append_left _ (List.mem_append_right _ (List.mem_append_right _ (List.mem_append_left _ h)))), List.forall_mem_cons.mpr ⟨fun _ h => List.mem_cons_of_mem _ (List.mem_append_left _ (List.mem_append_right _ (List.mem_append_right _ (List.mem_append_right _ (List.mem_append_left _ h))))), List.forall_mem_cons.mpr ⟨fun _ h => List.mem_cons_of_mem _ (List.mem_append_left _ (List.mem_append_right _ (List.mem_append_right _ (List.mem_append_right _ (List.mem_append_right _ h))))), List.forall_mem_cons.mpr ⟨fun _ h => List.mem_cons_of_mem _ (List.mem_append_right _ h), fun l h => absurd h List.not_mem_nil⟩⟩⟩⟩⟩⟩⟩
set_option maxRecDepth 20000 in
theorem ggX12_harm_X12_isTable : GoodIn wsX12_harm wsX12_isTable := goodIn_sl csX12_harm ciX12_harm _ [(1, 9, 4), (1, 8, 1), (1, 13, 1), (6, 0, 59)] rfl gw_wsX12_isTable
set_option maxRecDepth 20000 in
theorem gX12_harm_X12_isTable : GoodIn wsX12_harm (wsV RX12 266 RX12 yX12_isTable wsX12_isTable) := goodIn_app (goodIn_sl csX12_harm ciX12_harm _ [(1, 5, 4)] rfl rfl) ggX12_harm_X12_isTable
noncomputable def NX12_harm : Nat := 627541605501569997838555724090376391594636927130505905825569075472486055338464980627544621807617945310723976493895633058566180107210720917556269260409494733311964549911555552037411229119365190984531043050446014249113467314574624887708996997182893179661768858466926861224084567513653933393579126813750402032937597938735769529495106919765252906
theorem nX12_harm : CN cX12_harm NX12_harm 142 := ⟨by decide +kernel, by decide +kernel⟩
theorem dX12_harm_0 : decode cX12_harm 0 = .ok (.aload_n 0, 1) := di_42 nX12_harm (Eq.refl true) (Eq.refl true)
theorem dX12_harm_1 : decode cX12_harm 1 = .ok (.iload_n 1, 1) := di_27 nX12_harm (Eq.refl true) (Eq.refl true)
theorem dX12_harm_2 : decode cX12_harm 2 = .ok (.invokevirtual 266, 3) := di_182 nX12_harm (Eq.refl true) (Eq.refl true) (Eq.refl true)
theorem dX12_harm_5 : decode cX12_harm 5 = .ok (.ifCond .eq 10, 3) := di_153 (x := 10) nX12_harm (Eq.refl true) (Eq.refl true) (Eq.refl true) rfl
theorem dX12_harm_15 : decode cX12_harm 15 = .ok (.iconst (-1), 1) := di_2 nX12_harm (Eq.refl true) (Eq.refl true)
theorem dX12_harm_16 : decode cX12_harm 16 = .ok (.ireturn, 1) := di_172 nX12_harm (Eq.refl true) (Eq.refl true)
noncomputable def NX12_harmed : Nat := 740328256554
theorem nX12_harmed : CN cX12_harmed NX12_harmed 5 := ⟨by decide +kernel, by decide +kernel⟩
theorem dX12_harmed_0 : decode cX12_harmed 0 = .ok (.aload_n 0, 1) := di_42 nX12_harmed (Eq.refl true) (Eq.refl true)
theorem dX12_harmed_1 : decode cX12_harmed 1 = .ok (.getfield 95, 3) := di_180 nX12_harmed (Eq.refl true) (Eq.refl true) (Eq.refl true)
theorem dX12_harmed_4 : decode cX12_harmed 4 = .ok (.ireturn, 1) := di_172 nX12_harmed (Eq.refl true) (Eq.refl true)
noncomputable def csX12_act : List (List Cond) := [[Cond.code yX12_act cX12_act 5 (some .int)], wsX12_act_r1, wsX12_act_r2, wsX120]
set_option maxRecDepth 20000 in
theorem ciX12_act : ∀ l ∈ csX12_act, ∀ w ∈ l, w ∈ wsX12_act := by
  unfold csX12_act
  refine List.forall_mem_cons.mpr ⟨fun _ h => List.mem_cons.mpr (Or.inl (List.mem_singleton.mp h)), List.forall_mem_cons.mpr ⟨fun _ h => List.mem_cons_of_mem _ (List.mem_append_left _ (List.mem_append_left _ h)), List.forall_mem_cons.mpr ⟨fun _ h => List.mem_cons_of_mem _ (List.mem_append_left _ (List.mem_append_right _ h)), List.forall_mem_cons.mpr ⟨fun _ h => List.mem_cons_of_mem _ (List.mem_append_right _ h), fun l h => absurd h List.not_mem_nil⟩⟩⟩⟩
set_option maxRecDepth 20000 in
theorem ggX12_act_X12_isKeeper : GoodIn wsX12_act wsX12_isKeeper := goodIn_sl csX12_act ciX12_act _ [(1, 6, 4), (1, 5, 1), (1, 10, 1), (3, 0, 59)] rfl gw_wsX12_isKeeper
set_option maxRecDepth 20000 in
theorem gX12_act_X12_isKeeper : GoodIn wsX12_act (wsV RX12 166 RX12 yX12_isKeeper wsX12_isKeeper) := goodIn_app (goodIn_sl csX12_act ciX12_act _ [(1, 2, 4)] rfl rfl) ggX12_act_X12_isKeeper
noncomputable def NX12_act : Nat := 56669753961902142646771374113305048892485280927029958899987074583225652580801553464168923365357556705166054532536463247177634011599251671827937888675251723832201056639703303419583811458550494980630360667322647338
theorem nX12_act : CN cX12_act NX12_act 88 := ⟨by decide +kernel, by decide +kernel⟩
theorem dX12_act_0 : decode cX12_act 0 = .ok (.aload_n 0, 1) := di_42 nX12_act (Eq.refl true) (Eq.refl true)
theorem dX12_act_1 : decode cX12_act 1 = .ok (.iconst 0, 1) := di_3 nX12_act (Eq.refl true) (Eq.refl true)
theorem dX12_act_2 : decode cX12_act 2 = .ok (.putfield 334, 3) := di_181 nX12_act (Eq.refl true) (Eq.refl true) (Eq.refl true)
theorem dX12_act_5 : decode cX12_act 5 = .ok (.aload_n 0, 1) := di_42 nX12_act (Eq.refl true) (Eq.refl true)
theorem dX12_act_6 : decode cX12_act 6 = .ok (.iload_n 1, 1) := di_27 nX12_act (Eq.refl true) (Eq.refl true)
theorem dX12_act_7 : decode cX12_act 7 = .ok (.invokevirtual 166, 3) := di_182 nX12_act (Eq.refl true) (Eq.refl true) (Eq.refl true)
theorem dX12_act_10 : decode cX12_act 10 = .ok (.ifCond .eq 12, 3) := di_153 (x := 12) nX12_act (Eq.refl true) (Eq.refl true) (Eq.refl true) rfl
theorem dX12_act_22 : decode cX12_act 22 = .ok (.iconst 0, 1) := di_3 nX12_act (Eq.refl true) (Eq.refl true)
theorem dX12_act_23 : decode cX12_act 23 = .ok (.ireturn, 1) := di_172 nX12_act (Eq.refl true) (Eq.refl true)
noncomputable def NX12_trace : Nat := 4637323097887211009917368831469716510291953166067988526930721331256091
theorem nX12_trace : CN cX12_trace NX12_trace 29 := ⟨by decide +kernel, by decide +kernel⟩
theorem dX12_trace_0 : decode cX12_trace 0 = .ok (.iload_n 1, 1) := di_27 nX12_trace (Eq.refl true) (Eq.refl true)
theorem dX12_trace_1 : decode cX12_trace 1 = .ok (.ifCond .lt 26, 3) := di_155 (x := 26) nX12_trace (Eq.refl true) (Eq.refl true) (Eq.refl true) rfl
theorem dX12_trace_4 : decode cX12_trace 4 = .ok (.iload_n 1, 1) := di_27 nX12_trace (Eq.refl true) (Eq.refl true)
theorem dX12_trace_5 : decode cX12_trace 5 = .ok (.aload_n 0, 1) := di_42 nX12_trace (Eq.refl true) (Eq.refl true)
theorem dX12_trace_6 : decode cX12_trace 6 = .ok (.getfield 334, 3) := di_180 nX12_trace (Eq.refl true) (Eq.refl true) (Eq.refl true)
theorem dX12_trace_9 : decode cX12_trace 9 = .ok (.if_icmp .ge 18, 3) := di_162 (x := 18) nX12_trace (Eq.refl true) (Eq.refl true) (Eq.refl true) rfl
theorem dX12_trace_27 : decode cX12_trace 27 = .ok (.iconst (-1), 1) := di_2 nX12_trace (Eq.refl true) (Eq.refl true)
theorem dX12_trace_28 : decode cX12_trace 28 = .ok (.ireturn, 1) := di_172 nX12_trace (Eq.refl true) (Eq.refl true)
noncomputable def csX12_isShelf : List (List Cond) := [[Cond.code yX12_isShelf cX12_isShelf 1 (some .boolean)], [Cond.methodLink RX12 136 yX12_in, Cond.static yX12_in, Cond.initialized RX12, Cond.code yX12_in cX12_in 3 (some .boolean)]]
set_option maxRecDepth 20000 in
theorem ciX12_isShelf : ∀ l ∈ csX12_isShelf, ∀ w ∈ l, w ∈ wsX12_isShelf := by
  unfold csX12_isShelf
  refine List.forall_mem_cons.mpr ⟨fun _ h => List.mem_cons.mpr (Or.inl (List.mem_singleton.mp h)), List.forall_mem_cons.mpr ⟨fun _ h => List.mem_cons_of_mem _ h, fun l h => absurd h List.not_mem_nil⟩⟩
set_option maxRecDepth 20000 in
theorem ggX12_isShelf_X12_in : GoodIn wsX12_isShelf wsX12_in := goodIn_sl csX12_isShelf ciX12_isShelf _ [(1, 3, 1)] rfl gw_wsX12_in
set_option maxRecDepth 20000 in
theorem gX12_isShelf_X12_in : GoodIn wsX12_isShelf (va_wsS RX12 136 yX12_in wsX12_in) := goodIn_app (goodIn_sl csX12_isShelf ciX12_isShelf _ [(1, 0, 3)] rfl rfl) ggX12_isShelf_X12_in
noncomputable def NX12_isShelf : Nat := 48563232663143194
theorem nX12_isShelf : CN cX12_isShelf NX12_isShelf 7 := ⟨by decide +kernel, by decide +kernel⟩
theorem dX12_isShelf_0 : decode cX12_isShelf 0 = .ok (.iload_n 0, 1) := di_26 nX12_isShelf (Eq.refl true) (Eq.refl true)
theorem dX12_isShelf_1 : decode cX12_isShelf 1 = .ok (.iconst 0, 1) := di_3 nX12_isShelf (Eq.refl true) (Eq.refl true)
theorem dX12_isShelf_2 : decode cX12_isShelf 2 = .ok (.iconst 5, 1) := di_8 nX12_isShelf (Eq.refl true) (Eq.refl true)
theorem dX12_isShelf_3 : decode cX12_isShelf 3 = .ok (.invokestatic 136, 3) := di_184 nX12_isShelf (Eq.refl true) (Eq.refl true) (Eq.refl true)
theorem dX12_isShelf_6 : decode cX12_isShelf 6 = .ok (.ireturn, 1) := di_172 nX12_isShelf (Eq.refl true) (Eq.refl true)
noncomputable def csX12_keep : List (List Cond) := [[Cond.code yX12_keep cX12_keep 3 (some .int)], [Cond.fieldLink RX12 102 "SeatsRoundModel" "shelfIs" "[I", Cond.fieldLink RX12 105 "SeatsRoundModel" "shelfSort" "[I", Cond.methodLink RX12 355 yX12_isShelf, Cond.static yX12_isShelf, Cond.initialized RX12, Cond.code yX12_isShelf cX12_isShelf 1 (some .boolean), Cond.methodLink RX12 136 yX12_in, Cond.static yX12_in, Cond.code yX12_in cX12_in 3 (some .boolean), Cond.methodLink RX12 166 yX12_isKeeper, Cond.instanceMethod yX12_isKeeper, Cond.selects RX12 yX12_isKeeper yX12_isKeeper, Cond.code yX12_isKeeper cX12_isKeeper 2 (some .boolean), Cond.fieldLink RX12 140 "SeatsRoundModel" "keepers" "I"], wsX120]
set_option maxRecDepth 20000 in
theorem ciX12_keep : ∀ l ∈ csX12_keep, ∀ w ∈ l, w ∈ wsX12_keep := by
  unfold csX12_keep
  refine List.forall_mem_cons.mpr ⟨fun _ h => List.mem_cons.mpr (Or.inl (List.mem_singleton.mp h)), List.forall_mem_cons.mpr ⟨fun _ h => List.mem_cons_of_mem _ (List.mem_append_left _ h), List.forall_mem_cons.mpr ⟨fun _ h => List.mem_cons_of_mem _ (List.mem_append_right _ h), fun l h => absurd h List.not_mem_nil⟩⟩⟩
set_option maxRecDepth 20000 in
theorem ggX12_keep_X12_isShelf : GoodIn wsX12_keep wsX12_isShelf := goodIn_sl csX12_keep ciX12_keep _ [(1, 5, 3), (1, 4, 1), (1, 8, 1)] rfl gw_wsX12_isShelf
set_option maxRecDepth 20000 in
theorem gX12_keep_X12_isShelf : GoodIn wsX12_keep (va_wsS RX12 355 yX12_isShelf wsX12_isShelf) := goodIn_app (goodIn_sl csX12_keep ciX12_keep _ [(1, 2, 3)] rfl rfl) ggX12_keep_X12_isShelf
set_option maxRecDepth 20000 in
theorem ggX12_keep_X12_isKeeper : GoodIn wsX12_keep wsX12_isKeeper := goodIn_sl csX12_keep ciX12_keep _ [(1, 12, 2), (1, 6, 2), (1, 4, 1), (1, 8, 1), (2, 0, 59)] rfl gw_wsX12_isKeeper
set_option maxRecDepth 20000 in
theorem gX12_keep_X12_isKeeper : GoodIn wsX12_keep (wsV RX12 166 RX12 yX12_isKeeper wsX12_isKeeper) := goodIn_app (goodIn_sl csX12_keep ciX12_keep _ [(1, 9, 3), (1, 4, 1)] rfl rfl) ggX12_keep_X12_isKeeper
noncomputable def NX12_keep : Nat := 21900279525373464535567249229205857805839704502880952782251822238644747840434725437046896667
theorem nX12_keep : CN cX12_keep NX12_keep 38 := ⟨by decide +kernel, by decide +kernel⟩
theorem dX12_keep_0 : decode cX12_keep 0 = .ok (.iload_n 1, 1) := di_27 nX12_keep (Eq.refl true) (Eq.refl true)
theorem dX12_keep_1 : decode cX12_keep 1 = .ok (.invokestatic 355, 3) := di_184 nX12_keep (Eq.refl true) (Eq.refl true) (Eq.refl true)
theorem dX12_keep_4 : decode cX12_keep 4 = .ok (.ifCond .eq 16, 3) := di_153 (x := 16) nX12_keep (Eq.refl true) (Eq.refl true) (Eq.refl true) rfl
theorem dX12_keep_7 : decode cX12_keep 7 = .ok (.iload_n 2, 1) := di_28 nX12_keep (Eq.refl true) (Eq.refl true)
theorem dX12_keep_8 : decode cX12_keep 8 = .ok (.iconst (-1), 1) := di_2 nX12_keep (Eq.refl true) (Eq.refl true)
theorem dX12_keep_9 : decode cX12_keep 9 = .ok (.if_icmp .eq 13, 3) := di_159 (x := 13) nX12_keep (Eq.refl true) (Eq.refl true) (Eq.refl true) rfl
theorem dX12_keep_12 : decode cX12_keep 12 = .ok (.aload_n 0, 1) := di_42 nX12_keep (Eq.refl true) (Eq.refl true)
theorem dX12_keep_13 : decode cX12_keep 13 = .ok (.iload_n 2, 1) := di_28 nX12_keep (Eq.refl true) (Eq.refl true)
theorem dX12_keep_14 : decode cX12_keep 14 = .ok (.invokevirtual 166, 3) := di_182 nX12_keep (Eq.refl true) (Eq.refl true) (Eq.refl true)
theorem dX12_keep_17 : decode cX12_keep 17 = .ok (.ifCond .ne 5, 3) := di_154 (x := 5) nX12_keep (Eq.refl true) (Eq.refl true) (Eq.refl true) rfl
theorem dX12_keep_20 : decode cX12_keep 20 = .ok (.iconst (-1), 1) := di_2 nX12_keep (Eq.refl true) (Eq.refl true)
theorem dX12_keep_21 : decode cX12_keep 21 = .ok (.ireturn, 1) := di_172 nX12_keep (Eq.refl true) (Eq.refl true)
theorem dX12_keep_22 : decode cX12_keep 22 = .ok (.aload_n 0, 1) := di_42 nX12_keep (Eq.refl true) (Eq.refl true)
theorem dX12_keep_23 : decode cX12_keep 23 = .ok (.getfield 102, 3) := di_180 nX12_keep (Eq.refl true) (Eq.refl true) (Eq.refl true)
theorem dX12_keep_26 : decode cX12_keep 26 = .ok (.iload_n 1, 1) := di_27 nX12_keep (Eq.refl true) (Eq.refl true)
theorem dX12_keep_27 : decode cX12_keep 27 = .ok (.iload_n 2, 1) := di_28 nX12_keep (Eq.refl true) (Eq.refl true)
theorem dX12_keep_28 : decode cX12_keep 28 = .ok (.iastore, 1) := di_79 nX12_keep (Eq.refl true) (Eq.refl true)
theorem dX12_keep_29 : decode cX12_keep 29 = .ok (.aload_n 0, 1) := di_42 nX12_keep (Eq.refl true) (Eq.refl true)
theorem dX12_keep_30 : decode cX12_keep 30 = .ok (.getfield 105, 3) := di_180 nX12_keep (Eq.refl true) (Eq.refl true) (Eq.refl true)
theorem dX12_keep_33 : decode cX12_keep 33 = .ok (.iload_n 1, 1) := di_27 nX12_keep (Eq.refl true) (Eq.refl true)
theorem dX12_keep_34 : decode cX12_keep 34 = .ok (.iconst (-1), 1) := di_2 nX12_keep (Eq.refl true) (Eq.refl true)
theorem dX12_keep_35 : decode cX12_keep 35 = .ok (.iastore, 1) := di_79 nX12_keep (Eq.refl true) (Eq.refl true)
theorem dX12_keep_36 : decode cX12_keep 36 = .ok (.iconst 1, 1) := di_4 nX12_keep (Eq.refl true) (Eq.refl true)
theorem dX12_keep_37 : decode cX12_keep 37 = .ok (.ireturn, 1) := di_172 nX12_keep (Eq.refl true) (Eq.refl true)
noncomputable def csX12_row : List (List Cond) := [[Cond.code yX12_row cX12_row 5 (some .int)], [Cond.fieldLink RX12 102 "SeatsRoundModel" "shelfIs" "[I", Cond.fieldLink RX12 105 "SeatsRoundModel" "shelfSort" "[I", Cond.fieldLink RX12 108 "SeatsRoundModel" "shelfSize" "[I", Cond.fieldLink RX12 111 "SeatsRoundModel" "elements" "[J", Cond.methodLink RX12 355 yX12_isShelf, Cond.static yX12_isShelf, Cond.initialized RX12, Cond.code yX12_isShelf cX12_isShelf 1 (some .boolean), Cond.methodLink RX12 136 yX12_in, Cond.static yX12_in, Cond.code yX12_in cX12_in 3 (some .boolean)], wsX120]
set_option maxRecDepth 20000 in
theorem ciX12_row : ∀ l ∈ csX12_row, ∀ w ∈ l, w ∈ wsX12_row := by
  unfold csX12_row
  refine List.forall_mem_cons.mpr ⟨fun _ h => List.mem_cons.mpr (Or.inl (List.mem_singleton.mp h)), List.forall_mem_cons.mpr ⟨fun _ h => List.mem_cons_of_mem _ (List.mem_append_left _ h), List.forall_mem_cons.mpr ⟨fun _ h => List.mem_cons_of_mem _ (List.mem_append_right _ h), fun l h => absurd h List.not_mem_nil⟩⟩⟩
set_option maxRecDepth 20000 in
theorem ggX12_row_X12_isShelf : GoodIn wsX12_row wsX12_isShelf := goodIn_sl csX12_row ciX12_row _ [(1, 7, 3), (1, 6, 1), (1, 10, 1)] rfl gw_wsX12_isShelf
set_option maxRecDepth 20000 in
theorem gX12_row_X12_isShelf : GoodIn wsX12_row (va_wsS RX12 355 yX12_isShelf wsX12_isShelf) := goodIn_app (goodIn_sl csX12_row ciX12_row _ [(1, 4, 3)] rfl rfl) ggX12_row_X12_isShelf
set_option maxRecDepth 20000 in
theorem ggX12_row_X12_in : GoodIn wsX12_row wsX12_in := goodIn_sl csX12_row ciX12_row _ [(1, 10, 1)] rfl gw_wsX12_in
set_option maxRecDepth 20000 in
theorem gX12_row_X12_in : GoodIn wsX12_row (va_wsS RX12 136 yX12_in wsX12_in) := goodIn_app (goodIn_sl csX12_row ciX12_row _ [(1, 8, 2), (1, 6, 1)] rfl rfl) ggX12_row_X12_in
noncomputable def NX12_row : Nat := 51434446174537272037871295614458197789626248277754133730844981904558425667976496109346541198225205146194487946633182418281415618625002483744089422737456161120021006652306860386309483865586741748545563
theorem nX12_row : CN cX12_row NX12_row 83 := ⟨by decide +kernel, by decide +kernel⟩
theorem dX12_row_0 : decode cX12_row 0 = .ok (.iload_n 1, 1) := di_27 nX12_row (Eq.refl true) (Eq.refl true)
theorem dX12_row_1 : decode cX12_row 1 = .ok (.invokestatic 355, 3) := di_184 nX12_row (Eq.refl true) (Eq.refl true) (Eq.refl true)
theorem dX12_row_4 : decode cX12_row 4 = .ok (.ifCond .eq 18, 3) := di_153 (x := 18) nX12_row (Eq.refl true) (Eq.refl true) (Eq.refl true) rfl
theorem dX12_row_7 : decode cX12_row 7 = .ok (.iload_n 2, 1) := di_28 nX12_row (Eq.refl true) (Eq.refl true)
theorem dX12_row_8 : decode cX12_row 8 = .ok (.iconst 0, 1) := di_3 nX12_row (Eq.refl true) (Eq.refl true)
theorem dX12_row_9 : decode cX12_row 9 = .ok (.iconst 4, 1) := di_7 nX12_row (Eq.refl true) (Eq.refl true)
theorem dX12_row_10 : decode cX12_row 10 = .ok (.invokestatic 136, 3) := di_184 nX12_row (Eq.refl true) (Eq.refl true) (Eq.refl true)
theorem dX12_row_13 : decode cX12_row 13 = .ok (.ifCond .eq 9, 3) := di_153 (x := 9) nX12_row (Eq.refl true) (Eq.refl true) (Eq.refl true) rfl
theorem dX12_row_16 : decode cX12_row 16 = .ok (.iload_n 3, 1) := di_29 nX12_row (Eq.refl true) (Eq.refl true)
theorem dX12_row_17 : decode cX12_row 17 = .ok (.bipush 60, 2) := di_16 (x := 60) nX12_row (Eq.refl true) (Eq.refl true) rfl
theorem dX12_row_19 : decode cX12_row 19 = .ok (.if_icmp .le 5, 3) := di_164 (x := 5) nX12_row (Eq.refl true) (Eq.refl true) (Eq.refl true) rfl
theorem dX12_row_22 : decode cX12_row 22 = .ok (.iconst (-1), 1) := di_2 nX12_row (Eq.refl true) (Eq.refl true)
theorem dX12_row_23 : decode cX12_row 23 = .ok (.ireturn, 1) := di_172 nX12_row (Eq.refl true) (Eq.refl true)
theorem dX12_row_24 : decode cX12_row 24 = .ok (.iload_n 3, 1) := di_29 nX12_row (Eq.refl true) (Eq.refl true)
theorem dX12_row_25 : decode cX12_row 25 = .ok (.ifCond .ge 6, 3) := di_156 (x := 6) nX12_row (Eq.refl true) (Eq.refl true) (Eq.refl true) rfl
theorem dX12_row_28 : decode cX12_row 28 = .ok (.bipush (-14), 2) := di_16 (x := 242) nX12_row (Eq.refl true) (Eq.refl true) rfl
theorem dX12_row_30 : decode cX12_row 30 = .ok (.ireturn, 1) := di_172 nX12_row (Eq.refl true) (Eq.refl true)
theorem dX12_row_31 : decode cX12_row 31 = .ok (.aload_n 0, 1) := di_42 nX12_row (Eq.refl true) (Eq.refl true)
theorem dX12_row_32 : decode cX12_row 32 = .ok (.getfield 102, 3) := di_180 nX12_row (Eq.refl true) (Eq.refl true) (Eq.refl true)
theorem dX12_row_35 : decode cX12_row 35 = .ok (.iload_n 1, 1) := di_27 nX12_row (Eq.refl true) (Eq.refl true)
theorem dX12_row_36 : decode cX12_row 36 = .ok (.iconst (-1), 1) := di_2 nX12_row (Eq.refl true) (Eq.refl true)
theorem dX12_row_37 : decode cX12_row 37 = .ok (.iastore, 1) := di_79 nX12_row (Eq.refl true) (Eq.refl true)
theorem dX12_row_38 : decode cX12_row 38 = .ok (.aload_n 0, 1) := di_42 nX12_row (Eq.refl true) (Eq.refl true)
theorem dX12_row_39 : decode cX12_row 39 = .ok (.getfield 105, 3) := di_180 nX12_row (Eq.refl true) (Eq.refl true) (Eq.refl true)
theorem dX12_row_42 : decode cX12_row 42 = .ok (.iload_n 1, 1) := di_27 nX12_row (Eq.refl true) (Eq.refl true)
theorem dX12_row_43 : decode cX12_row 43 = .ok (.iload_n 2, 1) := di_28 nX12_row (Eq.refl true) (Eq.refl true)
theorem dX12_row_44 : decode cX12_row 44 = .ok (.iastore, 1) := di_79 nX12_row (Eq.refl true) (Eq.refl true)
theorem dX12_row_45 : decode cX12_row 45 = .ok (.aload_n 0, 1) := di_42 nX12_row (Eq.refl true) (Eq.refl true)
theorem dX12_row_46 : decode cX12_row 46 = .ok (.getfield 108, 3) := di_180 nX12_row (Eq.refl true) (Eq.refl true) (Eq.refl true)
theorem dX12_row_49 : decode cX12_row 49 = .ok (.iload_n 1, 1) := di_27 nX12_row (Eq.refl true) (Eq.refl true)
theorem dX12_row_50 : decode cX12_row 50 = .ok (.iload_n 3, 1) := di_29 nX12_row (Eq.refl true) (Eq.refl true)
theorem dX12_row_51 : decode cX12_row 51 = .ok (.iastore, 1) := di_79 nX12_row (Eq.refl true) (Eq.refl true)
theorem dX12_row_52 : decode cX12_row 52 = .ok (.iconst 0, 1) := di_3 nX12_row (Eq.refl true) (Eq.refl true)
theorem dX12_row_53 : decode cX12_row 53 = .ok (.istore 4, 2) := di_54 nX12_row (Eq.refl true) (Eq.refl true)
theorem dX12_row_55 : decode cX12_row 55 = .ok (.iload 4, 2) := di_21 nX12_row (Eq.refl true) (Eq.refl true)
theorem dX12_row_57 : decode cX12_row 57 = .ok (.bipush 60, 2) := di_16 (x := 60) nX12_row (Eq.refl true) (Eq.refl true) rfl
theorem dX12_row_59 : decode cX12_row 59 = .ok (.if_icmp .ge 22, 3) := di_162 (x := 22) nX12_row (Eq.refl true) (Eq.refl true) (Eq.refl true) rfl
theorem dX12_row_62 : decode cX12_row 62 = .ok (.aload_n 0, 1) := di_42 nX12_row (Eq.refl true) (Eq.refl true)
theorem dX12_row_63 : decode cX12_row 63 = .ok (.getfield 111, 3) := di_180 nX12_row (Eq.refl true) (Eq.refl true) (Eq.refl true)
theorem dX12_row_66 : decode cX12_row 66 = .ok (.bipush 60, 2) := di_16 (x := 60) nX12_row (Eq.refl true) (Eq.refl true) rfl
theorem dX12_row_68 : decode cX12_row 68 = .ok (.iload_n 1, 1) := di_27 nX12_row (Eq.refl true) (Eq.refl true)
theorem dX12_row_69 : decode cX12_row 69 = .ok (.imul, 1) := di_104 nX12_row (Eq.refl true) (Eq.refl true)
theorem dX12_row_70 : decode cX12_row 70 = .ok (.iload 4, 2) := di_21 nX12_row (Eq.refl true) (Eq.refl true)
theorem dX12_row_72 : decode cX12_row 72 = .ok (.iadd, 1) := di_96 nX12_row (Eq.refl true) (Eq.refl true)
theorem dX12_row_73 : decode cX12_row 73 = .ok (.lconst 0, 1) := di_9 nX12_row (Eq.refl true) (Eq.refl true)
theorem dX12_row_74 : decode cX12_row 74 = .ok (.lastore, 1) := di_80 nX12_row (Eq.refl true) (Eq.refl true)
theorem dX12_row_75 : decode cX12_row 75 = .ok (.iinc 4 1, 3) := di_132 (y := 1) nX12_row (Eq.refl true) (Eq.refl true) (Eq.refl true) rfl
theorem dX12_row_78 : decode cX12_row 78 = .ok (.goto (-23), 3) := di_167 (x := 65513) nX12_row (Eq.refl true) (Eq.refl true) (Eq.refl true) rfl
theorem dX12_row_81 : decode cX12_row 81 = .ok (.iconst 1, 1) := di_4 nX12_row (Eq.refl true) (Eq.refl true)
theorem dX12_row_82 : decode cX12_row 82 = .ok (.ireturn, 1) := di_172 nX12_row (Eq.refl true) (Eq.refl true)
noncomputable def csX12_barred : List (List Cond) := [[Cond.code yX12_barred cX12_barred 3 (some .int)], [Cond.fieldLink RX12 105 "SeatsRoundModel" "shelfSort" "[I", Cond.fieldLink RX12 102 "SeatsRoundModel" "shelfIs" "[I", Cond.fieldLink RX12 108 "SeatsRoundModel" "shelfSize" "[I", Cond.methodLink RX12 355 yX12_isShelf, Cond.static yX12_isShelf, Cond.initialized RX12, Cond.code yX12_isShelf cX12_isShelf 1 (some .boolean), Cond.methodLink RX12 136 yX12_in, Cond.static yX12_in, Cond.code yX12_in cX12_in 3 (some .boolean)], wsX120]
set_option maxRecDepth 20000 in
theorem ciX12_barred : ∀ l ∈ csX12_barred, ∀ w ∈ l, w ∈ wsX12_barred := by
  unfold csX12_barred
  refine List.forall_mem_cons.mpr ⟨fun _ h => List.mem_cons.mpr (Or.inl (List.mem_singleton.mp h)), List.forall_mem_cons.mpr ⟨fun _ h => List.mem_cons_of_mem _ (List.mem_append_left _ h), List.forall_mem_cons.mpr ⟨fun _ h => List.mem_cons_of_mem _ (List.mem_append_right _ h), fun l h => absurd h List.not_mem_nil⟩⟩⟩
set_option maxRecDepth 20000 in
theorem ggX12_barred_X12_isShelf : GoodIn wsX12_barred wsX12_isShelf := goodIn_sl csX12_barred ciX12_barred _ [(1, 6, 3), (1, 5, 1), (1, 9, 1)] rfl gw_wsX12_isShelf
set_option maxRecDepth 20000 in
theorem gX12_barred_X12_isShelf : GoodIn wsX12_barred (va_wsS RX12 355 yX12_isShelf wsX12_isShelf) := goodIn_app (goodIn_sl csX12_barred ciX12_barred _ [(1, 3, 3)] rfl rfl) ggX12_barred_X12_isShelf
noncomputable def NX12_barred : Nat := 32180830001089920902945693783701116282600183572490255827525993140602610232146597043442434025714693375403512072665407508685827206209075263515
theorem nX12_barred : CN cX12_barred NX12_barred 58 := ⟨by decide +kernel, by decide +kernel⟩
theorem dX12_barred_0 : decode cX12_barred 0 = .ok (.iload_n 1, 1) := di_27 nX12_barred (Eq.refl true) (Eq.refl true)
theorem dX12_barred_1 : decode cX12_barred 1 = .ok (.invokestatic 355, 3) := di_184 nX12_barred (Eq.refl true) (Eq.refl true) (Eq.refl true)
theorem dX12_barred_4 : decode cX12_barred 4 = .ok (.ifCond .ne 5, 3) := di_154 (x := 5) nX12_barred (Eq.refl true) (Eq.refl true) (Eq.refl true) rfl
theorem dX12_barred_7 : decode cX12_barred 7 = .ok (.iconst (-1), 1) := di_2 nX12_barred (Eq.refl true) (Eq.refl true)
theorem dX12_barred_8 : decode cX12_barred 8 = .ok (.ireturn, 1) := di_172 nX12_barred (Eq.refl true) (Eq.refl true)
theorem dX12_barred_9 : decode cX12_barred 9 = .ok (.aload_n 0, 1) := di_42 nX12_barred (Eq.refl true) (Eq.refl true)
theorem dX12_barred_10 : decode cX12_barred 10 = .ok (.getfield 105, 3) := di_180 nX12_barred (Eq.refl true) (Eq.refl true) (Eq.refl true)
theorem dX12_barred_13 : decode cX12_barred 13 = .ok (.iload_n 1, 1) := di_27 nX12_barred (Eq.refl true) (Eq.refl true)
theorem dX12_barred_14 : decode cX12_barred 14 = .ok (.iaload, 1) := di_46 nX12_barred (Eq.refl true) (Eq.refl true)
theorem dX12_barred_15 : decode cX12_barred 15 = .ok (.ifCond .ge 20, 3) := di_156 (x := 20) nX12_barred (Eq.refl true) (Eq.refl true) (Eq.refl true) rfl
theorem dX12_barred_18 : decode cX12_barred 18 = .ok (.aload_n 0, 1) := di_42 nX12_barred (Eq.refl true) (Eq.refl true)
theorem dX12_barred_19 : decode cX12_barred 19 = .ok (.getfield 102, 3) := di_180 nX12_barred (Eq.refl true) (Eq.refl true) (Eq.refl true)
theorem dX12_barred_22 : decode cX12_barred 22 = .ok (.iload_n 1, 1) := di_27 nX12_barred (Eq.refl true) (Eq.refl true)
theorem dX12_barred_23 : decode cX12_barred 23 = .ok (.iaload, 1) := di_46 nX12_barred (Eq.refl true) (Eq.refl true)
theorem dX12_barred_24 : decode cX12_barred 24 = .ok (.ifCond .ge 8, 3) := di_156 (x := 8) nX12_barred (Eq.refl true) (Eq.refl true) (Eq.refl true) rfl
theorem dX12_barred_27 : decode cX12_barred 27 = .ok (.bipush (-11), 2) := di_16 (x := 245) nX12_barred (Eq.refl true) (Eq.refl true) rfl
theorem dX12_barred_29 : decode cX12_barred 29 = .ok (.goto 5, 3) := di_167 (x := 5) nX12_barred (Eq.refl true) (Eq.refl true) (Eq.refl true) rfl
theorem dX12_barred_34 : decode cX12_barred 34 = .ok (.ireturn, 1) := di_172 nX12_barred (Eq.refl true) (Eq.refl true)
noncomputable def csX12_put : List (List Cond) := [[Cond.code yX12_put cX12_put 7 (some .int)], [Cond.fieldLink RX12 105 "SeatsRoundModel" "shelfSort" "[I", Cond.fieldLink RX12 111 "SeatsRoundModel" "elements" "[J", Cond.methodLink RX12 358 yX12_barred, Cond.instanceMethod yX12_barred, Cond.selects RX12 yX12_barred yX12_barred, Cond.initialized RX12, Cond.code yX12_barred cX12_barred 3 (some .int), Cond.fieldLink RX12 102 "SeatsRoundModel" "shelfIs" "[I", Cond.fieldLink RX12 108 "SeatsRoundModel" "shelfSize" "[I", Cond.methodLink RX12 355 yX12_isShelf, Cond.static yX12_isShelf, Cond.code yX12_isShelf cX12_isShelf 1 (some .boolean), Cond.methodLink RX12 136 yX12_in, Cond.static yX12_in, Cond.code yX12_in cX12_in 3 (some .boolean)], wsX120]
set_option maxRecDepth 20000 in
theorem ciX12_put : ∀ l ∈ csX12_put, ∀ w ∈ l, w ∈ wsX12_put := by
  unfold csX12_put
  refine List.forall_mem_cons.mpr ⟨fun _ h => List.mem_cons.mpr (Or.inl (List.mem_singleton.mp h)), List.forall_mem_cons.mpr ⟨fun _ h => List.mem_cons_of_mem _ (List.mem_append_left _ h), List.forall_mem_cons.mpr ⟨fun _ h => List.mem_cons_of_mem _ (List.mem_append_right _ h), fun l h => absurd h List.not_mem_nil⟩⟩⟩
set_option maxRecDepth 20000 in
theorem ggX12_put_X12_barred : GoodIn wsX12_put wsX12_barred := goodIn_sl csX12_put ciX12_put _ [(1, 6, 1), (1, 0, 1), (1, 7, 4), (1, 5, 1), (1, 11, 4), (2, 0, 59)] rfl gw_wsX12_barred
set_option maxRecDepth 20000 in
theorem gX12_put_X12_barred : GoodIn wsX12_put (wsV RX12 358 RX12 yX12_barred wsX12_barred) := goodIn_app (goodIn_sl csX12_put ciX12_put _ [(1, 2, 4)] rfl rfl) ggX12_put_X12_barred
noncomputable def NX12_put : Nat := 4075001006605277206481352377743683620475481832949610020310484144896242201715983803891565778012802192845255895489361557326911725506952595883289077931687389772723102673552933147329164799326110767834170968357823136570824315585174314
theorem nX12_put : CN cX12_put NX12_put 95 := ⟨by decide +kernel, by decide +kernel⟩
theorem dX12_put_0 : decode cX12_put 0 = .ok (.aload_n 0, 1) := di_42 nX12_put (Eq.refl true) (Eq.refl true)
theorem dX12_put_1 : decode cX12_put 1 = .ok (.iload_n 1, 1) := di_27 nX12_put (Eq.refl true) (Eq.refl true)
theorem dX12_put_2 : decode cX12_put 2 = .ok (.iload_n 2, 1) := di_28 nX12_put (Eq.refl true) (Eq.refl true)
theorem dX12_put_3 : decode cX12_put 3 = .ok (.invokevirtual 358, 3) := di_182 nX12_put (Eq.refl true) (Eq.refl true) (Eq.refl true)
theorem dX12_put_6 : decode cX12_put 6 = .ok (.istore 5, 2) := di_54 nX12_put (Eq.refl true) (Eq.refl true)
theorem dX12_put_8 : decode cX12_put 8 = .ok (.iload 5, 2) := di_21 nX12_put (Eq.refl true) (Eq.refl true)
theorem dX12_put_10 : decode cX12_put 10 = .ok (.ifCond .eq 6, 3) := di_153 (x := 6) nX12_put (Eq.refl true) (Eq.refl true) (Eq.refl true) rfl
theorem dX12_put_13 : decode cX12_put 13 = .ok (.iload 5, 2) := di_21 nX12_put (Eq.refl true) (Eq.refl true)
theorem dX12_put_15 : decode cX12_put 15 = .ok (.ireturn, 1) := di_172 nX12_put (Eq.refl true) (Eq.refl true)
noncomputable def csX12_element : List (List Cond) := [[Cond.code yX12_element cX12_element 3 (some .long)], [Cond.constantLong RX12 361 (-9223372036854775808), Cond.fieldLink RX12 111 "SeatsRoundModel" "elements" "[J", Cond.methodLink RX12 358 yX12_barred, Cond.instanceMethod yX12_barred, Cond.selects RX12 yX12_barred yX12_barred, Cond.initialized RX12, Cond.code yX12_barred cX12_barred 3 (some .int), Cond.fieldLink RX12 105 "SeatsRoundModel" "shelfSort" "[I", Cond.fieldLink RX12 102 "SeatsRoundModel" "shelfIs" "[I", Cond.fieldLink RX12 108 "SeatsRoundModel" "shelfSize" "[I", Cond.methodLink RX12 355 yX12_isShelf, Cond.static yX12_isShelf, Cond.code yX12_isShelf cX12_isShelf 1 (some .boolean), Cond.methodLink RX12 136 yX12_in, Cond.static yX12_in, Cond.code yX12_in cX12_in 3 (some .boolean)], wsX120]
set_option maxRecDepth 20000 in
theorem ciX12_element : ∀ l ∈ csX12_element, ∀ w ∈ l, w ∈ wsX12_element := by
  unfold csX12_element
  refine List.forall_mem_cons.mpr ⟨fun _ h => List.mem_cons.mpr (Or.inl (List.mem_singleton.mp h)), List.forall_mem_cons.mpr ⟨fun _ h => List.mem_cons_of_mem _ (List.mem_append_left _ h), List.forall_mem_cons.mpr ⟨fun _ h => List.mem_cons_of_mem _ (List.mem_append_right _ h), fun l h => absurd h List.not_mem_nil⟩⟩⟩
set_option maxRecDepth 20000 in
theorem ggX12_element_X12_barred : GoodIn wsX12_element wsX12_barred := goodIn_sl csX12_element ciX12_element _ [(1, 6, 6), (1, 5, 1), (1, 12, 4), (2, 0, 59)] rfl gw_wsX12_barred
set_option maxRecDepth 20000 in
theorem gX12_element_X12_barred : GoodIn wsX12_element (wsV RX12 358 RX12 yX12_barred wsX12_barred) := goodIn_app (goodIn_sl csX12_element ciX12_element _ [(1, 2, 4)] rfl rfl) ggX12_element_X12_barred
noncomputable def NX12_element : Nat := 71244201490518343994287471135689170417217551317231836001237474090
theorem nX12_element : CN cX12_element NX12_element 27 := ⟨by decide +kernel, by decide +kernel⟩
theorem dX12_element_0 : decode cX12_element 0 = .ok (.aload_n 0, 1) := di_42 nX12_element (Eq.refl true) (Eq.refl true)
theorem dX12_element_1 : decode cX12_element 1 = .ok (.iload_n 1, 1) := di_27 nX12_element (Eq.refl true) (Eq.refl true)
theorem dX12_element_2 : decode cX12_element 2 = .ok (.iload_n 2, 1) := di_28 nX12_element (Eq.refl true) (Eq.refl true)
theorem dX12_element_3 : decode cX12_element 3 = .ok (.invokevirtual 358, 3) := di_182 nX12_element (Eq.refl true) (Eq.refl true) (Eq.refl true)
theorem dX12_element_6 : decode cX12_element 6 = .ok (.ifCond .eq 9, 3) := di_153 (x := 9) nX12_element (Eq.refl true) (Eq.refl true) (Eq.refl true) rfl
theorem dX12_element_9 : decode cX12_element 9 = .ok (.ldc2_w 361, 3) := di_20 nX12_element (Eq.refl true) (Eq.refl true) (Eq.refl true)
theorem dX12_element_12 : decode cX12_element 12 = .ok (.goto 14, 3) := di_167 (x := 14) nX12_element (Eq.refl true) (Eq.refl true) (Eq.refl true) rfl
theorem dX12_element_26 : decode cX12_element 26 = .ok (.lreturn, 1) := di_173 nX12_element (Eq.refl true) (Eq.refl true)
noncomputable def csX12_shift : List (List Cond) := [[Cond.code yX12_shift cX12_shift 10 (some .int)], [Cond.fieldLink RX12 105 "SeatsRoundModel" "shelfSort" "[I", Cond.fieldLink RX12 102 "SeatsRoundModel" "shelfIs" "[I", Cond.fieldLink RX12 108 "SeatsRoundModel" "shelfSize" "[I", Cond.fieldLink RX12 111 "SeatsRoundModel" "elements" "[J", Cond.methodLink RX12 355 yX12_isShelf, Cond.static yX12_isShelf, Cond.initialized RX12, Cond.code yX12_isShelf cX12_isShelf 1 (some .boolean), Cond.methodLink RX12 136 yX12_in, Cond.static yX12_in, Cond.code yX12_in cX12_in 3 (some .boolean)], wsX120]
set_option maxRecDepth 20000 in
theorem ciX12_shift : ∀ l ∈ csX12_shift, ∀ w ∈ l, w ∈ wsX12_shift := by
  unfold csX12_shift
  refine List.forall_mem_cons.mpr ⟨fun _ h => List.mem_cons.mpr (Or.inl (List.mem_singleton.mp h)), List.forall_mem_cons.mpr ⟨fun _ h => List.mem_cons_of_mem _ (List.mem_append_left _ h), List.forall_mem_cons.mpr ⟨fun _ h => List.mem_cons_of_mem _ (List.mem_append_right _ h), fun l h => absurd h List.not_mem_nil⟩⟩⟩
set_option maxRecDepth 20000 in
theorem ggX12_shift_X12_isShelf : GoodIn wsX12_shift wsX12_isShelf := goodIn_sl csX12_shift ciX12_shift _ [(1, 7, 3), (1, 6, 1), (1, 10, 1)] rfl gw_wsX12_isShelf
set_option maxRecDepth 20000 in
theorem gX12_shift_X12_isShelf : GoodIn wsX12_shift (va_wsS RX12 355 yX12_isShelf wsX12_isShelf) := goodIn_app (goodIn_sl csX12_shift ciX12_shift _ [(1, 4, 3)] rfl rfl) ggX12_shift_X12_isShelf
noncomputable def NX12_shift : Nat := 187538684120993586073179970692990261684387347199708696369048289678172374299940381350311102124055464705315353016745423308209496542677071609081196346174122336848750051371202008812075297593497179876927412261829522059484058032392987894635000951291486616362087725204772325789084515555755158343088568134087562820663541060107635769194414238453605328150474652383436342427696955463322179554336685387911766967597040432176625533547855802633794929720054173643690818866308730462216630964664182403691098722160170548744869675368889738633832351306134698011
theorem nX12_shift : CN cX12_shift NX12_shift 224 := ⟨by decide +kernel, by decide +kernel⟩
theorem dX12_shift_0 : decode cX12_shift 0 = .ok (.iload_n 1, 1) := di_27 nX12_shift (Eq.refl true) (Eq.refl true)
theorem dX12_shift_1 : decode cX12_shift 1 = .ok (.invokestatic 355, 3) := di_184 nX12_shift (Eq.refl true) (Eq.refl true) (Eq.refl true)
theorem dX12_shift_4 : decode cX12_shift 4 = .ok (.ifCond .eq 10, 3) := di_153 (x := 10) nX12_shift (Eq.refl true) (Eq.refl true) (Eq.refl true) rfl
theorem dX12_shift_7 : decode cX12_shift 7 = .ok (.iload_n 3, 1) := di_29 nX12_shift (Eq.refl true) (Eq.refl true)
theorem dX12_shift_8 : decode cX12_shift 8 = .ok (.invokestatic 355, 3) := di_184 nX12_shift (Eq.refl true) (Eq.refl true) (Eq.refl true)
theorem dX12_shift_11 : decode cX12_shift 11 = .ok (.ifCond .ne 5, 3) := di_154 (x := 5) nX12_shift (Eq.refl true) (Eq.refl true) (Eq.refl true) rfl
theorem dX12_shift_14 : decode cX12_shift 14 = .ok (.iconst (-1), 1) := di_2 nX12_shift (Eq.refl true) (Eq.refl true)
theorem dX12_shift_15 : decode cX12_shift 15 = .ok (.ireturn, 1) := di_172 nX12_shift (Eq.refl true) (Eq.refl true)
theorem dX12_shift_16 : decode cX12_shift 16 = .ok (.aload_n 0, 1) := di_42 nX12_shift (Eq.refl true) (Eq.refl true)
theorem dX12_shift_17 : decode cX12_shift 17 = .ok (.getfield 105, 3) := di_180 nX12_shift (Eq.refl true) (Eq.refl true) (Eq.refl true)
theorem dX12_shift_20 : decode cX12_shift 20 = .ok (.iload_n 1, 1) := di_27 nX12_shift (Eq.refl true) (Eq.refl true)
theorem dX12_shift_21 : decode cX12_shift 21 = .ok (.iaload, 1) := di_46 nX12_shift (Eq.refl true) (Eq.refl true)
theorem dX12_shift_22 : decode cX12_shift 22 = .ok (.ifCond .ge 12, 3) := di_156 (x := 12) nX12_shift (Eq.refl true) (Eq.refl true) (Eq.refl true) rfl
theorem dX12_shift_25 : decode cX12_shift 25 = .ok (.aload_n 0, 1) := di_42 nX12_shift (Eq.refl true) (Eq.refl true)
theorem dX12_shift_26 : decode cX12_shift 26 = .ok (.getfield 102, 3) := di_180 nX12_shift (Eq.refl true) (Eq.refl true) (Eq.refl true)
theorem dX12_shift_29 : decode cX12_shift 29 = .ok (.iload_n 1, 1) := di_27 nX12_shift (Eq.refl true) (Eq.refl true)
theorem dX12_shift_30 : decode cX12_shift 30 = .ok (.iaload, 1) := di_46 nX12_shift (Eq.refl true) (Eq.refl true)
theorem dX12_shift_31 : decode cX12_shift 31 = .ok (.ifCond .lt 21, 3) := di_155 (x := 21) nX12_shift (Eq.refl true) (Eq.refl true) (Eq.refl true) rfl
theorem dX12_shift_52 : decode cX12_shift 52 = .ok (.bipush (-11), 2) := di_16 (x := 245) nX12_shift (Eq.refl true) (Eq.refl true) rfl
theorem dX12_shift_54 : decode cX12_shift 54 = .ok (.ireturn, 1) := di_172 nX12_shift (Eq.refl true) (Eq.refl true)
noncomputable def csX12_taken : List (List Cond) := [[Cond.code yX12_taken cX12_taken 4 (some .int)], [Cond.fieldLink RX12 105 "SeatsRoundModel" "shelfSort" "[I", Cond.fieldLink RX12 102 "SeatsRoundModel" "shelfIs" "[I", Cond.fieldLink RX12 22 "SeatsRoundModel" "kind" "[I", Cond.methodLink RX12 355 yX12_isShelf, Cond.static yX12_isShelf, Cond.initialized RX12, Cond.code yX12_isShelf cX12_isShelf 1 (some .boolean), Cond.methodLink RX12 136 yX12_in, Cond.static yX12_in, Cond.code yX12_in cX12_in 3 (some .boolean)], wsX120]
set_option maxRecDepth 20000 in
theorem ciX12_taken : ∀ l ∈ csX12_taken, ∀ w ∈ l, w ∈ wsX12_taken := by
  unfold csX12_taken
  refine List.forall_mem_cons.mpr ⟨fun _ h => List.mem_cons.mpr (Or.inl (List.mem_singleton.mp h)), List.forall_mem_cons.mpr ⟨fun _ h => List.mem_cons_of_mem _ (List.mem_append_left _ h), List.forall_mem_cons.mpr ⟨fun _ h => List.mem_cons_of_mem _ (List.mem_append_right _ h), fun l h => absurd h List.not_mem_nil⟩⟩⟩
set_option maxRecDepth 20000 in
theorem ggX12_taken_X12_isShelf : GoodIn wsX12_taken wsX12_isShelf := goodIn_sl csX12_taken ciX12_taken _ [(1, 6, 3), (1, 5, 1), (1, 9, 1)] rfl gw_wsX12_isShelf
set_option maxRecDepth 20000 in
theorem gX12_taken_X12_isShelf : GoodIn wsX12_taken (va_wsS RX12 355 yX12_isShelf wsX12_isShelf) := goodIn_app (goodIn_sl csX12_taken ciX12_taken _ [(1, 3, 3)] rfl rfl) ggX12_taken_X12_isShelf
set_option maxRecDepth 20000 in
theorem ggX12_taken_X12_in : GoodIn wsX12_taken wsX12_in := goodIn_sl csX12_taken ciX12_taken _ [(1, 9, 1)] rfl gw_wsX12_in
set_option maxRecDepth 20000 in
theorem gX12_taken_X12_in : GoodIn wsX12_taken (va_wsS RX12 136 yX12_in wsX12_in) := goodIn_app (goodIn_sl csX12_taken ciX12_taken _ [(1, 7, 2), (1, 5, 1)] rfl rfl) ggX12_taken_X12_in
noncomputable def NX12_taken : Nat := 953950643556232479686581839856887698882296865219966916382416997603946188918510028046373156132238179369766137840215512490133505108919656335548764861887206806714225868653149794616260545043795880725744727905635639293491227
theorem nX12_taken : CN cX12_taken NX12_taken 91 := ⟨by decide +kernel, by decide +kernel⟩
theorem dX12_taken_0 : decode cX12_taken 0 = .ok (.iload_n 1, 1) := di_27 nX12_taken (Eq.refl true) (Eq.refl true)
theorem dX12_taken_1 : decode cX12_taken 1 = .ok (.invokestatic 355, 3) := di_184 nX12_taken (Eq.refl true) (Eq.refl true) (Eq.refl true)
theorem dX12_taken_4 : decode cX12_taken 4 = .ok (.ifCond .eq 13, 3) := di_153 (x := 13) nX12_taken (Eq.refl true) (Eq.refl true) (Eq.refl true) rfl
theorem dX12_taken_7 : decode cX12_taken 7 = .ok (.iload_n 2, 1) := di_28 nX12_taken (Eq.refl true) (Eq.refl true)
theorem dX12_taken_8 : decode cX12_taken 8 = .ok (.iconst 0, 1) := di_3 nX12_taken (Eq.refl true) (Eq.refl true)
theorem dX12_taken_9 : decode cX12_taken 9 = .ok (.bipush 6, 2) := di_16 (x := 6) nX12_taken (Eq.refl true) (Eq.refl true) rfl
theorem dX12_taken_11 : decode cX12_taken 11 = .ok (.invokestatic 136, 3) := di_184 nX12_taken (Eq.refl true) (Eq.refl true) (Eq.refl true)
theorem dX12_taken_14 : decode cX12_taken 14 = .ok (.ifCond .ne 5, 3) := di_154 (x := 5) nX12_taken (Eq.refl true) (Eq.refl true) (Eq.refl true) rfl
theorem dX12_taken_17 : decode cX12_taken 17 = .ok (.iconst (-1), 1) := di_2 nX12_taken (Eq.refl true) (Eq.refl true)
theorem dX12_taken_18 : decode cX12_taken 18 = .ok (.ireturn, 1) := di_172 nX12_taken (Eq.refl true) (Eq.refl true)
theorem dX12_taken_19 : decode cX12_taken 19 = .ok (.aload_n 0, 1) := di_42 nX12_taken (Eq.refl true) (Eq.refl true)
theorem dX12_taken_20 : decode cX12_taken 20 = .ok (.getfield 105, 3) := di_180 nX12_taken (Eq.refl true) (Eq.refl true) (Eq.refl true)
theorem dX12_taken_23 : decode cX12_taken 23 = .ok (.iload_n 1, 1) := di_27 nX12_taken (Eq.refl true) (Eq.refl true)
theorem dX12_taken_24 : decode cX12_taken 24 = .ok (.iaload, 1) := di_46 nX12_taken (Eq.refl true) (Eq.refl true)
theorem dX12_taken_25 : decode cX12_taken 25 = .ok (.ifCond .ge 15, 3) := di_156 (x := 15) nX12_taken (Eq.refl true) (Eq.refl true) (Eq.refl true) rfl
theorem dX12_taken_28 : decode cX12_taken 28 = .ok (.aload_n 0, 1) := di_42 nX12_taken (Eq.refl true) (Eq.refl true)
theorem dX12_taken_29 : decode cX12_taken 29 = .ok (.getfield 102, 3) := di_180 nX12_taken (Eq.refl true) (Eq.refl true) (Eq.refl true)
theorem dX12_taken_32 : decode cX12_taken 32 = .ok (.iload_n 1, 1) := di_27 nX12_taken (Eq.refl true) (Eq.refl true)
theorem dX12_taken_33 : decode cX12_taken 33 = .ok (.iaload, 1) := di_46 nX12_taken (Eq.refl true) (Eq.refl true)
theorem dX12_taken_34 : decode cX12_taken 34 = .ok (.ifCond .ge 6, 3) := di_156 (x := 6) nX12_taken (Eq.refl true) (Eq.refl true) (Eq.refl true) rfl
theorem dX12_taken_37 : decode cX12_taken 37 = .ok (.bipush (-11), 2) := di_16 (x := 245) nX12_taken (Eq.refl true) (Eq.refl true) rfl
theorem dX12_taken_39 : decode cX12_taken 39 = .ok (.ireturn, 1) := di_172 nX12_taken (Eq.refl true) (Eq.refl true)
noncomputable def csX12_names : List (List Cond) := [[Cond.code yX12_names cX12_names 11 (some .int)], [Cond.fieldLink RX12 102 "SeatsRoundModel" "shelfIs" "[I", Cond.fieldLink RX12 105 "SeatsRoundModel" "shelfSort" "[I", Cond.fieldLink RX12 108 "SeatsRoundModel" "shelfSize" "[I", Cond.fieldLink RX12 111 "SeatsRoundModel" "elements" "[J", Cond.fieldLink RX12 115 "SeatsRoundModel" "told" "[I", Cond.fieldLink RX12 133 "SeatsRoundModel" "names" "I", Cond.methodLink RX12 355 yX12_isShelf, Cond.static yX12_isShelf, Cond.initialized RX12, Cond.code yX12_isShelf cX12_isShelf 1 (some .boolean), Cond.methodLink RX12 136 yX12_in, Cond.static yX12_in, Cond.code yX12_in cX12_in 3 (some .boolean), Cond.methodLink RX12 149 yX12_found, Cond.instanceMethod yX12_found, Cond.selects RX12 yX12_found yX12_found, Cond.code yX12_found cX12_found 5 (some .int), Cond.fieldLink RX12 7 "SeatsRoundModel" "nameSize" "[I", Cond.fieldLink RX12 13 "SeatsRoundModel" "nameByte" "[I", Cond.methodLink RX12 153 yX12_comesName, Cond.instanceMethod yX12_comesName, Cond.selects RX12 yX12_comesName yX12_comesName, Cond.code yX12_comesName cX12_comesName 3 none], wsX120]
set_option maxRecDepth 20000 in
theorem ciX12_names : ∀ l ∈ csX12_names, ∀ w ∈ l, w ∈ wsX12_names := by
  unfold csX12_names
  refine List.forall_mem_cons.mpr ⟨fun _ h => List.mem_cons.mpr (Or.inl (List.mem_singleton.mp h)), List.forall_mem_cons.mpr ⟨fun _ h => List.mem_cons_of_mem _ (List.mem_append_left _ h), List.forall_mem_cons.mpr ⟨fun _ h => List.mem_cons_of_mem _ (List.mem_append_right _ h), fun l h => absurd h List.not_mem_nil⟩⟩⟩
set_option maxRecDepth 20000 in
theorem ggX12_names_X12_isShelf : GoodIn wsX12_names wsX12_isShelf := goodIn_sl csX12_names ciX12_names _ [(1, 9, 3), (1, 8, 1), (1, 12, 1)] rfl gw_wsX12_isShelf
set_option maxRecDepth 20000 in
theorem gX12_names_X12_isShelf : GoodIn wsX12_names (va_wsS RX12 355 yX12_isShelf wsX12_isShelf) := goodIn_app (goodIn_sl csX12_names ciX12_names _ [(1, 6, 3)] rfl rfl) ggX12_names_X12_isShelf
set_option maxRecDepth 20000 in
theorem ggX12_names_X12_in : GoodIn wsX12_names wsX12_in := goodIn_sl csX12_names ciX12_names _ [(1, 12, 1)] rfl gw_wsX12_in
set_option maxRecDepth 20000 in
theorem gX12_names_X12_in : GoodIn wsX12_names (va_wsS RX12 136 yX12_in wsX12_in) := goodIn_app (goodIn_sl csX12_names ciX12_names _ [(1, 10, 2), (1, 8, 1)] rfl rfl) ggX12_names_X12_in
noncomputable def NX12_names : Nat := 164792868783705185366540395587618586896848837832567513985805483016859097210745157241130160002467106661246255844226549141029854100561950965481754925600862193290440145287398484479975644392497924484826601771138640801401112271251432428215692755005159607755037054033176719609126378366040067859720716512989506179738619215812687056920279199576486553813361559566645591752108804939360027881504932702718448383048062838329069328903953224905776434413531377872431875379949628039338933355991529810947713007062363213728572013244241544351832417207432428101367206607178268089045442634981188982273470397482734152918520076121389303962842292527205773714299633431118890726013720302935742439359434034857818479214863693851
theorem nX12_names : CN cX12_names NX12_names 290 := ⟨by decide +kernel, by decide +kernel⟩
theorem dX12_names_0 : decode cX12_names 0 = .ok (.iload_n 1, 1) := di_27 nX12_names (Eq.refl true) (Eq.refl true)
theorem dX12_names_1 : decode cX12_names 1 = .ok (.invokestatic 355, 3) := di_184 nX12_names (Eq.refl true) (Eq.refl true) (Eq.refl true)
theorem dX12_names_4 : decode cX12_names 4 = .ok (.ifCond .eq 13, 3) := di_153 (x := 13) nX12_names (Eq.refl true) (Eq.refl true) (Eq.refl true) rfl
theorem dX12_names_7 : decode cX12_names 7 = .ok (.iload_n 3, 1) := di_29 nX12_names (Eq.refl true) (Eq.refl true)
theorem dX12_names_8 : decode cX12_names 8 = .ok (.iconst 1, 1) := di_4 nX12_names (Eq.refl true) (Eq.refl true)
theorem dX12_names_9 : decode cX12_names 9 = .ok (.bipush 20, 2) := di_16 (x := 20) nX12_names (Eq.refl true) (Eq.refl true) rfl
theorem dX12_names_11 : decode cX12_names 11 = .ok (.invokestatic 136, 3) := di_184 nX12_names (Eq.refl true) (Eq.refl true) (Eq.refl true)
theorem dX12_names_14 : decode cX12_names 14 = .ok (.ifCond .ne 5, 3) := di_154 (x := 5) nX12_names (Eq.refl true) (Eq.refl true) (Eq.refl true) rfl
theorem dX12_names_17 : decode cX12_names 17 = .ok (.iconst (-1), 1) := di_2 nX12_names (Eq.refl true) (Eq.refl true)
theorem dX12_names_18 : decode cX12_names 18 = .ok (.ireturn, 1) := di_172 nX12_names (Eq.refl true) (Eq.refl true)
theorem dX12_names_19 : decode cX12_names 19 = .ok (.aload_n 0, 1) := di_42 nX12_names (Eq.refl true) (Eq.refl true)
theorem dX12_names_20 : decode cX12_names 20 = .ok (.getfield 102, 3) := di_180 nX12_names (Eq.refl true) (Eq.refl true) (Eq.refl true)
theorem dX12_names_23 : decode cX12_names 23 = .ok (.iload_n 1, 1) := di_27 nX12_names (Eq.refl true) (Eq.refl true)
theorem dX12_names_24 : decode cX12_names 24 = .ok (.iaload, 1) := di_46 nX12_names (Eq.refl true) (Eq.refl true)
theorem dX12_names_25 : decode cX12_names 25 = .ok (.ifCond .ge 12, 3) := di_156 (x := 12) nX12_names (Eq.refl true) (Eq.refl true) (Eq.refl true) rfl
theorem dX12_names_28 : decode cX12_names 28 = .ok (.aload_n 0, 1) := di_42 nX12_names (Eq.refl true) (Eq.refl true)
theorem dX12_names_29 : decode cX12_names 29 = .ok (.getfield 105, 3) := di_180 nX12_names (Eq.refl true) (Eq.refl true) (Eq.refl true)
theorem dX12_names_32 : decode cX12_names 32 = .ok (.iload_n 1, 1) := di_27 nX12_names (Eq.refl true) (Eq.refl true)
theorem dX12_names_33 : decode cX12_names 33 = .ok (.iaload, 1) := di_46 nX12_names (Eq.refl true) (Eq.refl true)
theorem dX12_names_34 : decode cX12_names 34 = .ok (.ifCond .le 6, 3) := di_158 (x := 6) nX12_names (Eq.refl true) (Eq.refl true) (Eq.refl true) rfl
theorem dX12_names_40 : decode cX12_names 40 = .ok (.aload_n 0, 1) := di_42 nX12_names (Eq.refl true) (Eq.refl true)
theorem dX12_names_41 : decode cX12_names 41 = .ok (.getfield 105, 3) := di_180 nX12_names (Eq.refl true) (Eq.refl true) (Eq.refl true)
theorem dX12_names_44 : decode cX12_names 44 = .ok (.iload_n 1, 1) := di_27 nX12_names (Eq.refl true) (Eq.refl true)
theorem dX12_names_45 : decode cX12_names 45 = .ok (.iaload, 1) := di_46 nX12_names (Eq.refl true) (Eq.refl true)
theorem dX12_names_46 : decode cX12_names 46 = .ok (.ifCond .ne 12, 3) := di_154 (x := 12) nX12_names (Eq.refl true) (Eq.refl true) (Eq.refl true) rfl
theorem dX12_names_58 : decode cX12_names 58 = .ok (.iconst 0, 1) := di_3 nX12_names (Eq.refl true) (Eq.refl true)
theorem dX12_names_59 : decode cX12_names 59 = .ok (.istore 4, 2) := di_54 nX12_names (Eq.refl true) (Eq.refl true)
theorem dX12_names_61 : decode cX12_names 61 = .ok (.iload_n 2, 1) := di_28 nX12_names (Eq.refl true) (Eq.refl true)
theorem dX12_names_62 : decode cX12_names 62 = .ok (.ifCond .ge 8, 3) := di_156 (x := 8) nX12_names (Eq.refl true) (Eq.refl true) (Eq.refl true) rfl
theorem dX12_names_65 : decode cX12_names 65 = .ok (.iload 4, 2) := di_21 nX12_names (Eq.refl true) (Eq.refl true)
theorem dX12_names_67 : decode cX12_names 67 = .ok (.goto 4, 3) := di_167 (x := 4) nX12_names (Eq.refl true) (Eq.refl true) (Eq.refl true) rfl
theorem dX12_names_70 : decode cX12_names 70 = .ok (.iload_n 2, 1) := di_28 nX12_names (Eq.refl true) (Eq.refl true)
theorem dX12_names_71 : decode cX12_names 71 = .ok (.istore 5, 2) := di_54 nX12_names (Eq.refl true) (Eq.refl true)
theorem dX12_names_73 : decode cX12_names 73 = .ok (.iconst 0, 1) := di_3 nX12_names (Eq.refl true) (Eq.refl true)
theorem dX12_names_74 : decode cX12_names 74 = .ok (.istore 6, 2) := di_54 nX12_names (Eq.refl true) (Eq.refl true)
theorem dX12_names_76 : decode cX12_names 76 = .ok (.iconst 1, 1) := di_4 nX12_names (Eq.refl true) (Eq.refl true)
theorem dX12_names_77 : decode cX12_names 77 = .ok (.istore 7, 2) := di_54 nX12_names (Eq.refl true) (Eq.refl true)
theorem dX12_names_79 : decode cX12_names 79 = .ok (.iconst 0, 1) := di_3 nX12_names (Eq.refl true) (Eq.refl true)
theorem dX12_names_80 : decode cX12_names 80 = .ok (.istore 8, 2) := di_54 nX12_names (Eq.refl true) (Eq.refl true)
theorem dX12_names_82 : decode cX12_names 82 = .ok (.iload 8, 2) := di_21 nX12_names (Eq.refl true) (Eq.refl true)
theorem dX12_names_84 : decode cX12_names 84 = .ok (.iload_n 3, 1) := di_29 nX12_names (Eq.refl true) (Eq.refl true)
theorem dX12_names_85 : decode cX12_names 85 = .ok (.if_icmp .ge 202, 3) := di_162 (x := 202) nX12_names (Eq.refl true) (Eq.refl true) (Eq.refl true) rfl
theorem dX12_names_88 : decode cX12_names 88 = .ok (.iload 7, 2) := di_21 nX12_names (Eq.refl true) (Eq.refl true)
theorem dX12_names_90 : decode cX12_names 90 = .ok (.ifCond .eq 197, 3) := di_153 (x := 197) nX12_names (Eq.refl true) (Eq.refl true) (Eq.refl true) rfl
theorem dX12_names_93 : decode cX12_names 93 = .ok (.iload 5, 2) := di_21 nX12_names (Eq.refl true) (Eq.refl true)
theorem dX12_names_95 : decode cX12_names 95 = .ok (.iload 4, 2) := di_21 nX12_names (Eq.refl true) (Eq.refl true)
theorem dX12_names_97 : decode cX12_names 97 = .ok (.if_icmp .ge 19, 3) := di_162 (x := 19) nX12_names (Eq.refl true) (Eq.refl true) (Eq.refl true) rfl
theorem dX12_names_116 : decode cX12_names 116 = .ok (.iconst 0, 1) := di_3 nX12_names (Eq.refl true) (Eq.refl true)
theorem dX12_names_117 : decode cX12_names 117 = .ok (.istore 9, 2) := di_54 nX12_names (Eq.refl true) (Eq.refl true)
theorem dX12_names_119 : decode cX12_names 119 = .ok (.iload 9, 2) := di_21 nX12_names (Eq.refl true) (Eq.refl true)
theorem dX12_names_121 : decode cX12_names 121 = .ok (.iconst 1, 1) := di_4 nX12_names (Eq.refl true) (Eq.refl true)
theorem dX12_names_122 : decode cX12_names 122 = .ok (.bipush 6, 2) := di_16 (x := 6) nX12_names (Eq.refl true) (Eq.refl true) rfl
theorem dX12_names_124 : decode cX12_names 124 = .ok (.invokestatic 136, 3) := di_184 nX12_names (Eq.refl true) (Eq.refl true) (Eq.refl true)
theorem dX12_names_127 : decode cX12_names 127 = .ok (.ifCond .eq 17, 3) := di_153 (x := 17) nX12_names (Eq.refl true) (Eq.refl true) (Eq.refl true) rfl
theorem dX12_names_144 : decode cX12_names 144 = .ok (.iconst 0, 1) := di_3 nX12_names (Eq.refl true) (Eq.refl true)
theorem dX12_names_145 : decode cX12_names 145 = .ok (.istore 7, 2) := di_54 nX12_names (Eq.refl true) (Eq.refl true)
theorem dX12_names_147 : decode cX12_names 147 = .ok (.iconst 0, 1) := di_3 nX12_names (Eq.refl true) (Eq.refl true)
theorem dX12_names_148 : decode cX12_names 148 = .ok (.istore 10, 2) := di_54 nX12_names (Eq.refl true) (Eq.refl true)
theorem dX12_names_150 : decode cX12_names 150 = .ok (.iload 10, 2) := di_21 nX12_names (Eq.refl true) (Eq.refl true)
theorem dX12_names_152 : decode cX12_names 152 = .ok (.iload 9, 2) := di_21 nX12_names (Eq.refl true) (Eq.refl true)
theorem dX12_names_154 : decode cX12_names 154 = .ok (.if_icmp .ge 43, 3) := di_162 (x := 43) nX12_names (Eq.refl true) (Eq.refl true) (Eq.refl true) rfl
theorem dX12_names_197 : decode cX12_names 197 = .ok (.iload 7, 2) := di_21 nX12_names (Eq.refl true) (Eq.refl true)
theorem dX12_names_199 : decode cX12_names 199 = .ok (.ifCond .eq 16, 3) := di_153 (x := 16) nX12_names (Eq.refl true) (Eq.refl true) (Eq.refl true) rfl
theorem dX12_names_215 : decode cX12_names 215 = .ok (.iconst 0, 1) := di_3 nX12_names (Eq.refl true) (Eq.refl true)
theorem dX12_names_216 : decode cX12_names 216 = .ok (.istore 10, 2) := di_54 nX12_names (Eq.refl true) (Eq.refl true)
theorem dX12_names_218 : decode cX12_names 218 = .ok (.iload 7, 2) := di_21 nX12_names (Eq.refl true) (Eq.refl true)
theorem dX12_names_220 : decode cX12_names 220 = .ok (.ifCond .eq 21, 3) := di_153 (x := 21) nX12_names (Eq.refl true) (Eq.refl true) (Eq.refl true) rfl
theorem dX12_names_241 : decode cX12_names 241 = .ok (.iconst 0, 1) := di_3 nX12_names (Eq.refl true) (Eq.refl true)
theorem dX12_names_242 : decode cX12_names 242 = .ok (.istore 7, 2) := di_54 nX12_names (Eq.refl true) (Eq.refl true)
theorem dX12_names_244 : decode cX12_names 244 = .ok (.iload 7, 2) := di_21 nX12_names (Eq.refl true) (Eq.refl true)
theorem dX12_names_246 : decode cX12_names 246 = .ok (.ifCond .eq 17, 3) := di_153 (x := 17) nX12_names (Eq.refl true) (Eq.refl true) (Eq.refl true) rfl
theorem dX12_names_263 : decode cX12_names 263 = .ok (.iload 5, 2) := di_21 nX12_names (Eq.refl true) (Eq.refl true)
theorem dX12_names_265 : decode cX12_names 265 = .ok (.iload 7, 2) := di_21 nX12_names (Eq.refl true) (Eq.refl true)
theorem dX12_names_267 : decode cX12_names 267 = .ok (.ifCond .eq 10, 3) := di_153 (x := 10) nX12_names (Eq.refl true) (Eq.refl true) (Eq.refl true) rfl
theorem dX12_names_277 : decode cX12_names 277 = .ok (.iconst 0, 1) := di_3 nX12_names (Eq.refl true) (Eq.refl true)
theorem dX12_names_278 : decode cX12_names 278 = .ok (.iadd, 1) := di_96 nX12_names (Eq.refl true) (Eq.refl true)
theorem dX12_names_279 : decode cX12_names 279 = .ok (.istore 5, 2) := di_54 nX12_names (Eq.refl true) (Eq.refl true)
theorem dX12_names_281 : decode cX12_names 281 = .ok (.iinc 8 1, 3) := di_132 (y := 1) nX12_names (Eq.refl true) (Eq.refl true) (Eq.refl true) rfl
theorem dX12_names_284 : decode cX12_names 284 = .ok (.goto (-202), 3) := di_167 (x := 65334) nX12_names (Eq.refl true) (Eq.refl true) (Eq.refl true) rfl
theorem dX12_names_287 : decode cX12_names 287 = .ok (.iload 6, 2) := di_21 nX12_names (Eq.refl true) (Eq.refl true)
theorem dX12_names_289 : decode cX12_names 289 = .ok (.ireturn, 1) := di_172 nX12_names (Eq.refl true) (Eq.refl true)
noncomputable def NX12_count : Nat := 1524582118898935762971056392153146919052633636317608464203088605705719375216806343336054199223389874629302479195448293491507320532448044697530492531402617457961365799093812585314810950025596801787041461297489952267289627847892577449920720940432136281143353297821921677891459562755
theorem nX12_count : CN cX12_count NX12_count 116 := ⟨by decide +kernel, by decide +kernel⟩
theorem dX12_count_0 : decode cX12_count 0 = .ok (.iconst 0, 1) := di_3 nX12_count (Eq.refl true) (Eq.refl true)
theorem dX12_count_1 : decode cX12_count 1 = .ok (.istore_n 2, 1) := di_61 nX12_count (Eq.refl true) (Eq.refl true)
theorem dX12_count_2 : decode cX12_count 2 = .ok (.iload_n 1, 1) := di_27 nX12_count (Eq.refl true) (Eq.refl true)
theorem dX12_count_3 : decode cX12_count 3 = .ok (.tableswitch 111 0 7 #[45, 50, 55, 60, 65, 65, 101, 106], 45) := by decide +kernel
theorem dX12_count_48 : decode cX12_count 48 = .ok (.aload_n 0, 1) := di_42 nX12_count (Eq.refl true) (Eq.refl true)
theorem dX12_count_49 : decode cX12_count 49 = .ok (.getfield 133, 3) := di_180 nX12_count (Eq.refl true) (Eq.refl true) (Eq.refl true)
theorem dX12_count_52 : decode cX12_count 52 = .ok (.ireturn, 1) := di_172 nX12_count (Eq.refl true) (Eq.refl true)
theorem dX12_count_53 : decode cX12_count 53 = .ok (.aload_n 0, 1) := di_42 nX12_count (Eq.refl true) (Eq.refl true)
theorem dX12_count_54 : decode cX12_count 54 = .ok (.getfield 140, 3) := di_180 nX12_count (Eq.refl true) (Eq.refl true) (Eq.refl true)
theorem dX12_count_57 : decode cX12_count 57 = .ok (.ireturn, 1) := di_172 nX12_count (Eq.refl true) (Eq.refl true)
theorem dX12_count_58 : decode cX12_count 58 = .ok (.aload_n 0, 1) := di_42 nX12_count (Eq.refl true) (Eq.refl true)
theorem dX12_count_59 : decode cX12_count 59 = .ok (.getfield 143, 3) := di_180 nX12_count (Eq.refl true) (Eq.refl true) (Eq.refl true)
theorem dX12_count_62 : decode cX12_count 62 = .ok (.ireturn, 1) := di_172 nX12_count (Eq.refl true) (Eq.refl true)
theorem dX12_count_63 : decode cX12_count 63 = .ok (.aload_n 0, 1) := di_42 nX12_count (Eq.refl true) (Eq.refl true)
theorem dX12_count_64 : decode cX12_count 64 = .ok (.getfield 146, 3) := di_180 nX12_count (Eq.refl true) (Eq.refl true) (Eq.refl true)
theorem dX12_count_67 : decode cX12_count 67 = .ok (.ireturn, 1) := di_172 nX12_count (Eq.refl true) (Eq.refl true)
theorem dX12_count_68 : decode cX12_count 68 = .ok (.iconst 0, 1) := di_3 nX12_count (Eq.refl true) (Eq.refl true)
theorem dX12_count_69 : decode cX12_count 69 = .ok (.istore_n 3, 1) := di_62 nX12_count (Eq.refl true) (Eq.refl true)
theorem dX12_count_70 : decode cX12_count 70 = .ok (.iload_n 3, 1) := di_29 nX12_count (Eq.refl true) (Eq.refl true)
theorem dX12_count_71 : decode cX12_count 71 = .ok (.aload_n 0, 1) := di_42 nX12_count (Eq.refl true) (Eq.refl true)
theorem dX12_count_72 : decode cX12_count 72 = .ok (.getfield 140, 3) := di_180 nX12_count (Eq.refl true) (Eq.refl true) (Eq.refl true)
theorem dX12_count_75 : decode cX12_count 75 = .ok (.if_icmp .ge 27, 3) := di_162 (x := 27) nX12_count (Eq.refl true) (Eq.refl true) (Eq.refl true) rfl
theorem dX12_count_102 : decode cX12_count 102 = .ok (.iload_n 2, 1) := di_28 nX12_count (Eq.refl true) (Eq.refl true)
theorem dX12_count_103 : decode cX12_count 103 = .ok (.ireturn, 1) := di_172 nX12_count (Eq.refl true) (Eq.refl true)
theorem dX12_count_104 : decode cX12_count 104 = .ok (.aload_n 0, 1) := di_42 nX12_count (Eq.refl true) (Eq.refl true)
theorem dX12_count_105 : decode cX12_count 105 = .ok (.getfield 290, 3) := di_180 nX12_count (Eq.refl true) (Eq.refl true) (Eq.refl true)
theorem dX12_count_108 : decode cX12_count 108 = .ok (.ireturn, 1) := di_172 nX12_count (Eq.refl true) (Eq.refl true)
theorem dX12_count_109 : decode cX12_count 109 = .ok (.aload_n 0, 1) := di_42 nX12_count (Eq.refl true) (Eq.refl true)
theorem dX12_count_110 : decode cX12_count 110 = .ok (.getfield 334, 3) := di_180 nX12_count (Eq.refl true) (Eq.refl true) (Eq.refl true)
theorem dX12_count_113 : decode cX12_count 113 = .ok (.ireturn, 1) := di_172 nX12_count (Eq.refl true) (Eq.refl true)
theorem dX12_count_114 : decode cX12_count 114 = .ok (.iconst (-1), 1) := di_2 nX12_count (Eq.refl true) (Eq.refl true)
theorem dX12_count_115 : decode cX12_count 115 = .ok (.ireturn, 1) := di_172 nX12_count (Eq.refl true) (Eq.refl true)
noncomputable def NJ7_fill_d0a16 : Nat := 17044522651025561517978723155143184090410705670996901379
theorem nJ7_fill_d0a16 : CN cJ7_fill_d0a16 NJ7_fill_d0a16 23 := ⟨by decide +kernel, by decide +kernel⟩
theorem dJ7_fill_d0a16_0 : decode cJ7_fill_d0a16 0 = .ok (.iconst 0, 1) := di_3 nJ7_fill_d0a16 (Eq.refl true) (Eq.refl true)
theorem dJ7_fill_d0a16_1 : decode cJ7_fill_d0a16 1 = .ok (.istore_n 3, 1) := di_62 nJ7_fill_d0a16 (Eq.refl true) (Eq.refl true)
theorem dJ7_fill_d0a16_2 : decode cJ7_fill_d0a16 2 = .ok (.aload_n 0, 1) := di_42 nJ7_fill_d0a16 (Eq.refl true) (Eq.refl true)
theorem dJ7_fill_d0a16_3 : decode cJ7_fill_d0a16 3 = .ok (.arraylength, 1) := di_190 nJ7_fill_d0a16 (Eq.refl true) (Eq.refl true)
theorem dJ7_fill_d0a16_4 : decode cJ7_fill_d0a16 4 = .ok (.istore 4, 2) := di_54 nJ7_fill_d0a16 (Eq.refl true) (Eq.refl true)
theorem dJ7_fill_d0a16_6 : decode cJ7_fill_d0a16 6 = .ok (.iload_n 3, 1) := di_29 nJ7_fill_d0a16 (Eq.refl true) (Eq.refl true)
theorem dJ7_fill_d0a16_7 : decode cJ7_fill_d0a16 7 = .ok (.iload 4, 2) := di_21 nJ7_fill_d0a16 (Eq.refl true) (Eq.refl true)
theorem dJ7_fill_d0a16_9 : decode cJ7_fill_d0a16 9 = .ok (.if_icmp .ge 13, 3) := di_162 (x := 13) nJ7_fill_d0a16 (Eq.refl true) (Eq.refl true) (Eq.refl true) rfl
theorem dJ7_fill_d0a16_12 : decode cJ7_fill_d0a16 12 = .ok (.aload_n 0, 1) := di_42 nJ7_fill_d0a16 (Eq.refl true) (Eq.refl true)
theorem dJ7_fill_d0a16_13 : decode cJ7_fill_d0a16 13 = .ok (.iload_n 3, 1) := di_29 nJ7_fill_d0a16 (Eq.refl true) (Eq.refl true)
theorem dJ7_fill_d0a16_14 : decode cJ7_fill_d0a16 14 = .ok (.lload_n 1, 1) := di_31 nJ7_fill_d0a16 (Eq.refl true) (Eq.refl true)
theorem dJ7_fill_d0a16_15 : decode cJ7_fill_d0a16 15 = .ok (.lastore, 1) := di_80 nJ7_fill_d0a16 (Eq.refl true) (Eq.refl true)
theorem dJ7_fill_d0a16_16 : decode cJ7_fill_d0a16 16 = .ok (.iinc 3 1, 3) := di_132 (y := 1) nJ7_fill_d0a16 (Eq.refl true) (Eq.refl true) (Eq.refl true) rfl
theorem dJ7_fill_d0a16_19 : decode cJ7_fill_d0a16 19 = .ok (.goto (-13), 3) := di_167 (x := 65523) nJ7_fill_d0a16 (Eq.refl true) (Eq.refl true) (Eq.refl true) rfl
theorem dJ7_fill_d0a16_22 : decode cJ7_fill_d0a16 22 = .ok (.return_, 1) := di_177 nJ7_fill_d0a16 (Eq.refl true) (Eq.refl true)
noncomputable def NJ7_fill_53178 : Nat := 260084484793771837089383454476700660118993838423299
theorem nJ7_fill_53178 : CN cJ7_fill_53178 NJ7_fill_53178 21 := ⟨by decide +kernel, by decide +kernel⟩
theorem dJ7_fill_53178_0 : decode cJ7_fill_53178 0 = .ok (.iconst 0, 1) := di_3 nJ7_fill_53178 (Eq.refl true) (Eq.refl true)
theorem dJ7_fill_53178_1 : decode cJ7_fill_53178 1 = .ok (.istore_n 2, 1) := di_61 nJ7_fill_53178 (Eq.refl true) (Eq.refl true)
theorem dJ7_fill_53178_2 : decode cJ7_fill_53178 2 = .ok (.aload_n 0, 1) := di_42 nJ7_fill_53178 (Eq.refl true) (Eq.refl true)
theorem dJ7_fill_53178_3 : decode cJ7_fill_53178 3 = .ok (.arraylength, 1) := di_190 nJ7_fill_53178 (Eq.refl true) (Eq.refl true)
theorem dJ7_fill_53178_4 : decode cJ7_fill_53178 4 = .ok (.istore_n 3, 1) := di_62 nJ7_fill_53178 (Eq.refl true) (Eq.refl true)
theorem dJ7_fill_53178_5 : decode cJ7_fill_53178 5 = .ok (.iload_n 2, 1) := di_28 nJ7_fill_53178 (Eq.refl true) (Eq.refl true)
theorem dJ7_fill_53178_6 : decode cJ7_fill_53178 6 = .ok (.iload_n 3, 1) := di_29 nJ7_fill_53178 (Eq.refl true) (Eq.refl true)
theorem dJ7_fill_53178_7 : decode cJ7_fill_53178 7 = .ok (.if_icmp .ge 13, 3) := di_162 (x := 13) nJ7_fill_53178 (Eq.refl true) (Eq.refl true) (Eq.refl true) rfl
theorem dJ7_fill_53178_10 : decode cJ7_fill_53178 10 = .ok (.aload_n 0, 1) := di_42 nJ7_fill_53178 (Eq.refl true) (Eq.refl true)
theorem dJ7_fill_53178_11 : decode cJ7_fill_53178 11 = .ok (.iload_n 2, 1) := di_28 nJ7_fill_53178 (Eq.refl true) (Eq.refl true)
theorem dJ7_fill_53178_12 : decode cJ7_fill_53178 12 = .ok (.iload_n 1, 1) := di_27 nJ7_fill_53178 (Eq.refl true) (Eq.refl true)
theorem dJ7_fill_53178_13 : decode cJ7_fill_53178 13 = .ok (.iastore, 1) := di_79 nJ7_fill_53178 (Eq.refl true) (Eq.refl true)
theorem dJ7_fill_53178_14 : decode cJ7_fill_53178 14 = .ok (.iinc 2 1, 3) := di_132 (y := 1) nJ7_fill_53178 (Eq.refl true) (Eq.refl true) (Eq.refl true) rfl
theorem dJ7_fill_53178_17 : decode cJ7_fill_53178 17 = .ok (.goto (-12), 3) := di_167 (x := 65524) nJ7_fill_53178 (Eq.refl true) (Eq.refl true) (Eq.refl true) rfl
theorem dJ7_fill_53178_20 : decode cJ7_fill_53178 20 = .ok (.return_, 1) := di_177 nJ7_fill_53178 (Eq.refl true) (Eq.refl true)
noncomputable abbrev vwCl : List vw_C := [(RX0, TX0, 5), (RX1, TX1, 9), (RX2, TX2, 6), (RX3, TX3, 8), (RX4, TX4, 4), (RX5, TX5, 10), (RX6, TX6, 12), (RX7, TX7, 4), (RX8, TX8, 13), (RX9, TX9, 2), (RX10, TX10, 5), (RX11, TX11, 13), (RX12, TX12, 59)]

